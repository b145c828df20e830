def ln (n : Nat) : Nat := 2 * n + (if n ≤ 8 then 2 else 3)
def sgS (nn ht lys fa mk : Nat) : Nat := nn + mk * (fa + 1) * nn + lys * (ln nn + ht) * nn
def wiB (x a b : Int32) : Bool := decide (a ≤ x) && decide (x ≤ b)
theorem slice_put_take {d : Nat → Int32} {l : List Int32} {k : Nat} (hk : k ≤ l.length) : slice (putL d 0 l) 0 k = l.take k := by
  have h1 : slice (putL d 0 l) 0 k = slice (lF l) 0 k := slice_congr (fun j hj => by rw [putL_in (by omega)]; rw [Nat.zero_add]; rfl)
  rw [h1]
  apply List.ext_getElem
  · rw [slice_length, List.length_take]; omega
  · intro i h2 h3
    rw [slice_length] at h2
    have h4 := slice_getD (f := lF l) (s := 0) h2
    rw [Nat.zero_add] at h4
    rw [List.getElem_take]
    have h5 : i < l.length := by omega
    simp only [List.getD, List.getElem?_eq_getElem (show i < (slice (lF l) 0 k).length by rw [slice_length]; exact h2), Option.getD_some, lF, List.getElem?_eq_getElem h5] at h4
    exact h4
theorem pw2 {h : Nat} (hh : h ≤ 2) : 1 * 2 ^ h < 2 ^ 32 := by
  have : 2 ^ h ≤ 2 ^ 2 := Nat.pow_le_pow_right (by decide) hh
  omega
theorem isB_fo {fo FO : Nat → Int32} {l : List Int32} (h : isB fo) (e : FO = putL fo 0 l) (hl : isBL l) : isB FO := by rw [e]; exact putL_B h hl

theorem dX8_isWithin_0 : decode cX8_isWithin 0 = .ok (.iload_n 0, 1) := by decide +kernel
theorem dX8_isWithin_1 : decode cX8_isWithin 1 = .ok (.iload_n 1, 1) := by decide +kernel
theorem dX8_isWithin_2 : decode cX8_isWithin 2 = .ok (.if_icmp .lt 12, 3) := by decide +kernel
theorem dX8_isWithin_5 : decode cX8_isWithin 5 = .ok (.iload_n 0, 1) := by decide +kernel
theorem dX8_isWithin_6 : decode cX8_isWithin 6 = .ok (.iload_n 2, 1) := by decide +kernel
theorem dX8_isWithin_7 : decode cX8_isWithin 7 = .ok (.if_icmp .gt 7, 3) := by decide +kernel
theorem dX8_isWithin_10 : decode cX8_isWithin 10 = .ok (.iconst 1, 1) := by decide +kernel
theorem dX8_isWithin_11 : decode cX8_isWithin 11 = .ok (.goto 4, 3) := by decide +kernel
theorem dX8_isWithin_14 : decode cX8_isWithin 14 = .ok (.iconst 0, 1) := by decide +kernel
theorem dX8_isWithin_15 : decode cX8_isWithin 15 = .ok (.ireturn, 1) := by decide +kernel
theorem dX8_become_0 : decode cX8_become 0 = .ok (.aload_n 0, 1) := by decide +kernel
theorem dX8_become_1 : decode cX8_become 1 = .ok (.iload_n 1, 1) := by decide +kernel
theorem dX8_become_2 : decode cX8_become 2 = .ok (.putfield 19, 3) := by decide +kernel
theorem dX8_become_5 : decode cX8_become 5 = .ok (.aload_n 0, 1) := by decide +kernel
theorem dX8_become_6 : decode cX8_become 6 = .ok (.iload_n 2, 1) := by decide +kernel
theorem dX8_become_7 : decode cX8_become 7 = .ok (.putfield 23, 3) := by decide +kernel
theorem dX8_become_10 : decode cX8_become 10 = .ok (.aload_n 0, 1) := by decide +kernel
theorem dX8_become_11 : decode cX8_become 11 = .ok (.iload_n 3, 1) := by decide +kernel
theorem dX8_become_12 : decode cX8_become 12 = .ok (.putfield 26, 3) := by decide +kernel
theorem dX8_become_15 : decode cX8_become 15 = .ok (.aload_n 0, 1) := by decide +kernel
theorem dX8_become_16 : decode cX8_become 16 = .ok (.iload 4, 2) := by decide +kernel
theorem dX8_become_18 : decode cX8_become 18 = .ok (.putfield 29, 3) := by decide +kernel
theorem dX8_become_21 : decode cX8_become 21 = .ok (.aload_n 0, 1) := by decide +kernel
theorem dX8_become_22 : decode cX8_become 22 = .ok (.iload 5, 2) := by decide +kernel
theorem dX8_become_24 : decode cX8_become 24 = .ok (.putfield 32, 3) := by decide +kernel
theorem dX8_become_27 : decode cX8_become 27 = .ok (.aload_n 0, 1) := by decide +kernel
theorem dX8_become_28 : decode cX8_become 28 = .ok (.iload 6, 2) := by decide +kernel
theorem dX8_become_30 : decode cX8_become 30 = .ok (.putfield 35, 3) := by decide +kernel
theorem dX8_become_33 : decode cX8_become 33 = .ok (.return_, 1) := by decide +kernel
theorem dX8_len_0 : decode cX8_len 0 = .ok (.iconst 2, 1) := by decide +kernel
theorem dX8_len_1 : decode cX8_len 1 = .ok (.aload_n 0, 1) := by decide +kernel
theorem dX8_len_2 : decode cX8_len 2 = .ok (.getfield 23, 3) := by decide +kernel
theorem dX8_len_5 : decode cX8_len 5 = .ok (.imul, 1) := by decide +kernel
theorem dX8_len_6 : decode cX8_len 6 = .ok (.aload_n 0, 1) := by decide +kernel
theorem dX8_len_7 : decode cX8_len 7 = .ok (.getfield 23, 3) := by decide +kernel
theorem dX8_len_10 : decode cX8_len 10 = .ok (.bipush 8, 2) := by decide +kernel
theorem dX8_len_12 : decode cX8_len 12 = .ok (.if_icmp .gt 7, 3) := by decide +kernel
theorem dX8_len_15 : decode cX8_len 15 = .ok (.iconst 2, 1) := by decide +kernel
theorem dX8_len_16 : decode cX8_len 16 = .ok (.goto 4, 3) := by decide +kernel
theorem dX8_len_19 : decode cX8_len 19 = .ok (.iconst 3, 1) := by decide +kernel
theorem dX8_len_20 : decode cX8_len 20 = .ok (.iadd, 1) := by decide +kernel
theorem dX8_len_21 : decode cX8_len 21 = .ok (.ireturn, 1) := by decide +kernel
theorem dX8_leaves_0 : decode cX8_leaves 0 = .ok (.iconst 1, 1) := by decide +kernel
theorem dX8_leaves_1 : decode cX8_leaves 1 = .ok (.aload_n 0, 1) := by decide +kernel
theorem dX8_leaves_2 : decode cX8_leaves 2 = .ok (.getfield 26, 3) := by decide +kernel
theorem dX8_leaves_5 : decode cX8_leaves 5 = .ok (.ishl, 1) := by decide +kernel
theorem dX8_leaves_6 : decode cX8_leaves 6 = .ok (.ireturn, 1) := by decide +kernel
theorem dX8_fewSize_0 : decode cX8_fewSize 0 = .ok (.aload_n 0, 1) := by decide +kernel
theorem dX8_fewSize_1 : decode cX8_fewSize 1 = .ok (.getfield 35, 3) := by decide +kernel
theorem dX8_fewSize_4 : decode cX8_fewSize 4 = .ok (.aload_n 0, 1) := by decide +kernel
theorem dX8_fewSize_5 : decode cX8_fewSize 5 = .ok (.getfield 32, 3) := by decide +kernel
theorem dX8_fewSize_8 : decode cX8_fewSize 8 = .ok (.iconst 1, 1) := by decide +kernel
theorem dX8_fewSize_9 : decode cX8_fewSize 9 = .ok (.iadd, 1) := by decide +kernel
theorem dX8_fewSize_10 : decode cX8_fewSize 10 = .ok (.imul, 1) := by decide +kernel
theorem dX8_fewSize_11 : decode cX8_fewSize 11 = .ok (.aload_n 0, 1) := by decide +kernel
theorem dX8_fewSize_12 : decode cX8_fewSize 12 = .ok (.getfield 23, 3) := by decide +kernel
theorem dX8_fewSize_15 : decode cX8_fewSize 15 = .ok (.imul, 1) := by decide +kernel
theorem dX8_fewSize_16 : decode cX8_fewSize 16 = .ok (.ireturn, 1) := by decide +kernel
set_option maxRecDepth 20000 in
theorem ggX8_size_X8_fewSize : GoodIn wsX8_size wsX8_fewSize := goodIn_r _ [8, 9, 10, 1, 15, 16, 17, 18, 19, 20] rfl (by decide +kernel)
set_option maxRecDepth 20000 in
theorem gX8_size_X8_fewSize : GoodIn wsX8_size (wsV RX8 42 RX8 yX8_fewSize wsX8_fewSize) := goodIn_app (goodIn_of _ (by decide +kernel)) ggX8_size_X8_fewSize
set_option maxRecDepth 20000 in
theorem ggX8_size_X8_len : GoodIn wsX8_size wsX8_len := goodIn_r _ [14, 1, 15, 16, 17, 18, 19, 20] rfl (by decide +kernel)
set_option maxRecDepth 20000 in
theorem gX8_size_X8_len : GoodIn wsX8_size (wsV RX8 45 RX8 yX8_len wsX8_len) := goodIn_app (goodIn_of _ (by decide +kernel)) ggX8_size_X8_len
theorem dX8_size_0 : decode cX8_size 0 = .ok (.aload_n 0, 1) := by decide +kernel
theorem dX8_size_1 : decode cX8_size 1 = .ok (.getfield 23, 3) := by decide +kernel
theorem dX8_size_4 : decode cX8_size 4 = .ok (.aload_n 0, 1) := by decide +kernel
theorem dX8_size_5 : decode cX8_size 5 = .ok (.invokevirtual 42, 3) := by decide +kernel
theorem dX8_size_8 : decode cX8_size 8 = .ok (.iadd, 1) := by decide +kernel
theorem dX8_size_9 : decode cX8_size 9 = .ok (.aload_n 0, 1) := by decide +kernel
theorem dX8_size_10 : decode cX8_size 10 = .ok (.getfield 29, 3) := by decide +kernel
theorem dX8_size_13 : decode cX8_size 13 = .ok (.aload_n 0, 1) := by decide +kernel
theorem dX8_size_14 : decode cX8_size 14 = .ok (.invokevirtual 45, 3) := by decide +kernel
theorem dX8_size_17 : decode cX8_size 17 = .ok (.aload_n 0, 1) := by decide +kernel
theorem dX8_size_18 : decode cX8_size 18 = .ok (.getfield 26, 3) := by decide +kernel
theorem dX8_size_21 : decode cX8_size 21 = .ok (.iadd, 1) := by decide +kernel
theorem dX8_size_22 : decode cX8_size 22 = .ok (.imul, 1) := by decide +kernel
theorem dX8_size_23 : decode cX8_size 23 = .ok (.aload_n 0, 1) := by decide +kernel
theorem dX8_size_24 : decode cX8_size 24 = .ok (.getfield 23, 3) := by decide +kernel
theorem dX8_size_27 : decode cX8_size 27 = .ok (.imul, 1) := by decide +kernel
theorem dX8_size_28 : decode cX8_size 28 = .ok (.iadd, 1) := by decide +kernel
theorem dX8_size_29 : decode cX8_size 29 = .ok (.ireturn, 1) := by decide +kernel
theorem dX5_ofForm_0 : decode cX5_ofForm 0 = .ok (.iload_n 1, 1) := by decide +kernel
theorem dX5_ofForm_1 : decode cX5_ofForm 1 = .ok (.ifCond .ne 10, 3) := by decide +kernel
theorem dX5_ofForm_4 : decode cX5_ofForm 4 = .ok (.aload_n 0, 1) := by decide +kernel
theorem dX5_ofForm_5 : decode cX5_ofForm 5 = .ok (.getfield 26, 3) := by decide +kernel
theorem dX5_ofForm_8 : decode cX5_ofForm 8 = .ok (.goto 7, 3) := by decide +kernel
theorem dX5_ofForm_11 : decode cX5_ofForm 11 = .ok (.aload_n 0, 1) := by decide +kernel
theorem dX5_ofForm_12 : decode cX5_ofForm 12 = .ok (.getfield 33, 3) := by decide +kernel
theorem dX5_ofForm_15 : decode cX5_ofForm 15 = .ok (.areturn, 1) := by decide +kernel
theorem dX5_moveTo_0 : decode cX5_moveTo 0 = .ok (.aload_n 0, 1) := by decide +kernel
theorem dX5_moveTo_1 : decode cX5_moveTo 1 = .ok (.iload_n 1, 1) := by decide +kernel
theorem dX5_moveTo_2 : decode cX5_moveTo 2 = .ok (.putfield 43, 3) := by decide +kernel
theorem dX5_moveTo_5 : decode cX5_moveTo 5 = .ok (.aload_n 0, 1) := by decide +kernel
theorem dX5_moveTo_6 : decode cX5_moveTo 6 = .ok (.iload_n 2, 1) := by decide +kernel
theorem dX5_moveTo_7 : decode cX5_moveTo 7 = .ok (.putfield 47, 3) := by decide +kernel
theorem dX5_moveTo_10 : decode cX5_moveTo 10 = .ok (.return_, 1) := by decide +kernel
set_option maxRecDepth 20000 in
theorem ggX5_start_X7_clear : GoodIn wsX5_start wsX7_clear := goodIn_r _ [12, 13, 45, 46] rfl (by decide +kernel)
set_option maxRecDepth 20000 in
theorem gX5_start_X7_clear : GoodIn wsX5_start (wsV RX5 55 RX7 yX7_clear wsX7_clear) := goodIn_app (goodIn_of _ (by decide +kernel)) ggX5_start_X7_clear
set_option maxRecDepth 20000 in
theorem ggX5_start_X7_lay : GoodIn wsX5_start wsX7_lay := goodIn_r _ [17, 13, 18, 19, 20, 21, 22, 23, 24, 25, 26, 45, 46] rfl (by decide +kernel)
set_option maxRecDepth 20000 in
theorem gX5_start_X7_lay : GoodIn wsX5_start (wsV RX5 61 RX7 yX7_lay wsX7_lay) := goodIn_app (goodIn_of _ (by decide +kernel)) ggX5_start_X7_lay
set_option maxRecDepth 20000 in
theorem ggX5_start_X7_addNumber : GoodIn wsX5_start wsX7_addNumber := goodIn_r _ [30, 13, 18, 45, 46] rfl (by decide +kernel)
set_option maxRecDepth 20000 in
theorem gX5_start_X7_addNumber : GoodIn wsX5_start (wsV RX5 65 RX7 yX7_addNumber wsX7_addNumber) := goodIn_app (goodIn_of _ (by decide +kernel)) ggX5_start_X7_addNumber
theorem dX5_start_0 : decode cX5_start 0 = .ok (.aload_n 0, 1) := by decide +kernel
theorem dX5_start_1 : decode cX5_start 1 = .ok (.getfield 36, 3) := by decide +kernel
theorem dX5_start_4 : decode cX5_start 4 = .ok (.getfield 50, 3) := by decide +kernel
theorem dX5_start_7 : decode cX5_start 7 = .ok (.ifCond .ne 7, 3) := by decide +kernel
theorem dX5_start_10 : decode cX5_start 10 = .ok (.iconst 1, 1) := by decide +kernel
theorem dX5_start_11 : decode cX5_start 11 = .ok (.goto 4, 3) := by decide +kernel
theorem dX5_start_14 : decode cX5_start 14 = .ok (.iconst 0, 1) := by decide +kernel
theorem dX5_start_15 : decode cX5_start 15 = .ok (.istore 5, 2) := by decide +kernel
theorem dX5_start_17 : decode cX5_start 17 = .ok (.aload_n 0, 1) := by decide +kernel
theorem dX5_start_18 : decode cX5_start 18 = .ok (.getfield 14, 3) := by decide +kernel
theorem dX5_start_21 : decode cX5_start 21 = .ok (.invokevirtual 55, 3) := by decide +kernel
theorem dX5_start_24 : decode cX5_start 24 = .ok (.aload_n 0, 1) := by decide +kernel
theorem dX5_start_25 : decode cX5_start 25 = .ok (.getfield 14, 3) := by decide +kernel
theorem dX5_start_28 : decode cX5_start 28 = .ok (.iconst 0, 1) := by decide +kernel
theorem dX5_start_29 : decode cX5_start 29 = .ok (.aload_n 0, 1) := by decide +kernel
theorem dX5_start_30 : decode cX5_start 30 = .ok (.getfield 40, 3) := by decide +kernel
theorem dX5_start_33 : decode cX5_start 33 = .ok (.bipush 32, 2) := by decide +kernel
theorem dX5_start_35 : decode cX5_start 35 = .ok (.aload_n 0, 1) := by decide +kernel
theorem dX5_start_36 : decode cX5_start 36 = .ok (.getfield 36, 3) := by decide +kernel
theorem dX5_start_39 : decode cX5_start 39 = .ok (.getfield 58, 3) := by decide +kernel
theorem dX5_start_42 : decode cX5_start 42 = .ok (.invokevirtual 61, 3) := by decide +kernel
theorem dX5_start_45 : decode cX5_start 45 = .ok (.iload 5, 2) := by decide +kernel
theorem dX5_start_47 : decode cX5_start 47 = .ok (.ifCond .eq 21, 3) := by decide +kernel
theorem dX5_start_50 : decode cX5_start 50 = .ok (.aload_n 0, 1) := by decide +kernel
theorem dX5_start_51 : decode cX5_start 51 = .ok (.getfield 14, 3) := by decide +kernel
theorem dX5_start_54 : decode cX5_start 54 = .ok (.lconst 0, 1) := by decide +kernel
theorem dX5_start_55 : decode cX5_start 55 = .ok (.bipush 64, 2) := by decide +kernel
theorem dX5_start_57 : decode cX5_start 57 = .ok (.aload_n 0, 1) := by decide +kernel
theorem dX5_start_58 : decode cX5_start 58 = .ok (.getfield 36, 3) := by decide +kernel
theorem dX5_start_61 : decode cX5_start 61 = .ok (.getfield 58, 3) := by decide +kernel
theorem dX5_start_64 : decode cX5_start 64 = .ok (.isub, 1) := by decide +kernel
theorem dX5_start_65 : decode cX5_start 65 = .ok (.invokevirtual 65, 3) := by decide +kernel
theorem dX5_start_68 : decode cX5_start 68 = .ok (.aload_n 0, 1) := by decide +kernel
theorem dX5_start_69 : decode cX5_start 69 = .ok (.getfield 14, 3) := by decide +kernel
theorem dX5_start_72 : decode cX5_start 72 = .ok (.aload_n 0, 1) := by decide +kernel
theorem dX5_start_73 : decode cX5_start 73 = .ok (.getfield 43, 3) := by decide +kernel
theorem dX5_start_76 : decode cX5_start 76 = .ok (.i2l, 1) := by decide +kernel
theorem dX5_start_77 : decode cX5_start 77 = .ok (.iload 5, 2) := by decide +kernel
theorem dX5_start_79 : decode cX5_start 79 = .ok (.ifCond .eq 7, 3) := by decide +kernel
theorem dX5_start_82 : decode cX5_start 82 = .ok (.iconst 1, 1) := by decide +kernel
theorem dX5_start_83 : decode cX5_start 83 = .ok (.goto 4, 3) := by decide +kernel
theorem dX5_start_86 : decode cX5_start 86 = .ok (.iconst 4, 1) := by decide +kernel
theorem dX5_start_87 : decode cX5_start 87 = .ok (.invokevirtual 65, 3) := by decide +kernel
theorem dX5_start_90 : decode cX5_start 90 = .ok (.aload_n 0, 1) := by decide +kernel
theorem dX5_start_91 : decode cX5_start 91 = .ok (.getfield 14, 3) := by decide +kernel
theorem dX5_start_94 : decode cX5_start 94 = .ok (.aload_n 0, 1) := by decide +kernel
theorem dX5_start_95 : decode cX5_start 95 = .ok (.getfield 47, 3) := by decide +kernel
theorem dX5_start_98 : decode cX5_start 98 = .ok (.i2l, 1) := by decide +kernel
theorem dX5_start_99 : decode cX5_start 99 = .ok (.iload 5, 2) := by decide +kernel
theorem dX5_start_101 : decode cX5_start 101 = .ok (.ifCond .eq 8, 3) := by decide +kernel
theorem dX5_start_104 : decode cX5_start 104 = .ok (.bipush 8, 2) := by decide +kernel
theorem dX5_start_106 : decode cX5_start 106 = .ok (.goto 5, 3) := by decide +kernel
theorem dX5_start_109 : decode cX5_start 109 = .ok (.bipush 12, 2) := by decide +kernel
theorem dX5_start_111 : decode cX5_start 111 = .ok (.invokevirtual 65, 3) := by decide +kernel
theorem dX5_start_114 : decode cX5_start 114 = .ok (.aload_n 0, 1) := by decide +kernel
theorem dX5_start_115 : decode cX5_start 115 = .ok (.getfield 14, 3) := by decide +kernel
theorem dX5_start_118 : decode cX5_start 118 = .ok (.iload_n 1, 1) := by decide +kernel
theorem dX5_start_119 : decode cX5_start 119 = .ok (.i2l, 1) := by decide +kernel
theorem dX5_start_120 : decode cX5_start 120 = .ok (.iload 5, 2) := by decide +kernel
theorem dX5_start_122 : decode cX5_start 122 = .ok (.ifCond .eq 7, 3) := by decide +kernel
theorem dX5_start_125 : decode cX5_start 125 = .ok (.iconst 1, 1) := by decide +kernel
theorem dX5_start_126 : decode cX5_start 126 = .ok (.goto 4, 3) := by decide +kernel
theorem dX5_start_129 : decode cX5_start 129 = .ok (.iconst 4, 1) := by decide +kernel
theorem dX5_start_130 : decode cX5_start 130 = .ok (.invokevirtual 65, 3) := by decide +kernel
theorem dX5_start_133 : decode cX5_start 133 = .ok (.aload_n 0, 1) := by decide +kernel
theorem dX5_start_134 : decode cX5_start 134 = .ok (.getfield 14, 3) := by decide +kernel
theorem dX5_start_137 : decode cX5_start 137 = .ok (.iload_n 2, 1) := by decide +kernel
theorem dX5_start_138 : decode cX5_start 138 = .ok (.i2l, 1) := by decide +kernel
theorem dX5_start_139 : decode cX5_start 139 = .ok (.iconst 4, 1) := by decide +kernel
theorem dX5_start_140 : decode cX5_start 140 = .ok (.invokevirtual 65, 3) := by decide +kernel
theorem dX5_start_143 : decode cX5_start 143 = .ok (.aload_n 0, 1) := by decide +kernel
theorem dX5_start_144 : decode cX5_start 144 = .ok (.getfield 14, 3) := by decide +kernel
theorem dX5_start_147 : decode cX5_start 147 = .ok (.iload_n 3, 1) := by decide +kernel
theorem dX5_start_148 : decode cX5_start 148 = .ok (.i2l, 1) := by decide +kernel
theorem dX5_start_149 : decode cX5_start 149 = .ok (.iconst 4, 1) := by decide +kernel
theorem dX5_start_150 : decode cX5_start 150 = .ok (.invokevirtual 65, 3) := by decide +kernel
theorem dX5_start_153 : decode cX5_start 153 = .ok (.aload_n 0, 1) := by decide +kernel
theorem dX5_start_154 : decode cX5_start 154 = .ok (.getfield 14, 3) := by decide +kernel
theorem dX5_start_157 : decode cX5_start 157 = .ok (.iload 4, 2) := by decide +kernel
theorem dX5_start_159 : decode cX5_start 159 = .ok (.i2l, 1) := by decide +kernel
theorem dX5_start_160 : decode cX5_start 160 = .ok (.iconst 4, 1) := by decide +kernel
theorem dX5_start_161 : decode cX5_start 161 = .ok (.invokevirtual 65, 3) := by decide +kernel
theorem dX5_start_164 : decode cX5_start 164 = .ok (.return_, 1) := by decide +kernel
set_option maxRecDepth 20000 in
theorem ggX5_finish_X5_ofForm : GoodIn wsX5_finish wsX5_ofForm := goodIn_r _ [10, 11, 12, 94, 95, 96, 97, 98, 99, 100, 101] rfl (by decide +kernel)
set_option maxRecDepth 20000 in
theorem gX5_finish_X5_ofForm : GoodIn wsX5_finish (wsV RX5 69 RX5 yX5_ofForm wsX5_ofForm) := goodIn_app (goodIn_of _ (by decide +kernel)) ggX5_finish_X5_ofForm
set_option maxRecDepth 20000 in
theorem ggX5_finish_X3_digest : GoodIn wsX5_finish wsX3_digest := goodIn_r _ [18, 19, 20, 21, 22, 23, 24, 25, 26, 27, 28, 29, 30, 31, 32, 33, 34, 35, 36, 37, 38, 39, 40, 41, 17, 42, 43, 44, 45, 46, 47, 48, 49, 50, 51, 52, 53, 54, 55, 56, 57, 58, 59, 108, 109, 110, 111] rfl (by decide +kernel)
set_option maxRecDepth 20000 in
theorem gX5_finish_X3_digest_u73X3 : GoodIn wsX5_finish (va_wsU RX5 73 RX3 "HashSigner$Hash" ⟨"HashSigner$Hash", "digest", "(LHashSigner$Row;LHashSigner$Row;)V"⟩ yX3_digest wsX3_digest) := goodIn_app (goodIn_of _ (by decide +kernel)) ggX5_finish_X3_digest
set_option maxRecDepth 20000 in
theorem ggX5_finish_X4_digest : GoodIn wsX5_finish wsX4_digest := goodIn_r _ [63, 64, 65, 66, 67, 68, 69, 70, 25, 26, 27, 28, 29, 30, 71, 72, 73, 62, 74, 75, 76, 77, 78, 79, 80, 81, 57, 58, 59, 108, 109, 112, 113] rfl (by decide +kernel)
set_option maxRecDepth 20000 in
theorem gX5_finish_X4_digest_u73X4 : GoodIn wsX5_finish (va_wsU RX5 73 RX4 "HashSigner$Hash" ⟨"HashSigner$Hash", "digest", "(LHashSigner$Row;LHashSigner$Row;)V"⟩ yX4_digest wsX4_digest) := goodIn_app (goodIn_of _ (by decide +kernel)) ggX5_finish_X4_digest
set_option maxRecDepth 20000 in
theorem ggX5_finish_X7_lay : GoodIn wsX5_finish wsX7_lay := goodIn_r _ [85, 29, 30, 86, 87, 88, 89, 90, 91, 92, 93, 108, 109] rfl (by decide +kernel)
set_option maxRecDepth 20000 in
theorem gX5_finish_X7_lay : GoodIn wsX5_finish (wsV RX5 61 RX7 yX7_lay wsX7_lay) := goodIn_app (goodIn_of _ (by decide +kernel)) ggX5_finish_X7_lay
theorem dX5_finish_0 : decode cX5_finish 0 = .ok (.aload_n 0, 1) := by decide +kernel
theorem dX5_finish_1 : decode cX5_finish 1 = .ok (.aload_n 0, 1) := by decide +kernel
theorem dX5_finish_2 : decode cX5_finish 2 = .ok (.getfield 36, 3) := by decide +kernel
theorem dX5_finish_5 : decode cX5_finish 5 = .ok (.getfield 50, 3) := by decide +kernel
theorem dX5_finish_8 : decode cX5_finish 8 = .ok (.invokevirtual 69, 3) := by decide +kernel
theorem dX5_finish_11 : decode cX5_finish 11 = .ok (.aload_n 0, 1) := by decide +kernel
theorem dX5_finish_12 : decode cX5_finish 12 = .ok (.getfield 14, 3) := by decide +kernel
theorem dX5_finish_15 : decode cX5_finish 15 = .ok (.aload_n 0, 1) := by decide +kernel
theorem dX5_finish_16 : decode cX5_finish 16 = .ok (.getfield 20, 3) := by decide +kernel
theorem dX5_finish_19 : decode cX5_finish 19 = .ok (.invokevirtual 73, 3) := by decide +kernel
theorem dX5_finish_22 : decode cX5_finish 22 = .ok (.aload_n 1, 1) := by decide +kernel
theorem dX5_finish_23 : decode cX5_finish 23 = .ok (.iload_n 2, 1) := by decide +kernel
theorem dX5_finish_24 : decode cX5_finish 24 = .ok (.aload_n 0, 1) := by decide +kernel
theorem dX5_finish_25 : decode cX5_finish 25 = .ok (.getfield 20, 3) := by decide +kernel
theorem dX5_finish_28 : decode cX5_finish 28 = .ok (.iconst 0, 1) := by decide +kernel
theorem dX5_finish_29 : decode cX5_finish 29 = .ok (.aload_n 0, 1) := by decide +kernel
theorem dX5_finish_30 : decode cX5_finish 30 = .ok (.getfield 36, 3) := by decide +kernel
theorem dX5_finish_33 : decode cX5_finish 33 = .ok (.getfield 58, 3) := by decide +kernel
theorem dX5_finish_36 : decode cX5_finish 36 = .ok (.invokevirtual 61, 3) := by decide +kernel
theorem dX5_finish_39 : decode cX5_finish 39 = .ok (.return_, 1) := by decide +kernel
set_option maxRecDepth 20000 in
theorem ggX5_addSecret_X5_start : GoodIn wsX5_addSecret wsX5_start := goodIn_r _ [10, 3, 11, 1, 2, 4, 12, 13, 14, 15, 16, 17, 18, 19, 20, 21, 22, 23, 24, 25, 26, 27, 28, 29, 30, 31, 32, 33, 34, 35, 36, 113, 114, 115, 116, 117, 118, 119, 120, 121, 122, 123, 124, 125, 126, 127, 128] rfl (by decide +kernel)
set_option maxRecDepth 20000 in
theorem gX5_addSecret_X5_start : GoodIn wsX5_addSecret (wsV RX5 79 RX5 yX5_start wsX5_start) := goodIn_app (goodIn_of _ (by decide +kernel)) ggX5_addSecret_X5_start
set_option maxRecDepth 20000 in
theorem ggX5_addSecret_X7_add : GoodIn wsX5_addSecret wsX7_add := goodIn_r _ [40, 19, 41, 21, 22, 17, 23, 24, 25, 26, 27, 28, 29, 30, 31, 32, 127, 128] rfl (by decide +kernel)
set_option maxRecDepth 20000 in
theorem gX5_addSecret_X7_add : GoodIn wsX5_addSecret (wsV RX5 83 RX7 yX7_add wsX7_add) := goodIn_app (goodIn_of _ (by decide +kernel)) ggX5_addSecret_X7_add
set_option maxRecDepth 20000 in
theorem ggX5_addSecret_X5_finish : GoodIn wsX5_addSecret wsX5_finish := goodIn_r _ [45, 3, 11, 1, 46, 4, 47, 48, 49, 9, 50, 51, 52, 53, 54, 55, 56, 57, 58, 59, 60, 61, 62, 63, 64, 34, 35, 17, 36, 19, 24, 65, 66, 67, 68, 69, 70, 71, 72, 73, 74, 75, 76, 77, 78, 79, 80, 81, 82, 83, 84, 85, 86, 87, 88, 89, 90, 15, 16, 18, 91, 92, 93, 94, 95, 96, 97, 98, 99, 100, 101, 102, 103, 104, 105, 106, 107, 108, 109, 110, 111, 112, 20, 21, 22, 23, 25, 26, 27, 28, 29, 30, 31, 32, 113, 114, 115, 116, 117, 118, 119, 120, 121, 122, 123, 124, 125, 126, 127, 128, 129, 130, 131, 132] rfl (by decide +kernel)
set_option maxRecDepth 20000 in
theorem gX5_addSecret_X5_finish : GoodIn wsX5_addSecret (wsV RX5 90 RX5 yX5_finish wsX5_finish) := goodIn_app (goodIn_of _ (by decide +kernel)) ggX5_addSecret_X5_finish
theorem dX5_addSecret_0 : decode cX5_addSecret 0 = .ok (.aload_n 0, 1) := by decide +kernel
theorem dX5_addSecret_1 : decode cX5_addSecret 1 = .ok (.iload_n 1, 1) := by decide +kernel
theorem dX5_addSecret_2 : decode cX5_addSecret 2 = .ok (.iload_n 2, 1) := by decide +kernel
theorem dX5_addSecret_3 : decode cX5_addSecret 3 = .ok (.iload_n 3, 1) := by decide +kernel
theorem dX5_addSecret_4 : decode cX5_addSecret 4 = .ok (.iload 4, 2) := by decide +kernel
theorem dX5_addSecret_6 : decode cX5_addSecret 6 = .ok (.invokevirtual 79, 3) := by decide +kernel
theorem dX5_addSecret_9 : decode cX5_addSecret 9 = .ok (.aload_n 0, 1) := by decide +kernel
theorem dX5_addSecret_10 : decode cX5_addSecret 10 = .ok (.getfield 14, 3) := by decide +kernel
theorem dX5_addSecret_13 : decode cX5_addSecret 13 = .ok (.aload_n 0, 1) := by decide +kernel
theorem dX5_addSecret_14 : decode cX5_addSecret 14 = .ok (.getfield 40, 3) := by decide +kernel
theorem dX5_addSecret_17 : decode cX5_addSecret 17 = .ok (.iconst 0, 1) := by decide +kernel
theorem dX5_addSecret_18 : decode cX5_addSecret 18 = .ok (.aload_n 0, 1) := by decide +kernel
theorem dX5_addSecret_19 : decode cX5_addSecret 19 = .ok (.getfield 36, 3) := by decide +kernel
theorem dX5_addSecret_22 : decode cX5_addSecret 22 = .ok (.getfield 58, 3) := by decide +kernel
theorem dX5_addSecret_25 : decode cX5_addSecret 25 = .ok (.invokevirtual 83, 3) := by decide +kernel
theorem dX5_addSecret_28 : decode cX5_addSecret 28 = .ok (.aload_n 0, 1) := by decide +kernel
theorem dX5_addSecret_29 : decode cX5_addSecret 29 = .ok (.aload 5, 2) := by decide +kernel
theorem dX5_addSecret_31 : decode cX5_addSecret 31 = .ok (.aload 5, 2) := by decide +kernel
theorem dX5_addSecret_33 : decode cX5_addSecret 33 = .ok (.getfield 87, 3) := by decide +kernel
theorem dX5_addSecret_36 : decode cX5_addSecret 36 = .ok (.invokevirtual 90, 3) := by decide +kernel
theorem dX5_addSecret_39 : decode cX5_addSecret 39 = .ok (.return_, 1) := by decide +kernel
set_option maxRecDepth 20000 in
theorem ggX5_chain_X5_start : GoodIn wsX5_chain wsX5_start := goodIn_r _ [8, 2, 9, 1, 10, 3, 11, 12, 13, 14, 15, 16, 17, 18, 19, 20, 21, 22, 23, 24, 25, 26, 27, 28, 29, 30, 31, 32, 33, 34, 35, 112, 113, 114, 115, 116, 117, 118, 119, 120, 121, 122, 123, 124, 125, 126, 127] rfl (by decide +kernel)
set_option maxRecDepth 20000 in
theorem gX5_chain_X5_start : GoodIn wsX5_chain (wsV RX5 79 RX5 yX5_start wsX5_start) := goodIn_app (goodIn_of _ (by decide +kernel)) ggX5_chain_X5_start
set_option maxRecDepth 20000 in
theorem ggX5_chain_X7_add : GoodIn wsX5_chain wsX7_add := goodIn_r _ [39, 18, 40, 20, 21, 16, 22, 23, 24, 25, 26, 27, 28, 29, 30, 31, 126, 127] rfl (by decide +kernel)
set_option maxRecDepth 20000 in
theorem gX5_chain_X7_add : GoodIn wsX5_chain (wsV RX5 83 RX7 yX7_add wsX7_add) := goodIn_app (goodIn_of _ (by decide +kernel)) ggX5_chain_X7_add
set_option maxRecDepth 20000 in
theorem ggX5_chain_X5_finish : GoodIn wsX5_chain wsX5_finish := goodIn_r _ [44, 2, 9, 1, 45, 3, 46, 47, 48, 7, 49, 50, 51, 52, 53, 54, 55, 56, 57, 58, 59, 60, 61, 62, 63, 33, 34, 16, 35, 18, 23, 64, 65, 66, 67, 68, 69, 70, 71, 72, 73, 74, 75, 76, 77, 78, 79, 80, 81, 82, 83, 84, 85, 86, 87, 88, 89, 14, 15, 17, 90, 91, 92, 93, 94, 95, 96, 97, 98, 99, 100, 101, 102, 103, 104, 105, 106, 107, 108, 109, 110, 111, 19, 20, 21, 22, 24, 25, 26, 27, 28, 29, 30, 31, 112, 113, 114, 115, 116, 117, 118, 119, 120, 121, 122, 123, 124, 125, 126, 127, 128, 129, 130, 131] rfl (by decide +kernel)
set_option maxRecDepth 20000 in
theorem gX5_chain_X5_finish : GoodIn wsX5_chain (wsV RX5 90 RX5 yX5_finish wsX5_finish) := goodIn_app (goodIn_of _ (by decide +kernel)) ggX5_chain_X5_finish
theorem dX5_chain_0 : decode cX5_chain 0 = .ok (.iload_n 3, 1) := by decide +kernel
theorem dX5_chain_1 : decode cX5_chain 1 = .ok (.istore 7, 2) := by decide +kernel
theorem dX5_chain_3 : decode cX5_chain 3 = .ok (.iload 7, 2) := by decide +kernel
theorem dX5_chain_5 : decode cX5_chain 5 = .ok (.iload_n 3, 1) := by decide +kernel
theorem dX5_chain_6 : decode cX5_chain 6 = .ok (.iload 4, 2) := by decide +kernel
theorem dX5_chain_8 : decode cX5_chain 8 = .ok (.iadd, 1) := by decide +kernel
theorem dX5_chain_9 : decode cX5_chain 9 = .ok (.if_icmp .ge 42, 3) := by decide +kernel
theorem dX5_chain_12 : decode cX5_chain 12 = .ok (.aload_n 0, 1) := by decide +kernel
theorem dX5_chain_13 : decode cX5_chain 13 = .ok (.iconst 0, 1) := by decide +kernel
theorem dX5_chain_14 : decode cX5_chain 14 = .ok (.iload 5, 2) := by decide +kernel
theorem dX5_chain_16 : decode cX5_chain 16 = .ok (.iload 6, 2) := by decide +kernel
theorem dX5_chain_18 : decode cX5_chain 18 = .ok (.iload 7, 2) := by decide +kernel
theorem dX5_chain_20 : decode cX5_chain 20 = .ok (.invokevirtual 79, 3) := by decide +kernel
theorem dX5_chain_23 : decode cX5_chain 23 = .ok (.aload_n 0, 1) := by decide +kernel
theorem dX5_chain_24 : decode cX5_chain 24 = .ok (.getfield 14, 3) := by decide +kernel
theorem dX5_chain_27 : decode cX5_chain 27 = .ok (.aload_n 1, 1) := by decide +kernel
theorem dX5_chain_28 : decode cX5_chain 28 = .ok (.iload_n 2, 1) := by decide +kernel
theorem dX5_chain_29 : decode cX5_chain 29 = .ok (.aload_n 0, 1) := by decide +kernel
theorem dX5_chain_30 : decode cX5_chain 30 = .ok (.getfield 36, 3) := by decide +kernel
theorem dX5_chain_33 : decode cX5_chain 33 = .ok (.getfield 58, 3) := by decide +kernel
theorem dX5_chain_36 : decode cX5_chain 36 = .ok (.invokevirtual 83, 3) := by decide +kernel
theorem dX5_chain_39 : decode cX5_chain 39 = .ok (.aload_n 0, 1) := by decide +kernel
theorem dX5_chain_40 : decode cX5_chain 40 = .ok (.aload_n 1, 1) := by decide +kernel
theorem dX5_chain_41 : decode cX5_chain 41 = .ok (.iload_n 2, 1) := by decide +kernel
theorem dX5_chain_42 : decode cX5_chain 42 = .ok (.invokevirtual 90, 3) := by decide +kernel
theorem dX5_chain_45 : decode cX5_chain 45 = .ok (.iinc 7 1, 3) := by decide +kernel
theorem dX5_chain_48 : decode cX5_chain 48 = .ok (.goto (-45), 3) := by decide +kernel
theorem dX5_chain_51 : decode cX5_chain 51 = .ok (.return_, 1) := by decide +kernel
set_option maxHeartbeats 1000000 in
set_option maxRecDepth 100000 in
/-- Shape.isWithin -/
theorem c_isWithin (l : Launch) (g : jG) (x : Int32) (a : Int32) (b : Int32)  : jC l g yX8_isWithin wsX8_isWithin ({ frames := 0, cells := 0, slots := 0, locals := 0 } : Room) [.int x, .int a, .int b] [] (fun u : Unit => some (.int (if wiB x a b then 1 else 0))) (fun u : Unit => True) (fun u : Unit => []) := by
  refine jC.of (cc := cX8_isWithin) (own := RX8) (maxL := 3) (ret := (some .boolean)) (by decide +kernel) rfl rfl (Nat.le_of_ble_eq_true rfl) (fun u hu => ⟨_, rfl, by split <;> rfl⟩) ?_
  intro p e s m below meth c A Q hX hret
  refine j_iload_n hX 0 dX8_isWithin_0 rfl ?_
  refine j_iload_n hX 1 dX8_isWithin_1 rfl ?_
  refine j_icmp_lt hX 14 dX8_isWithin_2 (by decide) (fun b_2 => ?_) (fun b_2 => ?_)
  · skip
    refine j_iconst hX (0) dX8_isWithin_14 (by decide) ?_
    refine j_topeq _ (if wiB x a b then 1 else 0) (by unfold wiB; first | rw [decide_eq_true (Int32.not_lt.mp b_2), decide_eq_true (Int32.not_lt.mp b_7)]; rfl | rw [decide_eq_false (Int32.not_le.mpr b_2)]; rfl | rw [decide_eq_false (Int32.not_le.mpr b_7), Bool.and_false]; rfl) ?_
    exact hret () trivial 15 _ .ireturn dX8_isWithin_15 rfl
  · skip
    refine j_iload_n hX 0 dX8_isWithin_5 rfl ?_
    refine j_iload_n hX 2 dX8_isWithin_6 rfl ?_
    refine j_pc 7 rfl ?_
    refine j_icmp_gt hX 14 dX8_isWithin_7 (by decide) (fun b_7 => ?_) (fun b_7 => ?_)
    · skip
      refine j_iconst hX (0) dX8_isWithin_14 (by decide) ?_
      refine j_topeq _ (if wiB x a b then 1 else 0) (by unfold wiB; first | rw [decide_eq_true (Int32.not_lt.mp b_2), decide_eq_true (Int32.not_lt.mp b_7)]; rfl | rw [decide_eq_false (Int32.not_le.mpr b_2)]; rfl | rw [decide_eq_false (Int32.not_le.mpr b_7), Bool.and_false]; rfl) ?_
      exact hret () trivial 15 _ .ireturn dX8_isWithin_15 rfl
    · skip
      refine j_iconst hX (1) dX8_isWithin_10 (by decide) ?_
      refine j_goto hX 15 dX8_isWithin_11 (by decide) ?_
      refine j_topeq _ (if wiB x a b then 1 else 0) (by unfold wiB; first | rw [decide_eq_true (Int32.not_lt.mp b_2), decide_eq_true (Int32.not_lt.mp b_7)]; rfl | rw [decide_eq_false (Int32.not_le.mpr b_2)]; rfl | rw [decide_eq_false (Int32.not_le.mpr b_7), Bool.and_false]; rfl) ?_
      exact hret () trivial 15 _ .ireturn dX8_isWithin_15 rfl

set_option maxHeartbeats 1000000 in
set_option maxRecDepth 100000 in
/-- Shape.become -/
theorem c_become (l : Launch) (g : jG) (sp : Nat) (o0 : Int32) (o1 : Int32) (o2 : Int32) (o3 : Int32) (o4 : Int32) (o5 : Int32) (fm : Nat) (nn : Nat) (ht : Nat) (lys : Nat) (fa : Nat) (mk : Nat)  : jC l g yX8_become wsX8_become ({ frames := 0, cells := 0, slots := 0, locals := 0 } : Room) [.ref sp, .int (nI fm), .int (nI nn), .int (nI ht), .int (nI lys), .int (nI fa), .int (nI mk)] [oB sp 8 [.int o0, .int o1, .int o2, .int o3, .int o4, .int o5]] (fun u : Unit => none) (fun u : Unit => True) (fun u : Unit => [oB sp 8 [.int (nI fm), .int (nI nn), .int (nI ht), .int (nI lys), .int (nI fa), .int (nI mk)]]) := by
  refine jC.of (cc := cX8_become) (own := RX8) (maxL := 7) (ret := none) (by decide +kernel) rfl rfl (Nat.le_of_ble_eq_true rfl) (fun u hu => rfl) ?_
  intro p e s m below meth c A Q hX hret
  have in8 : ∀ w ∈ wsX80, w ∈ wsX8_become := (fun w h => List.mem_cons_of_mem _ (List.mem_append_right _ h))
  refine j_aload_n hX 0 dX8_become_0 rfl ?_
  refine j_iload_n hX 1 dX8_become_1 rfl ?_
  refine j_put hX (v := .int (nI fm)) (ty := .int) in8 tyX8 tyX8_ok nmX8 8 0 0 rfl rfl (by decide) (List.mem_of_getElem? (i := 1) rfl) rfl rfl rfl rfl rfl (Nat.le_of_ble_eq_true rfl) [oB sp 8 [.int (nI fm), .int o1, .int o2, .int o3, .int o4, .int o5]] rfl dX8_become_2 ?_
  refine j_aload_n hX 0 dX8_become_5 rfl ?_
  refine j_iload_n hX 2 dX8_become_6 rfl ?_
  refine j_put hX (v := .int (nI nn)) (ty := .int) in8 tyX8 tyX8_ok nmX8 8 0 1 rfl rfl (by decide) (List.mem_of_getElem? (i := 2) rfl) rfl rfl rfl rfl rfl (Nat.le_of_ble_eq_true rfl) [oB sp 8 [.int (nI fm), .int (nI nn), .int o2, .int o3, .int o4, .int o5]] rfl dX8_become_7 ?_
  refine j_aload_n hX 0 dX8_become_10 rfl ?_
  refine j_pc 11 rfl ?_
  refine j_iload_n hX 3 dX8_become_11 rfl ?_
  refine j_put hX (v := .int (nI ht)) (ty := .int) in8 tyX8 tyX8_ok nmX8 8 0 2 rfl rfl (by decide) (List.mem_of_getElem? (i := 3) rfl) rfl rfl rfl rfl rfl (Nat.le_of_ble_eq_true rfl) [oB sp 8 [.int (nI fm), .int (nI nn), .int (nI ht), .int o3, .int o4, .int o5]] rfl dX8_become_12 ?_
  refine j_aload_n hX 0 dX8_become_15 rfl ?_
  refine j_iload hX 4 dX8_become_16 rfl ?_
  refine j_put hX (v := .int (nI lys)) (ty := .int) in8 tyX8 tyX8_ok nmX8 8 0 3 rfl rfl (by decide) (List.mem_of_getElem? (i := 4) rfl) rfl rfl rfl rfl rfl (Nat.le_of_ble_eq_true rfl) [oB sp 8 [.int (nI fm), .int (nI nn), .int (nI ht), .int (nI lys), .int o4, .int o5]] rfl dX8_become_18 ?_
  refine j_aload_n hX 0 dX8_become_21 rfl ?_
  refine j_iload hX 5 dX8_become_22 rfl ?_
  refine j_put hX (v := .int (nI fa)) (ty := .int) in8 tyX8 tyX8_ok nmX8 8 0 4 rfl rfl (by decide) (List.mem_of_getElem? (i := 5) rfl) rfl rfl rfl rfl rfl (Nat.le_of_ble_eq_true rfl) [oB sp 8 [.int (nI fm), .int (nI nn), .int (nI ht), .int (nI lys), .int (nI fa), .int o5]] rfl dX8_become_24 ?_
  refine j_pc 27 rfl ?_
  refine j_aload_n hX 0 dX8_become_27 rfl ?_
  refine j_iload hX 6 dX8_become_28 rfl ?_
  refine j_put hX (v := .int (nI mk)) (ty := .int) in8 tyX8 tyX8_ok nmX8 8 0 5 rfl rfl (by decide) (List.mem_of_getElem? (i := 6) rfl) rfl rfl rfl rfl rfl (Nat.le_of_ble_eq_true rfl) [oB sp 8 [.int (nI fm), .int (nI nn), .int (nI ht), .int (nI lys), .int (nI fa), .int (nI mk)]] rfl dX8_become_30 ?_
  exact hret () trivial 33 _ .return_ dX8_become_33 rfl

set_option maxHeartbeats 1000000 in
set_option maxRecDepth 100000 in
/-- Shape.len -/
theorem c_len (l : Launch) (g : jG) (sp : Nat) (fm : Nat) (nn : Nat) (ht : Nat) (lys : Nat) (fa : Nat) (mk : Nat) (hnn : nn ≤ 16) : jC l g yX8_len wsX8_len ({ frames := 0, cells := 0, slots := 0, locals := 0 } : Room) [.ref sp] [oB sp 8 [.int (nI fm), .int (nI nn), .int (nI ht), .int (nI lys), .int (nI fa), .int (nI mk)]] (fun u : Unit => some (.int (nI (ln nn)))) (fun u : Unit => True) (fun u : Unit => [oB sp 8 [.int (nI fm), .int (nI nn), .int (nI ht), .int (nI lys), .int (nI fa), .int (nI mk)]]) := by
  refine jC.of (cc := cX8_len) (own := RX8) (maxL := 1) (ret := (some .int)) (by decide +kernel) rfl rfl (Nat.le_of_ble_eq_true rfl) (fun u hu => ⟨_, rfl, rfl⟩) ?_
  intro p e s m below meth c A Q hX hret
  have in8 : ∀ w ∈ wsX80, w ∈ wsX8_len := (fun w h => List.mem_cons_of_mem _ (List.mem_append_right _ h))
  refine j_iconst hX (2) dX8_len_0 (by decide) ?_
  refine j_aload_n hX 0 dX8_len_1 rfl ?_
  refine j_get hX in8 8 0 1 (v := .int (nI nn)) rfl rfl (by decide) (List.mem_of_getElem? (i := 1) rfl) rfl rfl dX8_len_2 ?_
  refine j_imulN hX 2 nn dX8_len_5 ?_
  refine j_aload_n hX 0 dX8_len_6 rfl ?_
  refine j_get hX in8 8 0 1 (v := .int (nI nn)) rfl rfl (by decide) (List.mem_of_getElem? (i := 1) rfl) rfl rfl dX8_len_7 ?_
  refine j_bipush hX (8) dX8_len_10 (by decide) ?_
  refine j_pc 12 rfl ?_
  refine j_icmp_gtN hX nn 8 19 dX8_len_12 (by decide) (by omega) (by omega) (fun b_12 => ?_) (fun b_12 => ?_)
  · skip
    refine j_iconst hX (3) dX8_len_19 (by decide) ?_
    refine j_iaddN hX (2 * nn) 3 dX8_len_20 ?_
    refine j_topeq _ (nI (ln nn)) (by unfold ln; first | rw [if_pos (by omega)] | rw [if_neg (by omega)]) ?_
    exact hret () trivial 21 _ .ireturn dX8_len_21 rfl
  · skip
    refine j_iconst hX (2) dX8_len_15 (by decide) ?_
    refine j_goto hX 20 dX8_len_16 (by decide) ?_
    refine j_iaddN hX (2 * nn) 2 dX8_len_20 ?_
    refine j_topeq _ (nI (ln nn)) (by unfold ln; first | rw [if_pos (by omega)] | rw [if_neg (by omega)]) ?_
    exact hret () trivial 21 _ .ireturn dX8_len_21 rfl

set_option maxHeartbeats 1000000 in
set_option maxRecDepth 100000 in
/-- Shape.leaves -/
theorem c_leaves (l : Launch) (g : jG) (sp : Nat) (fm : Nat) (nn : Nat) (ht : Nat) (lys : Nat) (fa : Nat) (mk : Nat) (hht : ht ≤ 2) : jC l g yX8_leaves wsX8_leaves ({ frames := 0, cells := 0, slots := 0, locals := 0 } : Room) [.ref sp] [oB sp 8 [.int (nI fm), .int (nI nn), .int (nI ht), .int (nI lys), .int (nI fa), .int (nI mk)]] (fun u : Unit => some (.int (nI (2 ^ ht)))) (fun u : Unit => True) (fun u : Unit => [oB sp 8 [.int (nI fm), .int (nI nn), .int (nI ht), .int (nI lys), .int (nI fa), .int (nI mk)]]) := by
  refine jC.of (cc := cX8_leaves) (own := RX8) (maxL := 1) (ret := (some .int)) (by decide +kernel) rfl rfl (Nat.le_of_ble_eq_true rfl) (fun u hu => ⟨_, rfl, rfl⟩) ?_
  intro p e s m below meth c A Q hX hret
  have in8 : ∀ w ∈ wsX80, w ∈ wsX8_leaves := (fun w h => List.mem_cons_of_mem _ (List.mem_append_right _ h))
  refine j_iconst hX (1) dX8_leaves_0 (by decide) ?_
  refine j_aload_n hX 0 dX8_leaves_1 rfl ?_
  refine j_get hX in8 8 0 2 (v := .int (nI ht)) rfl rfl (by decide) (List.mem_of_getElem? (i := 1) rfl) rfl rfl dX8_leaves_2 ?_
  refine j_ishlN hX 1 ht (by omega) (pw2 hht) dX8_leaves_5 ?_
  refine j_topeq _ (nI (2 ^ ht)) (by rw [Nat.one_mul]) ?_
  exact hret () trivial 6 _ .ireturn dX8_leaves_6 rfl

set_option maxHeartbeats 1000000 in
set_option maxRecDepth 100000 in
/-- Shape.fewSize -/
theorem c_fewSize (l : Launch) (g : jG) (sp : Nat) (fm : Nat) (nn : Nat) (ht : Nat) (lys : Nat) (fa : Nat) (mk : Nat)  : jC l g yX8_fewSize wsX8_fewSize ({ frames := 0, cells := 0, slots := 0, locals := 0 } : Room) [.ref sp] [oB sp 8 [.int (nI fm), .int (nI nn), .int (nI ht), .int (nI lys), .int (nI fa), .int (nI mk)]] (fun u : Unit => some (.int (nI (mk * (fa + 1) * nn)))) (fun u : Unit => True) (fun u : Unit => [oB sp 8 [.int (nI fm), .int (nI nn), .int (nI ht), .int (nI lys), .int (nI fa), .int (nI mk)]]) := by
  refine jC.of (cc := cX8_fewSize) (own := RX8) (maxL := 1) (ret := (some .int)) (by decide +kernel) rfl rfl (Nat.le_of_ble_eq_true rfl) (fun u hu => ⟨_, rfl, rfl⟩) ?_
  intro p e s m below meth c A Q hX hret
  have in8 : ∀ w ∈ wsX80, w ∈ wsX8_fewSize := (fun w h => List.mem_cons_of_mem _ (List.mem_append_right _ h))
  refine j_aload_n hX 0 dX8_fewSize_0 rfl ?_
  refine j_get hX in8 8 0 5 (v := .int (nI mk)) rfl rfl (by decide) (List.mem_of_getElem? (i := 1) rfl) rfl rfl dX8_fewSize_1 ?_
  refine j_aload_n hX 0 dX8_fewSize_4 rfl ?_
  refine j_get hX in8 8 0 4 (v := .int (nI fa)) rfl rfl (by decide) (List.mem_of_getElem? (i := 2) rfl) rfl rfl dX8_fewSize_5 ?_
  refine j_iconst hX (1) dX8_fewSize_8 (by decide) ?_
  refine j_iaddN hX fa 1 dX8_fewSize_9 ?_
  refine j_imulN hX mk (fa + 1) dX8_fewSize_10 ?_
  refine j_pc 11 rfl ?_
  refine j_aload_n hX 0 dX8_fewSize_11 rfl ?_
  refine j_get hX in8 8 0 1 (v := .int (nI nn)) rfl rfl (by decide) (List.mem_of_getElem? (i := 3) rfl) rfl rfl dX8_fewSize_12 ?_
  refine j_imulN hX (mk * (fa + 1)) nn dX8_fewSize_15 ?_
  exact hret () trivial 16 _ .ireturn dX8_fewSize_16 rfl

set_option maxHeartbeats 1000000 in
set_option maxRecDepth 100000 in
/-- Shape.size -/
theorem c_size (l : Launch) (g : jG) (sp : Nat) (fm : Nat) (nn : Nat) (ht : Nat) (lys : Nat) (fa : Nat) (mk : Nat) (hnn : nn ≤ 16) : jC l g yX8_size wsX8_size ({ frames := 1, cells := 0, slots := 0, locals := 20 } : Room) [.ref sp] [oB sp 8 [.int (nI fm), .int (nI nn), .int (nI ht), .int (nI lys), .int (nI fa), .int (nI mk)]] (fun u : Unit => some (.int (nI (sgS nn ht lys fa mk)))) (fun u : Unit => True) (fun u : Unit => [oB sp 8 [.int (nI fm), .int (nI nn), .int (nI ht), .int (nI lys), .int (nI fa), .int (nI mk)]]) := by
  refine jC.of (cc := cX8_size) (own := RX8) (maxL := 1) (ret := (some .int)) (by decide +kernel) rfl rfl (Nat.le_of_ble_eq_true rfl) (fun u hu => ⟨_, rfl, rfl⟩) ?_
  intro p e s m below meth c A Q hX hret
  have in8 : ∀ w ∈ wsX80, w ∈ wsX8_size := (fun w h => List.mem_cons_of_mem _ (List.mem_append_right _ h))
  refine j_aload_n hX 0 dX8_size_0 rfl ?_
  refine j_get hX in8 8 0 1 (v := .int (nI nn)) rfl rfl (by decide) (List.mem_of_getElem? (i := 1) rfl) rfl rfl dX8_size_1 ?_
  refine j_aload_n hX 0 dX8_size_4 rfl ?_
  refine j_callV hX 0 (c_fewSize l g sp fm nn ht lys fa mk ) gX8_size_X8_fewSize (by decide +kernel) rfl ⟨rfl, rfl⟩ ⟨Nat.le_of_ble_eq_true rfl, Nat.le_of_ble_eq_true rfl⟩ 8 0 rfl rfl [0] rfl (by decide) (fun _ => rfl) rfl [.int (nI nn)] rfl (Nat.le_of_ble_eq_true rfl) ⟨Nat.le_refl _, Nat.le_refl _⟩ dX8_size_5 ?_
  intro _ hu_1
  refine j_w [oB sp 8 [.int (nI fm), .int (nI nn), .int (nI ht), .int (nI lys), .int (nI fa), .int (nI mk)]] rfl ?_
  refine j_st [.int (nI (mk * (fa + 1) * nn)), .int (nI nn)] rfl ?_
  refine j_iaddN hX nn (mk * (fa + 1) * nn) dX8_size_8 ?_
  refine j_aload_n hX 0 dX8_size_9 rfl ?_
  refine j_get hX in8 8 0 3 (v := .int (nI lys)) rfl rfl (by decide) (List.mem_of_getElem? (i := 2) rfl) rfl rfl dX8_size_10 ?_
  refine j_pc 13 rfl ?_
  refine j_aload_n hX 0 dX8_size_13 rfl ?_
  refine j_callV hX 0 (c_len l g sp fm nn ht lys fa mk (by omega)) gX8_size_X8_len (by decide +kernel) rfl ⟨rfl, rfl⟩ ⟨Nat.le_of_ble_eq_true rfl, Nat.le_of_ble_eq_true rfl⟩ 8 0 rfl rfl [0] rfl (by decide) (fun _ => rfl) rfl [.int (nI lys), .int (nI (nn + (mk * (fa + 1) * nn)))] rfl (Nat.le_of_ble_eq_true rfl) ⟨Nat.le_refl _, Nat.le_refl _⟩ dX8_size_14 ?_
  intro _ hu_2
  refine j_w [oB sp 8 [.int (nI fm), .int (nI nn), .int (nI ht), .int (nI lys), .int (nI fa), .int (nI mk)]] rfl ?_
  refine j_st [.int (nI (ln nn)), .int (nI lys), .int (nI (nn + (mk * (fa + 1) * nn)))] rfl ?_
  refine j_aload_n hX 0 dX8_size_17 rfl ?_
  refine j_get hX in8 8 0 2 (v := .int (nI ht)) rfl rfl (by decide) (List.mem_of_getElem? (i := 3) rfl) rfl rfl dX8_size_18 ?_
  refine j_iaddN hX (ln nn) ht dX8_size_21 ?_
  refine j_imulN hX lys ((ln nn) + ht) dX8_size_22 ?_
  refine j_aload_n hX 0 dX8_size_23 rfl ?_
  refine j_get hX in8 8 0 1 (v := .int (nI nn)) rfl rfl (by decide) (List.mem_of_getElem? (i := 1) rfl) rfl rfl dX8_size_24 ?_
  refine j_pc 27 rfl ?_
  refine j_imulN hX (lys * ((ln nn) + ht)) nn dX8_size_27 ?_
  refine j_iaddN hX (nn + (mk * (fa + 1) * nn)) ((lys * ((ln nn) + ht)) * nn) dX8_size_28 ?_
  refine j_topeq _ (nI (sgS nn ht lys fa mk)) rfl ?_
  exact hret () trivial 29 _ .ireturn dX8_size_29 rfl

set_option maxHeartbeats 1000000 in
set_option maxRecDepth 100000 in
/-- Hasher.ofForm -/
theorem c_ofForm0 (l : Launch) (g : jG) (hh : Nat) (inr : Nat) (outr : Nat) (zo : Nat) (on : Nat) (sp : Nat) (fm : Nat) (nn : Nat) (ht : Nat) (lys : Nat) (fa : Nat) (mk : Nat) (sdr : Nat) (ly : Nat) (tr : Nat) (h0 : fm = 0) (hfm : fm < 2) : jC l g yX5_ofForm wsX5_ofForm ({ frames := 0, cells := 0, slots := 0, locals := 0 } : Room) [.ref hh, .int (nI fm)] [oB hh 5 [.ref inr, .ref outr, .ref zo, .ref on, .ref sp, .ref sdr, .int (nI ly), .int (nI tr)]] (fun u : Unit => some (.ref zo)) (fun u : Unit => True) (fun u : Unit => [oB hh 5 [.ref inr, .ref outr, .ref zo, .ref on, .ref sp, .ref sdr, .int (nI ly), .int (nI tr)]]) := by
  refine jC.of (cc := cX5_ofForm) (own := RX5) (maxL := 2) (ret := (some (.object "HashSigner$Hash"))) (by decide +kernel) rfl rfl (Nat.le_of_ble_eq_true rfl) (fun u hu => ⟨_, rfl⟩) ?_
  intro p e s m below meth c A Q hX hret
  have in5 : ∀ w ∈ wsX50, w ∈ wsX5_ofForm := (fun w h => List.mem_cons_of_mem _ (List.mem_append_right _ h))
  refine j_iload_n hX 1 dX5_ofForm_0 rfl ?_
  refine j_if_neN hX fm 11 dX5_ofForm_1 (by decide) (by omega) (fun b_1 => absurd b_1 (by omega)) (fun b_1 => ?_)
  refine j_aload_n hX 0 dX5_ofForm_4 rfl ?_
  refine j_get hX in5 5 0 2 (v := .ref zo) rfl rfl (by decide) (List.mem_of_getElem? (i := 1) rfl) rfl rfl dX5_ofForm_5 ?_
  refine j_goto hX 15 dX5_ofForm_8 (by decide) ?_
  exact hret () trivial 15 _ .areturn dX5_ofForm_15 rfl

set_option maxHeartbeats 1000000 in
set_option maxRecDepth 100000 in
/-- Hasher.ofForm -/
theorem c_ofForm1 (l : Launch) (g : jG) (hh : Nat) (inr : Nat) (outr : Nat) (zo : Nat) (on : Nat) (sp : Nat) (fm : Nat) (nn : Nat) (ht : Nat) (lys : Nat) (fa : Nat) (mk : Nat) (sdr : Nat) (ly : Nat) (tr : Nat) (h0 : ¬ fm = 0) (hfm : fm < 2) : jC l g yX5_ofForm wsX5_ofForm ({ frames := 0, cells := 0, slots := 0, locals := 0 } : Room) [.ref hh, .int (nI fm)] [oB hh 5 [.ref inr, .ref outr, .ref zo, .ref on, .ref sp, .ref sdr, .int (nI ly), .int (nI tr)]] (fun u : Unit => some (.ref on)) (fun u : Unit => True) (fun u : Unit => [oB hh 5 [.ref inr, .ref outr, .ref zo, .ref on, .ref sp, .ref sdr, .int (nI ly), .int (nI tr)]]) := by
  refine jC.of (cc := cX5_ofForm) (own := RX5) (maxL := 2) (ret := (some (.object "HashSigner$Hash"))) (by decide +kernel) rfl rfl (Nat.le_of_ble_eq_true rfl) (fun u hu => ⟨_, rfl⟩) ?_
  intro p e s m below meth c A Q hX hret
  have in5 : ∀ w ∈ wsX50, w ∈ wsX5_ofForm := (fun w h => List.mem_cons_of_mem _ (List.mem_append_right _ h))
  refine j_iload_n hX 1 dX5_ofForm_0 rfl ?_
  refine j_if_neN hX fm 11 dX5_ofForm_1 (by decide) (by omega) (fun b_1 => ?_) (fun b_1 => absurd b_1 (by omega))
  refine j_aload_n hX 0 dX5_ofForm_11 rfl ?_
  refine j_get hX in5 5 0 3 (v := .ref on) rfl rfl (by decide) (List.mem_of_getElem? (i := 2) rfl) rfl rfl dX5_ofForm_12 ?_
  exact hret () trivial 15 _ .areturn dX5_ofForm_15 rfl

set_option maxHeartbeats 1000000 in
set_option maxRecDepth 100000 in
/-- Hasher.moveTo -/
theorem c_moveTo (l : Launch) (g : jG) (hh : Nat) (inr : Nat) (outr : Nat) (zo : Nat) (on : Nat) (sp : Nat) (sdr : Nat) (oly : Int32) (otr : Int32) (ly : Nat) (tr : Nat)  : jC l g yX5_moveTo wsX5_moveTo ({ frames := 0, cells := 0, slots := 0, locals := 0 } : Room) [.ref hh, .int (nI ly), .int (nI tr)] [oB hh 5 [.ref inr, .ref outr, .ref zo, .ref on, .ref sp, .ref sdr, .int oly, .int otr]] (fun u : Unit => none) (fun u : Unit => True) (fun u : Unit => [oB hh 5 [.ref inr, .ref outr, .ref zo, .ref on, .ref sp, .ref sdr, .int (nI ly), .int (nI tr)]]) := by
  refine jC.of (cc := cX5_moveTo) (own := RX5) (maxL := 3) (ret := none) (by decide +kernel) rfl rfl (Nat.le_of_ble_eq_true rfl) (fun u hu => rfl) ?_
  intro p e s m below meth c A Q hX hret
  have in5 : ∀ w ∈ wsX50, w ∈ wsX5_moveTo := (fun w h => List.mem_cons_of_mem _ (List.mem_append_right _ h))
  refine j_aload_n hX 0 dX5_moveTo_0 rfl ?_
  refine j_iload_n hX 1 dX5_moveTo_1 rfl ?_
  refine j_put hX (v := .int (nI ly)) (ty := .int) in5 tyX5 tyX5_ok nmX5 5 0 6 rfl rfl (by decide) (List.mem_of_getElem? (i := 1) rfl) rfl rfl rfl rfl rfl (Nat.le_of_ble_eq_true rfl) [oB hh 5 [.ref inr, .ref outr, .ref zo, .ref on, .ref sp, .ref sdr, .int (nI ly), .int otr]] rfl dX5_moveTo_2 ?_
  refine j_aload_n hX 0 dX5_moveTo_5 rfl ?_
  refine j_iload_n hX 2 dX5_moveTo_6 rfl ?_
  refine j_put hX (v := .int (nI tr)) (ty := .int) in5 tyX5 tyX5_ok nmX5 5 0 7 rfl rfl (by decide) (List.mem_of_getElem? (i := 2) rfl) rfl rfl rfl rfl rfl (Nat.le_of_ble_eq_true rfl) [oB hh 5 [.ref inr, .ref outr, .ref zo, .ref on, .ref sp, .ref sdr, .int (nI ly), .int (nI tr)]] rfl dX5_moveTo_7 ?_
  exact hret () trivial 10 _ .return_ dX5_moveTo_10 rfl

set_option maxHeartbeats 1000000 in
set_option maxRecDepth 100000 in
/-- Hasher.start -/
theorem c_start (l : Launch) (g : jG) (hh : Nat) (inr : Nat) (outr : Nat) (zo : Nat) (on : Nat) (sp : Nat) (fm : Nat) (nn : Nat) (ht : Nat) (lys : Nat) (fa : Nat) (mk : Nat) (sdr : Nat) (ly : Nat) (tr : Nat) (sda : Nat) (sd : Nat → Int32) (ina : Nat) (ni : Nat) (fi : Nat → Int32) (kd : Nat) (ku : Nat) (kv : Nat) (kw : Nat) (hfm : fm < 2) (hnn : nn ≤ 16) (hB : isB sd) : jC l g yX5_start wsX5_start ({ frames := 2, cells := 0, slots := 0, locals := 65 } : Room) [.ref hh, .int (nI kd), .int (nI ku), .int (nI kv), .int (nI kw)] [oB hh 5 [.ref inr, .ref outr, .ref zo, .ref on, .ref sp, .ref sdr, .int (nI ly), .int (nI tr)], oB sp 8 [.int (nI fm), .int (nI nn), .int (nI ht), .int (nI lys), .int (nI fa), .int (nI mk)], oB sdr 7 [.ref sda, .int (nI 48)], bA g sda 48 sd, oB inr 7 [.ref ina, .int (nI ni)], bA g ina 768 fi] (fun u : (Nat → Int32) => none) (fun u : (Nat → Int32) => u = putL fi 0 (hd fm nn sd ly tr kd ku kv kw)) (fun u : (Nat → Int32) => [oB hh 5 [.ref inr, .ref outr, .ref zo, .ref on, .ref sp, .ref sdr, .int (nI ly), .int (nI tr)], oB sp 8 [.int (nI fm), .int (nI nn), .int (nI ht), .int (nI lys), .int (nI fa), .int (nI mk)], oB sdr 7 [.ref sda, .int (nI 48)], bA g sda 48 sd, oB inr 7 [.ref ina, .int (nI (hl fm nn))], bA g ina 768 u]) := by
  refine jC.of (cc := cX5_start) (own := RX5) (maxL := 6) (ret := none) (by decide +kernel) rfl rfl (Nat.le_of_ble_eq_true rfl) (fun u hu => rfl) ?_
  intro p e s m below meth c A Q hX hret
  have in5 : ∀ w ∈ wsX50, w ∈ wsX5_start := (fun w h => List.mem_cons_of_mem _ (List.mem_append_left _ (List.mem_append_left _ (List.mem_append_right _ h))))
  have in8 : ∀ w ∈ wsX80, w ∈ wsX5_start := (fun w h => List.mem_cons_of_mem _ (List.mem_append_left _ (List.mem_append_right _ h)))
  refine j_aload_n hX 0 dX5_start_0 rfl ?_
  refine j_get hX in5 5 0 4 (v := .ref sp) rfl rfl (by decide) (List.mem_of_getElem? (i := 1) rfl) rfl rfl dX5_start_1 ?_
  have jn_1 : ∀ (cp0 : Nat), (cp0 = if fm = 0 then 1 else 0) → J p l e ({ frames := 2, cells := 0, slots := 0, locals := 65 } : Room) s m ([.ref hh, .int (nI kd), .int (nI ku), .int (nI kv), .int (nI kw)] : List Value).toArray below meth c g A 6 Q 0 0 [oB hh 5 [.ref inr, .ref outr, .ref zo, .ref on, .ref sp, .ref sdr, .int (nI ly), .int (nI tr)], oB sp 8 [.int (nI fm), .int (nI nn), .int (nI ht), .int (nI lys), .int (nI fa), .int (nI mk)], oB sdr 7 [.ref sda, .int (nI 48)], bA g sda 48 sd, oB inr 7 [.ref ina, .int (nI ni)], bA g ina 768 fi] [(0, .ref hh), (1, .int (nI kd)), (2, .int (nI ku)), (3, .int (nI kv)), (4, .int (nI kw))] 15 [.int (nI cp0)] := by
    intro cp0 hcp0
    have hfm0 : (cp0 = 1 ↔ fm = 0) ∧ cp0 < 2 := by by_cases q0 : fm = 0 <;> simp [q0] at hcp0 <;> omega
    refine j_istore hX [(5, .int (nI cp0)), (0, .ref hh), (1, .int (nI kd)), (2, .int (nI ku)), (3, .int (nI kv)), (4, .int (nI kw))] dX5_start_15 (by decide) rfl ?_
    refine j_aload_n hX 1 dX5_start_17 rfl ?_
    refine j_get hX in5 5 0 0 (v := .ref inr) rfl rfl (by decide) (List.mem_of_getElem? (i := 3) rfl) rfl rfl dX5_start_18 ?_
    refine j_callV hX 0 (c_clear l g inr ina (nI ni) ) gX5_start_X7_clear (by decide +kernel) rfl ⟨rfl, rfl⟩ ⟨Nat.le_of_ble_eq_true rfl, Nat.le_of_ble_eq_true rfl⟩ 7 4 rfl rfl [4] rfl (by decide) (fun _ => rfl) rfl [] rfl (Nat.le_of_ble_eq_true rfl) ⟨Nat.le_refl _, Nat.le_refl _⟩ dX5_start_21 ?_
    intro _ hu_2
    refine j_w [oB hh 5 [.ref inr, .ref outr, .ref zo, .ref on, .ref sp, .ref sdr, .int (nI ly), .int (nI tr)], oB sp 8 [.int (nI fm), .int (nI nn), .int (nI ht), .int (nI lys), .int (nI fa), .int (nI mk)], oB sdr 7 [.ref sda, .int (nI 48)], bA g sda 48 sd, oB inr 7 [.ref ina, .int (nI 0)], bA g ina 768 fi] rfl ?_
    refine j_st [] rfl ?_
    refine j_aload_n hX 1 dX5_start_24 rfl ?_
    refine j_pc 25 rfl ?_
    refine j_get hX in5 5 0 0 (v := .ref inr) rfl rfl (by decide) (List.mem_of_getElem? (i := 3) rfl) rfl rfl dX5_start_25 ?_
    refine j_iconst hX (0) dX5_start_28 (by decide) ?_
    refine j_aload_n hX 1 dX5_start_29 rfl ?_
    refine j_get hX in5 5 0 5 (v := .ref sdr) rfl rfl (by decide) (List.mem_of_getElem? (i := 4) rfl) rfl rfl dX5_start_30 ?_
    refine j_bipush hX (32) dX5_start_33 (by decide) ?_
    refine j_aload_n hX 1 dX5_start_35 rfl ?_
    refine j_get hX in5 5 0 4 (v := .ref sp) rfl rfl (by decide) (List.mem_of_getElem? (i := 1) rfl) rfl rfl dX5_start_36 ?_
    refine j_get hX in8 8 1 1 (v := .int (nI nn)) rfl rfl (by decide) (List.mem_of_getElem? (i := 5) rfl) rfl rfl dX5_start_39 ?_
    refine j_pc 42 rfl ?_
    refine j_callV hX 4 (c_lay l g inr ina 0 768 fi sdr sda 48 48 sd 0 32 nn (by omega) (by omega) (by omega) (by omega) hB (by omega) (by omega) (by omega)) gX5_start_X7_lay (by decide +kernel) rfl ⟨rfl, rfl⟩ ⟨Nat.le_of_ble_eq_true rfl, Nat.le_of_ble_eq_true rfl⟩ 7 4 rfl rfl [4, 5, 2, 3] rfl (by decide) (fun _ => rfl) rfl [] rfl (Nat.le_of_ble_eq_true rfl) ⟨Nat.le_refl _, Nat.le_refl _⟩ dX5_start_42 ?_
    intro F1 hF1
    try dsimp only at hF1
    refine j_w [oB hh 5 [.ref inr, .ref outr, .ref zo, .ref on, .ref sp, .ref sdr, .int (nI ly), .int (nI tr)], oB sp 8 [.int (nI fm), .int (nI nn), .int (nI ht), .int (nI lys), .int (nI fa), .int (nI mk)], oB sdr 7 [.ref sda, .int (nI 48)], bA g sda 48 sd, oB inr 7 [.ref ina, .int (nI (max 0 (0 + nn)))], bA g ina 768 F1] rfl ?_
    refine j_st [] rfl ?_
    have jn_3 : ∀ (m2 : Nat) (F2 : Nat → Int32), (m2 = if fm = 0 then 64 else nn) → (F2 = putL fi 0 (slice sd 32 nn ++ (if fm = 0 then List.replicate (64 - nn) 0 else []))) → J p l e ({ frames := 2, cells := 0, slots := 0, locals := 65 } : Room) s m ([.ref hh, .int (nI kd), .int (nI ku), .int (nI kv), .int (nI kw)] : List Value).toArray below meth c g A 6 Q 0 0 [oB hh 5 [.ref inr, .ref outr, .ref zo, .ref on, .ref sp, .ref sdr, .int (nI ly), .int (nI tr)], oB sp 8 [.int (nI fm), .int (nI nn), .int (nI ht), .int (nI lys), .int (nI fa), .int (nI mk)], oB sdr 7 [.ref sda, .int (nI 48)], bA g sda 48 sd, oB inr 7 [.ref ina, .int (nI m2)], bA g ina 768 F2] [(0, .ref hh), (1, .int (nI kd)), (2, .int (nI ku)), (3, .int (nI kv)), (4, .int (nI kw)), (5, .int (nI cp0))] 68 [] := by
      intro m2 F2 hm2 hF2
      refine j_aload_n hX 0 dX5_start_68 rfl ?_
      refine j_get hX in5 5 0 0 (v := .ref inr) rfl rfl (by decide) (List.mem_of_getElem? (i := 3) rfl) rfl rfl dX5_start_69 ?_
      refine j_aload_n hX 0 dX5_start_72 rfl ?_
      refine j_get hX in5 5 0 6 (v := .int (nI ly)) rfl rfl (by decide) (List.mem_of_getElem? (i := 6) rfl) rfl rfl dX5_start_73 ?_
      refine j_i2l hX dX5_start_76 ?_
      have jn_4 : ∀ (cn : Nat), (cn = if fm = 0 then 1 else 4) → J p l e ({ frames := 2, cells := 0, slots := 0, locals := 65 } : Room) s m ([.ref hh, .int (nI kd), .int (nI ku), .int (nI kv), .int (nI kw)] : List Value).toArray below meth c g A 6 Q 0 0 [oB hh 5 [.ref inr, .ref outr, .ref zo, .ref on, .ref sp, .ref sdr, .int (nI ly), .int (nI tr)], oB sp 8 [.int (nI fm), .int (nI nn), .int (nI ht), .int (nI lys), .int (nI fa), .int (nI mk)], oB sdr 7 [.ref sda, .int (nI 48)], bA g sda 48 sd, oB inr 7 [.ref ina, .int (nI m2)], bA g ina 768 F2] [(0, .ref hh), (1, .int (nI kd)), (2, .int (nI ku)), (3, .int (nI kv)), (4, .int (nI kw)), (5, .int (nI cp0))] 87 [.int (nI cn), .long ((nI ly).toInt64), .ref inr] := by
        intro cn hcn
        have hcl : m2 ≤ 64 ∧ cn ≤ 4 := by split at hm2 <;> split at hcn <;> omega
        refine j_callV hX 2 (c_addNumber l g inr ina m2 768 F2 ((nI ly).toInt64) cn (by omega) (by omega) (by omega)) gX5_start_X7_addNumber (by decide +kernel) rfl ⟨rfl, rfl⟩ ⟨Nat.le_of_ble_eq_true rfl, Nat.le_of_ble_eq_true rfl⟩ 7 4 rfl rfl [4, 5] rfl (by decide) (fun _ => rfl) rfl [] rfl (Nat.le_of_ble_eq_true rfl) ⟨Nat.le_refl _, Nat.le_refl _⟩ dX5_start_87 ?_
        intro F3 hF3
        try dsimp only at hF3
        refine j_w [oB hh 5 [.ref inr, .ref outr, .ref zo, .ref on, .ref sp, .ref sdr, .int (nI ly), .int (nI tr)], oB sp 8 [.int (nI fm), .int (nI nn), .int (nI ht), .int (nI lys), .int (nI fa), .int (nI mk)], oB sdr 7 [.ref sda, .int (nI 48)], bA g sda 48 sd, oB inr 7 [.ref ina, .int (nI (m2 + cn))], bA g ina 768 F3] rfl ?_
        refine j_st [] rfl ?_
        refine j_aload_n hX 0 dX5_start_90 rfl ?_
        refine j_pc 91 rfl ?_
        refine j_get hX in5 5 0 0 (v := .ref inr) rfl rfl (by decide) (List.mem_of_getElem? (i := 3) rfl) rfl rfl dX5_start_91 ?_
        refine j_aload_n hX 0 dX5_start_94 rfl ?_
        refine j_get hX in5 5 0 7 (v := .int (nI tr)) rfl rfl (by decide) (List.mem_of_getElem? (i := 7) rfl) rfl rfl dX5_start_95 ?_
        refine j_i2l hX dX5_start_98 ?_
        have jn_5 : ∀ (cm : Nat), (cm = if fm = 0 then 8 else 12) → J p l e ({ frames := 2, cells := 0, slots := 0, locals := 65 } : Room) s m ([.ref hh, .int (nI kd), .int (nI ku), .int (nI kv), .int (nI kw)] : List Value).toArray below meth c g A 6 Q 0 0 [oB hh 5 [.ref inr, .ref outr, .ref zo, .ref on, .ref sp, .ref sdr, .int (nI ly), .int (nI tr)], oB sp 8 [.int (nI fm), .int (nI nn), .int (nI ht), .int (nI lys), .int (nI fa), .int (nI mk)], oB sdr 7 [.ref sda, .int (nI 48)], bA g sda 48 sd, oB inr 7 [.ref ina, .int (nI (m2 + cn))], bA g ina 768 F3] [(0, .ref hh), (1, .int (nI kd)), (2, .int (nI ku)), (3, .int (nI kv)), (4, .int (nI kw)), (5, .int (nI cp0))] 111 [.int (nI cm), .long ((nI tr).toInt64), .ref inr] := by
          intro cm hcm
          have hcl2 : cm ≤ 12 := by split at hcm <;> omega
          refine j_callV hX 2 (c_addNumber l g inr ina (m2 + cn) 768 F3 ((nI tr).toInt64) cm (by omega) (by omega) (by omega)) gX5_start_X7_addNumber (by decide +kernel) rfl ⟨rfl, rfl⟩ ⟨Nat.le_of_ble_eq_true rfl, Nat.le_of_ble_eq_true rfl⟩ 7 4 rfl rfl [4, 5] rfl (by decide) (fun _ => rfl) rfl [] rfl (Nat.le_of_ble_eq_true rfl) ⟨Nat.le_refl _, Nat.le_refl _⟩ dX5_start_111 ?_
          intro F4 hF4
          try dsimp only at hF4
          refine j_w [oB hh 5 [.ref inr, .ref outr, .ref zo, .ref on, .ref sp, .ref sdr, .int (nI ly), .int (nI tr)], oB sp 8 [.int (nI fm), .int (nI nn), .int (nI ht), .int (nI lys), .int (nI fa), .int (nI mk)], oB sdr 7 [.ref sda, .int (nI 48)], bA g sda 48 sd, oB inr 7 [.ref ina, .int (nI ((m2 + cn) + cm))], bA g ina 768 F4] rfl ?_
          refine j_st [] rfl ?_
          refine j_aload_n hX 0 dX5_start_114 rfl ?_
          refine j_get hX in5 5 0 0 (v := .ref inr) rfl rfl (by decide) (List.mem_of_getElem? (i := 3) rfl) rfl rfl dX5_start_115 ?_
          refine j_iload_n hX 1 dX5_start_118 rfl ?_
          refine j_pc 119 rfl ?_
          refine j_i2l hX dX5_start_119 ?_
          have jn_6 : ∀ (cp : Nat), (cp = if fm = 0 then 1 else 4) → J p l e ({ frames := 2, cells := 0, slots := 0, locals := 65 } : Room) s m ([.ref hh, .int (nI kd), .int (nI ku), .int (nI kv), .int (nI kw)] : List Value).toArray below meth c g A 6 Q 0 0 [oB hh 5 [.ref inr, .ref outr, .ref zo, .ref on, .ref sp, .ref sdr, .int (nI ly), .int (nI tr)], oB sp 8 [.int (nI fm), .int (nI nn), .int (nI ht), .int (nI lys), .int (nI fa), .int (nI mk)], oB sdr 7 [.ref sda, .int (nI 48)], bA g sda 48 sd, oB inr 7 [.ref ina, .int (nI (m2 + cn + cm))], bA g ina 768 F4] [(0, .ref hh), (1, .int (nI kd)), (2, .int (nI ku)), (3, .int (nI kv)), (4, .int (nI kw)), (5, .int (nI cp0))] 130 [.int (nI cp), .long ((nI kd).toInt64), .ref inr] := by
            intro cp hcp
            have hcl3 : cp ≤ 4 := by split at hcp <;> omega
            refine j_callV hX 2 (c_addNumber l g inr ina (m2 + cn + cm) 768 F4 ((nI kd).toInt64) cp (by omega) (by omega) (by omega)) gX5_start_X7_addNumber (by decide +kernel) rfl ⟨rfl, rfl⟩ ⟨Nat.le_of_ble_eq_true rfl, Nat.le_of_ble_eq_true rfl⟩ 7 4 rfl rfl [4, 5] rfl (by decide) (fun _ => rfl) rfl [] rfl (Nat.le_of_ble_eq_true rfl) ⟨Nat.le_refl _, Nat.le_refl _⟩ dX5_start_130 ?_
            intro F5 hF5
            try dsimp only at hF5
            refine j_w [oB hh 5 [.ref inr, .ref outr, .ref zo, .ref on, .ref sp, .ref sdr, .int (nI ly), .int (nI tr)], oB sp 8 [.int (nI fm), .int (nI nn), .int (nI ht), .int (nI lys), .int (nI fa), .int (nI mk)], oB sdr 7 [.ref sda, .int (nI 48)], bA g sda 48 sd, oB inr 7 [.ref ina, .int (nI ((m2 + cn + cm) + cp))], bA g ina 768 F5] rfl ?_
            refine j_st [] rfl ?_
            refine j_aload_n hX 0 dX5_start_133 rfl ?_
            refine j_get hX in5 5 0 0 (v := .ref inr) rfl rfl (by decide) (List.mem_of_getElem? (i := 3) rfl) rfl rfl dX5_start_134 ?_
            refine j_iload_n hX 2 dX5_start_137 rfl ?_
            refine j_i2l hX dX5_start_138 ?_
            refine j_iconst hX (4) dX5_start_139 (by decide) ?_
            refine j_callV hX 2 (c_addNumber l g inr ina ((m2 + cn + cm) + cp) 768 F5 ((nI ku).toInt64) 4 (by omega) (by omega) (by omega)) gX5_start_X7_addNumber (by decide +kernel) rfl ⟨rfl, rfl⟩ ⟨Nat.le_of_ble_eq_true rfl, Nat.le_of_ble_eq_true rfl⟩ 7 4 rfl rfl [4, 5] rfl (by decide) (fun _ => rfl) rfl [] rfl (Nat.le_of_ble_eq_true rfl) ⟨Nat.le_refl _, Nat.le_refl _⟩ dX5_start_140 ?_
            intro F6 hF6
            try dsimp only at hF6
            refine j_w [oB hh 5 [.ref inr, .ref outr, .ref zo, .ref on, .ref sp, .ref sdr, .int (nI ly), .int (nI tr)], oB sp 8 [.int (nI fm), .int (nI nn), .int (nI ht), .int (nI lys), .int (nI fa), .int (nI mk)], oB sdr 7 [.ref sda, .int (nI 48)], bA g sda 48 sd, oB inr 7 [.ref ina, .int (nI (((m2 + cn + cm) + cp) + 4))], bA g ina 768 F6] rfl ?_
            refine j_st [] rfl ?_
            refine j_pc 143 rfl ?_
            refine j_aload_n hX 0 dX5_start_143 rfl ?_
            refine j_get hX in5 5 0 0 (v := .ref inr) rfl rfl (by decide) (List.mem_of_getElem? (i := 3) rfl) rfl rfl dX5_start_144 ?_
            refine j_iload_n hX 3 dX5_start_147 rfl ?_
            refine j_i2l hX dX5_start_148 ?_
            refine j_iconst hX (4) dX5_start_149 (by decide) ?_
            refine j_callV hX 2 (c_addNumber l g inr ina (((m2 + cn + cm) + cp) + 4) 768 F6 ((nI kv).toInt64) 4 (by omega) (by omega) (by omega)) gX5_start_X7_addNumber (by decide +kernel) rfl ⟨rfl, rfl⟩ ⟨Nat.le_of_ble_eq_true rfl, Nat.le_of_ble_eq_true rfl⟩ 7 4 rfl rfl [4, 5] rfl (by decide) (fun _ => rfl) rfl [] rfl (Nat.le_of_ble_eq_true rfl) ⟨Nat.le_refl _, Nat.le_refl _⟩ dX5_start_150 ?_
            intro F7 hF7
            try dsimp only at hF7
            refine j_w [oB hh 5 [.ref inr, .ref outr, .ref zo, .ref on, .ref sp, .ref sdr, .int (nI ly), .int (nI tr)], oB sp 8 [.int (nI fm), .int (nI nn), .int (nI ht), .int (nI lys), .int (nI fa), .int (nI mk)], oB sdr 7 [.ref sda, .int (nI 48)], bA g sda 48 sd, oB inr 7 [.ref ina, .int (nI ((((m2 + cn + cm) + cp) + 4) + 4))], bA g ina 768 F7] rfl ?_
            refine j_st [] rfl ?_
            refine j_aload_n hX 0 dX5_start_153 rfl ?_
            refine j_get hX in5 5 0 0 (v := .ref inr) rfl rfl (by decide) (List.mem_of_getElem? (i := 3) rfl) rfl rfl dX5_start_154 ?_
            refine j_pc 157 rfl ?_
            refine j_iload hX 4 dX5_start_157 rfl ?_
            refine j_i2l hX dX5_start_159 ?_
            refine j_iconst hX (4) dX5_start_160 (by decide) ?_
            refine j_callV hX 2 (c_addNumber l g inr ina ((((m2 + cn + cm) + cp) + 4) + 4) 768 F7 ((nI kw).toInt64) 4 (by omega) (by omega) (by omega)) gX5_start_X7_addNumber (by decide +kernel) rfl ⟨rfl, rfl⟩ ⟨Nat.le_of_ble_eq_true rfl, Nat.le_of_ble_eq_true rfl⟩ 7 4 rfl rfl [4, 5] rfl (by decide) (fun _ => rfl) rfl [] rfl (Nat.le_of_ble_eq_true rfl) ⟨Nat.le_refl _, Nat.le_refl _⟩ dX5_start_161 ?_
            intro F8 hF8
            try dsimp only at hF8
            refine j_w [oB hh 5 [.ref inr, .ref outr, .ref zo, .ref on, .ref sp, .ref sdr, .int (nI ly), .int (nI tr)], oB sp 8 [.int (nI fm), .int (nI nn), .int (nI ht), .int (nI lys), .int (nI fa), .int (nI mk)], oB sdr 7 [.ref sda, .int (nI 48)], bA g sda 48 sd, oB inr 7 [.ref ina, .int (nI (((((m2 + cn + cm) + cp) + 4) + 4) + 4))], bA g ina 768 F8] rfl ?_
            refine j_st [] rfl ?_
            obtain ⟨hFin, hlen⟩ := begin_fin hnn hm2 hcn hcm hcp hF2 hF3 hF4 hF5 hF6 hF7 hF8
            refine j_w [oB hh 5 [.ref inr, .ref outr, .ref zo, .ref on, .ref sp, .ref sdr, .int (nI ly), .int (nI tr)], oB sp 8 [.int (nI fm), .int (nI nn), .int (nI ht), .int (nI lys), .int (nI fa), .int (nI mk)], oB sdr 7 [.ref sda, .int (nI 48)], bA g sda 48 sd, oB inr 7 [.ref ina, .int (nI (hl fm nn))], bA g ina 768 F8] (by rw [← hlen]) ?_
            exact hret F8 hFin 164 _ .return_ dX5_start_164 rfl
          refine j_iload hX 5 dX5_start_120 rfl ?_
          refine j_if_eqN hX cp0 129 dX5_start_122 (by decide) (by omega) (fun b_122 => ?_) (fun b_122 => ?_)
          · skip
            refine j_iconst hX (4) dX5_start_129 (by decide) ?_
            exact jn_6 4 (by first | rw [if_pos (by omega)] | rw [if_neg (by omega)])
          · skip
            refine j_pc 125 rfl ?_
            refine j_iconst hX (1) dX5_start_125 (by decide) ?_
            refine j_goto hX 130 dX5_start_126 (by decide) ?_
            exact jn_6 1 (by first | rw [if_pos (by omega)] | rw [if_neg (by omega)])
        refine j_iload hX 5 dX5_start_99 rfl ?_
        refine j_if_eqN hX cp0 109 dX5_start_101 (by decide) (by omega) (fun b_101 => ?_) (fun b_101 => ?_)
        · skip
          refine j_bipush hX (12) dX5_start_109 (by decide) ?_
          exact jn_5 12 (by first | rw [if_pos (by omega)] | rw [if_neg (by omega)])
        · skip
          refine j_bipush hX (8) dX5_start_104 (by decide) ?_
          refine j_goto hX 111 dX5_start_106 (by decide) ?_
          exact jn_5 8 (by first | rw [if_pos (by omega)] | rw [if_neg (by omega)])
      refine j_iload hX 5 dX5_start_77 rfl ?_
      refine j_pc 79 rfl ?_
      refine j_if_eqN hX cp0 86 dX5_start_79 (by decide) (by omega) (fun b_79 => ?_) (fun b_79 => ?_)
      · skip
        refine j_iconst hX (4) dX5_start_86 (by decide) ?_
        exact jn_4 4 (by first | rw [if_pos (by omega)] | rw [if_neg (by omega)])
      · skip
        refine j_iconst hX (1) dX5_start_82 (by decide) ?_
        refine j_goto hX 87 dX5_start_83 (by decide) ?_
        exact jn_4 1 (by first | rw [if_pos (by omega)] | rw [if_neg (by omega)])
    refine j_w [oB hh 5 [.ref inr, .ref outr, .ref zo, .ref on, .ref sp, .ref sdr, .int (nI ly), .int (nI tr)], oB sp 8 [.int (nI fm), .int (nI nn), .int (nI ht), .int (nI lys), .int (nI fa), .int (nI mk)], oB sdr 7 [.ref sda, .int (nI 48)], bA g sda 48 sd, oB inr 7 [.ref ina, .int (nI nn)], bA g ina 768 F1] (by rw [show max 0 (0 + nn) = nn by omega]) ?_
    refine j_iload hX 0 dX5_start_45 rfl ?_
    refine j_if_eqN hX cp0 68 dX5_start_47 (by decide) (by omega) (fun b_47 => ?_) (fun b_47 => ?_)
    · skip
      refine j_perm [(0, .ref hh), (1, .int (nI kd)), (2, .int (nI ku)), (3, .int (nI kv)), (4, .int (nI kw)), (5, .int (nI cp0))] [1, 2, 3, 4, 5, 0] rfl ?_
      exact jn_3 nn F1 (by first | (rw [if_pos (by omega)]; omega) | (rw [if_neg (by omega)])) (by first | (rw [if_pos (by omega), hFz, hF1, putL_app' (by rw [slice_length, Nat.zero_add]), zeros_Zl]) | (rw [if_neg (by omega), hF1, List.append_nil]))
    · skip
      refine j_aload_n hX 1 dX5_start_50 rfl ?_
      refine j_get hX in5 5 0 0 (v := .ref inr) rfl rfl (by decide) (List.mem_of_getElem? (i := 3) rfl) rfl rfl dX5_start_51 ?_
      refine j_pc 54 rfl ?_
      refine j_lconst hX 0 dX5_start_54 rfl ?_
      refine j_bipush hX (64) dX5_start_55 (by decide) ?_
      refine j_aload_n hX 1 dX5_start_57 rfl ?_
      refine j_get hX in5 5 0 4 (v := .ref sp) rfl rfl (by decide) (List.mem_of_getElem? (i := 1) rfl) rfl rfl dX5_start_58 ?_
      refine j_get hX in8 8 1 1 (v := .int (nI nn)) rfl rfl (by decide) (List.mem_of_getElem? (i := 5) rfl) rfl rfl dX5_start_61 ?_
      refine j_isubN hX 64 nn (by omega) dX5_start_64 ?_
      refine j_callV hX 2 (c_addNumber l g inr ina nn 768 F1 (0 : Int64) (64 - nn) (by omega) (by omega) (by omega)) gX5_start_X7_addNumber (by decide +kernel) rfl ⟨rfl, rfl⟩ ⟨Nat.le_of_ble_eq_true rfl, Nat.le_of_ble_eq_true rfl⟩ 7 4 rfl rfl [4, 5] rfl (by decide) (fun _ => rfl) rfl [] rfl (Nat.le_of_ble_eq_true rfl) ⟨Nat.le_refl _, Nat.le_refl _⟩ dX5_start_65 ?_
      intro Fz hFz
      try dsimp only at hFz
      refine j_w [oB hh 5 [.ref inr, .ref outr, .ref zo, .ref on, .ref sp, .ref sdr, .int (nI ly), .int (nI tr)], oB sp 8 [.int (nI fm), .int (nI nn), .int (nI ht), .int (nI lys), .int (nI fa), .int (nI mk)], oB sdr 7 [.ref sda, .int (nI 48)], bA g sda 48 sd, oB inr 7 [.ref ina, .int (nI (nn + (64 - nn)))], bA g ina 768 Fz] rfl ?_
      refine j_st [] rfl ?_
      refine j_perm [(0, .ref hh), (1, .int (nI kd)), (2, .int (nI ku)), (3, .int (nI kv)), (4, .int (nI kw)), (5, .int (nI cp0))] [1, 2, 3, 4, 5, 0] rfl ?_
      exact jn_3 (nn + (64 - nn)) Fz (by first | (rw [if_pos (by omega)]; omega) | (rw [if_neg (by omega)])) (by first | (rw [if_pos (by omega), hFz, hF1, putL_app' (by rw [slice_length, Nat.zero_add]), zeros_Zl]) | (rw [if_neg (by omega), hF1, List.append_nil]))
  refine j_get hX in8 8 1 0 (v := .int (nI fm)) rfl rfl (by decide) (List.mem_of_getElem? (i := 2) rfl) rfl rfl dX5_start_4 ?_
  refine j_pc 7 rfl ?_
  refine j_if_neN hX fm 14 dX5_start_7 (by decide) (by omega) (fun b_7 => ?_) (fun b_7 => ?_)
  · skip
    refine j_iconst hX (0) dX5_start_14 (by decide) ?_
    exact jn_1 0 (by first | rw [if_pos (by omega)] | rw [if_neg (by omega)])
  · skip
    refine j_iconst hX (1) dX5_start_10 (by decide) ?_
    refine j_goto hX 15 dX5_start_11 (by decide) ?_
    exact jn_1 1 (by first | rw [if_pos (by omega)] | rw [if_neg (by omega)])

