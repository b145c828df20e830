/-- Row.at -/
def rAt (f : Nat → Int32) (n : Nat) (i : Int32) : Int32 := if i < 0 ∨ nI n ≤ i then -9 else f i.toNatClampNeg &&& 255
theorem rAt_lo {f : Nat → Int32} {n : Nat} {i : Int32} (h : i < 0) : rAt f n i = -9 := if_pos (Or.inl h)
theorem rAt_hi {f : Nat → Int32} {n : Nat} {i : Int32} (h : ¬ i < nI n) : rAt f n i = -9 := if_pos (Or.inr (Int32.not_lt.mp h))
theorem rAt_mid {f : Nat → Int32} {n : Nat} {i : Int32} (h : ¬ i < 0) (h2 : i < nI n) : rAt f n i = f i.toNatClampNeg &&& 255 := if_neg (fun hh => hh.elim h (fun z => absurd h2 (Int32.not_lt.mpr z)))
theorem rAt_in {f : Nat → Int32} {n j : Nat} (h : j < n) (hn : n < 2 ^ 31) : rAt f n (nI j) = f j &&& 255 := by
  rw [rAt_mid (nI_pos (by omega)) (nI_lt h hn), nI_clamp (by omega)]
theorem vp_in_lt {i : Int32} {n c : Nat} (h : ¬ i < 0) (h2 : i < nI n) (hc : n ≤ c) (hb : c < 2 ^ 31) : vp_in i c := by
  rw [vp_in_iff]
  have e1 := nI_toInt (n := n) (by omega)
  rw [Int32.lt_iff_toInt_lt] at h h2
  rw [e1] at h2
  have : (0 : Int32).toInt = 0 := rfl
  omega
theorem max_N {a b : Nat} (ha : a < 2 ^ 31) (hb : b < 2 ^ 31) : (if nI a < nI b then nI b else nI a) = nI (max a b) := by
  rw [Nat.max_def]
  split <;> rename_i h
  · rw [nI_ltI ha hb] at h; rw [if_pos (by omega)]
  · rw [nI_ltI ha hb] at h
    split
    · rw [show a = b by omega]
    · rfl

theorem dX7_clear_0 : decode cX7_clear 0 = .ok (.aload_n 0, 1) := by decide +kernel
theorem dX7_clear_1 : decode cX7_clear 1 = .ok (.iconst 0, 1) := by decide +kernel
theorem dX7_clear_2 : decode cX7_clear 2 = .ok (.putfield 21, 3) := by decide +kernel
theorem dX7_clear_5 : decode cX7_clear 5 = .ok (.return_, 1) := by decide +kernel
theorem dX7_at_0 : decode cX7_at 0 = .ok (.iload_n 1, 1) := by decide +kernel
theorem dX7_at_1 : decode cX7_at 1 = .ok (.ifCond .lt 11, 3) := by decide +kernel
theorem dX7_at_4 : decode cX7_at 4 = .ok (.iload_n 1, 1) := by decide +kernel
theorem dX7_at_5 : decode cX7_at 5 = .ok (.aload_n 0, 1) := by decide +kernel
theorem dX7_at_6 : decode cX7_at 6 = .ok (.getfield 21, 3) := by decide +kernel
theorem dX7_at_9 : decode cX7_at 9 = .ok (.if_icmp .lt 8, 3) := by decide +kernel
theorem dX7_at_12 : decode cX7_at 12 = .ok (.bipush (-9), 2) := by decide +kernel
theorem dX7_at_14 : decode cX7_at 14 = .ok (.goto 13, 3) := by decide +kernel
theorem dX7_at_17 : decode cX7_at 17 = .ok (.aload_n 0, 1) := by decide +kernel
theorem dX7_at_18 : decode cX7_at 18 = .ok (.getfield 15, 3) := by decide +kernel
theorem dX7_at_21 : decode cX7_at 21 = .ok (.iload_n 1, 1) := by decide +kernel
theorem dX7_at_22 : decode cX7_at 22 = .ok (.baload, 1) := by decide +kernel
theorem dX7_at_23 : decode cX7_at 23 = .ok (.sipush 255, 3) := by decide +kernel
theorem dX7_at_26 : decode cX7_at 26 = .ok (.iand, 1) := by decide +kernel
theorem dX7_at_27 : decode cX7_at 27 = .ok (.ireturn, 1) := by decide +kernel
theorem dX7_put_0 : decode cX7_put 0 = .ok (.iload_n 1, 1) := by decide +kernel
theorem dX7_put_1 : decode cX7_put 1 = .ok (.ifCond .lt 19, 3) := by decide +kernel
theorem dX7_put_4 : decode cX7_put 4 = .ok (.iload_n 1, 1) := by decide +kernel
theorem dX7_put_5 : decode cX7_put 5 = .ok (.aload_n 0, 1) := by decide +kernel
theorem dX7_put_6 : decode cX7_put 6 = .ok (.getfield 21, 3) := by decide +kernel
theorem dX7_put_9 : decode cX7_put 9 = .ok (.if_icmp .ge 11, 3) := by decide +kernel
theorem dX7_put_12 : decode cX7_put 12 = .ok (.aload_n 0, 1) := by decide +kernel
theorem dX7_put_13 : decode cX7_put 13 = .ok (.getfield 15, 3) := by decide +kernel
theorem dX7_put_16 : decode cX7_put 16 = .ok (.iload_n 1, 1) := by decide +kernel
theorem dX7_put_17 : decode cX7_put 17 = .ok (.iload_n 2, 1) := by decide +kernel
theorem dX7_put_18 : decode cX7_put 18 = .ok (.i2b, 1) := by decide +kernel
theorem dX7_put_19 : decode cX7_put 19 = .ok (.bastore, 1) := by decide +kernel
theorem dX7_put_20 : decode cX7_put 20 = .ok (.return_, 1) := by decide +kernel
theorem dX7_addNumber_0 : decode cX7_addNumber 0 = .ok (.iload_n 3, 1) := by decide +kernel
theorem dX7_addNumber_1 : decode cX7_addNumber 1 = .ok (.iconst 1, 1) := by decide +kernel
theorem dX7_addNumber_2 : decode cX7_addNumber 2 = .ok (.isub, 1) := by decide +kernel
theorem dX7_addNumber_3 : decode cX7_addNumber 3 = .ok (.istore 4, 2) := by decide +kernel
theorem dX7_addNumber_5 : decode cX7_addNumber 5 = .ok (.iload 4, 2) := by decide +kernel
theorem dX7_addNumber_7 : decode cX7_addNumber 7 = .ok (.ifCond .lt 60, 3) := by decide +kernel
theorem dX7_addNumber_10 : decode cX7_addNumber 10 = .ok (.aload_n 0, 1) := by decide +kernel
theorem dX7_addNumber_11 : decode cX7_addNumber 11 = .ok (.getfield 21, 3) := by decide +kernel
theorem dX7_addNumber_14 : decode cX7_addNumber 14 = .ok (.aload_n 0, 1) := by decide +kernel
theorem dX7_addNumber_15 : decode cX7_addNumber 15 = .ok (.getfield 15, 3) := by decide +kernel
theorem dX7_addNumber_18 : decode cX7_addNumber 18 = .ok (.arraylength, 1) := by decide +kernel
theorem dX7_addNumber_19 : decode cX7_addNumber 19 = .ok (.if_icmp .ge 48, 3) := by decide +kernel
theorem dX7_addNumber_22 : decode cX7_addNumber 22 = .ok (.aload_n 0, 1) := by decide +kernel
theorem dX7_addNumber_23 : decode cX7_addNumber 23 = .ok (.getfield 15, 3) := by decide +kernel
theorem dX7_addNumber_26 : decode cX7_addNumber 26 = .ok (.aload_n 0, 1) := by decide +kernel
theorem dX7_addNumber_27 : decode cX7_addNumber 27 = .ok (.getfield 21, 3) := by decide +kernel
theorem dX7_addNumber_30 : decode cX7_addNumber 30 = .ok (.iload 4, 2) := by decide +kernel
theorem dX7_addNumber_32 : decode cX7_addNumber 32 = .ok (.bipush 8, 2) := by decide +kernel
theorem dX7_addNumber_34 : decode cX7_addNumber 34 = .ok (.if_icmp .ge 13, 3) := by decide +kernel
theorem dX7_addNumber_37 : decode cX7_addNumber 37 = .ok (.lload_n 1, 1) := by decide +kernel
theorem dX7_addNumber_38 : decode cX7_addNumber 38 = .ok (.bipush 8, 2) := by decide +kernel
theorem dX7_addNumber_40 : decode cX7_addNumber 40 = .ok (.iload 4, 2) := by decide +kernel
theorem dX7_addNumber_42 : decode cX7_addNumber 42 = .ok (.imul, 1) := by decide +kernel
theorem dX7_addNumber_43 : decode cX7_addNumber 43 = .ok (.lushr, 1) := by decide +kernel
theorem dX7_addNumber_44 : decode cX7_addNumber 44 = .ok (.goto 4, 3) := by decide +kernel
theorem dX7_addNumber_47 : decode cX7_addNumber 47 = .ok (.lconst 0, 1) := by decide +kernel
theorem dX7_addNumber_48 : decode cX7_addNumber 48 = .ok (.l2i, 1) := by decide +kernel
theorem dX7_addNumber_49 : decode cX7_addNumber 49 = .ok (.i2b, 1) := by decide +kernel
theorem dX7_addNumber_50 : decode cX7_addNumber 50 = .ok (.bastore, 1) := by decide +kernel
theorem dX7_addNumber_51 : decode cX7_addNumber 51 = .ok (.aload_n 0, 1) := by decide +kernel
theorem dX7_addNumber_52 : decode cX7_addNumber 52 = .ok (.dup, 1) := by decide +kernel
theorem dX7_addNumber_53 : decode cX7_addNumber 53 = .ok (.getfield 21, 3) := by decide +kernel
theorem dX7_addNumber_56 : decode cX7_addNumber 56 = .ok (.iconst 1, 1) := by decide +kernel
theorem dX7_addNumber_57 : decode cX7_addNumber 57 = .ok (.iadd, 1) := by decide +kernel
theorem dX7_addNumber_58 : decode cX7_addNumber 58 = .ok (.putfield 21, 3) := by decide +kernel
theorem dX7_addNumber_61 : decode cX7_addNumber 61 = .ok (.iinc 4 (-1), 3) := by decide +kernel
theorem dX7_addNumber_64 : decode cX7_addNumber 64 = .ok (.goto (-59), 3) := by decide +kernel
theorem dX7_addNumber_67 : decode cX7_addNumber 67 = .ok (.return_, 1) := by decide +kernel
theorem dX7_lay_0 : decode cX7_lay 0 = .ok (.iload_n 1, 1) := by decide +kernel
theorem dX7_lay_1 : decode cX7_lay 1 = .ok (.ifCond .lt 32, 3) := by decide +kernel
theorem dX7_lay_4 : decode cX7_lay 4 = .ok (.iload 4, 2) := by decide +kernel
theorem dX7_lay_6 : decode cX7_lay 6 = .ok (.ifCond .lt 27, 3) := by decide +kernel
theorem dX7_lay_9 : decode cX7_lay 9 = .ok (.iload_n 1, 1) := by decide +kernel
theorem dX7_lay_10 : decode cX7_lay 10 = .ok (.aload_n 0, 1) := by decide +kernel
theorem dX7_lay_11 : decode cX7_lay 11 = .ok (.getfield 21, 3) := by decide +kernel
theorem dX7_lay_14 : decode cX7_lay 14 = .ok (.if_icmp .gt 19, 3) := by decide +kernel
theorem dX7_lay_17 : decode cX7_lay 17 = .ok (.iload 4, 2) := by decide +kernel
theorem dX7_lay_19 : decode cX7_lay 19 = .ok (.aload_n 0, 1) := by decide +kernel
theorem dX7_lay_20 : decode cX7_lay 20 = .ok (.getfield 15, 3) := by decide +kernel
theorem dX7_lay_23 : decode cX7_lay 23 = .ok (.arraylength, 1) := by decide +kernel
theorem dX7_lay_24 : decode cX7_lay 24 = .ok (.iload_n 1, 1) := by decide +kernel
theorem dX7_lay_25 : decode cX7_lay 25 = .ok (.isub, 1) := by decide +kernel
theorem dX7_lay_26 : decode cX7_lay 26 = .ok (.if_icmp .gt 7, 3) := by decide +kernel
theorem dX7_lay_29 : decode cX7_lay 29 = .ok (.iconst 1, 1) := by decide +kernel
theorem dX7_lay_30 : decode cX7_lay 30 = .ok (.goto 4, 3) := by decide +kernel
theorem dX7_lay_33 : decode cX7_lay 33 = .ok (.iconst 0, 1) := by decide +kernel
theorem dX7_lay_34 : decode cX7_lay 34 = .ok (.istore 5, 2) := by decide +kernel
theorem dX7_lay_36 : decode cX7_lay 36 = .ok (.iload 5, 2) := by decide +kernel
theorem dX7_lay_38 : decode cX7_lay 38 = .ok (.ifCond .eq 48, 3) := by decide +kernel
theorem dX7_lay_41 : decode cX7_lay 41 = .ok (.iload_n 3, 1) := by decide +kernel
theorem dX7_lay_42 : decode cX7_lay 42 = .ok (.ifCond .lt 44, 3) := by decide +kernel
theorem dX7_lay_45 : decode cX7_lay 45 = .ok (.iload_n 3, 1) := by decide +kernel
theorem dX7_lay_46 : decode cX7_lay 46 = .ok (.aload_n 2, 1) := by decide +kernel
theorem dX7_lay_47 : decode cX7_lay 47 = .ok (.getfield 21, 3) := by decide +kernel
theorem dX7_lay_50 : decode cX7_lay 50 = .ok (.iload 4, 2) := by decide +kernel
theorem dX7_lay_52 : decode cX7_lay 52 = .ok (.isub, 1) := by decide +kernel
theorem dX7_lay_53 : decode cX7_lay 53 = .ok (.if_icmp .gt 33, 3) := by decide +kernel
theorem dX7_lay_56 : decode cX7_lay 56 = .ok (.aload_n 2, 1) := by decide +kernel
theorem dX7_lay_57 : decode cX7_lay 57 = .ok (.getfield 15, 3) := by decide +kernel
theorem dX7_lay_60 : decode cX7_lay 60 = .ok (.iload_n 3, 1) := by decide +kernel
theorem dX7_lay_61 : decode cX7_lay 61 = .ok (.aload_n 0, 1) := by decide +kernel
theorem dX7_lay_62 : decode cX7_lay 62 = .ok (.getfield 15, 3) := by decide +kernel
theorem dX7_lay_65 : decode cX7_lay 65 = .ok (.iload_n 1, 1) := by decide +kernel
theorem dX7_lay_66 : decode cX7_lay 66 = .ok (.iload 4, 2) := by decide +kernel
theorem dX7_lay_68 : decode cX7_lay 68 = .ok (.invokestatic 29, 3) := by decide +kernel
theorem dX7_lay_71 : decode cX7_lay 71 = .ok (.aload_n 0, 1) := by decide +kernel
theorem dX7_lay_72 : decode cX7_lay 72 = .ok (.aload_n 0, 1) := by decide +kernel
theorem dX7_lay_73 : decode cX7_lay 73 = .ok (.getfield 21, 3) := by decide +kernel
theorem dX7_lay_76 : decode cX7_lay 76 = .ok (.iload_n 1, 1) := by decide +kernel
theorem dX7_lay_77 : decode cX7_lay 77 = .ok (.iload 4, 2) := by decide +kernel
theorem dX7_lay_79 : decode cX7_lay 79 = .ok (.iadd, 1) := by decide +kernel
theorem dX7_lay_80 : decode cX7_lay 80 = .ok (.invokestatic 9, 3) := by decide +kernel
theorem dX7_lay_83 : decode cX7_lay 83 = .ok (.putfield 21, 3) := by decide +kernel
theorem dX7_lay_86 : decode cX7_lay 86 = .ok (.return_, 1) := by decide +kernel
set_option maxRecDepth 20000 in
theorem ggX7_add_X7_lay : GoodIn wsX7_add wsX7_lay := goodIn_r _ [6, 1, 7, 8, 9, 10, 11, 12, 13, 14, 15, 16, 17] (by decide +kernel) (by decide +kernel)
set_option maxRecDepth 20000 in
theorem gX7_add_X7_lay : GoodIn wsX7_add (wsV RX7 25 RX7 yX7_lay wsX7_lay) := goodIn_app (goodIn_of _ (by decide +kernel)) ggX7_add_X7_lay
theorem dX7_add_0 : decode cX7_add 0 = .ok (.aload_n 0, 1) := by decide +kernel
theorem dX7_add_1 : decode cX7_add 1 = .ok (.aload_n 0, 1) := by decide +kernel
theorem dX7_add_2 : decode cX7_add 2 = .ok (.getfield 21, 3) := by decide +kernel
theorem dX7_add_5 : decode cX7_add 5 = .ok (.aload_n 1, 1) := by decide +kernel
theorem dX7_add_6 : decode cX7_add 6 = .ok (.iload_n 2, 1) := by decide +kernel
theorem dX7_add_7 : decode cX7_add 7 = .ok (.iload_n 3, 1) := by decide +kernel
theorem dX7_add_8 : decode cX7_add 8 = .ok (.invokevirtual 25, 3) := by decide +kernel
theorem dX7_add_11 : decode cX7_add 11 = .ok (.return_, 1) := by decide +kernel
set_option maxRecDepth 20000 in
theorem ggX7_addAll_X7_lay : GoodIn wsX7_addAll wsX7_lay := goodIn_r _ [6, 1, 7, 8, 9, 10, 11, 12, 13, 14, 15, 16, 17] (by decide +kernel) (by decide +kernel)
set_option maxRecDepth 20000 in
theorem gX7_addAll_X7_lay : GoodIn wsX7_addAll (wsV RX7 25 RX7 yX7_lay wsX7_lay) := goodIn_app (goodIn_of _ (by decide +kernel)) ggX7_addAll_X7_lay
theorem dX7_addAll_0 : decode cX7_addAll 0 = .ok (.aload_n 0, 1) := by decide +kernel
theorem dX7_addAll_1 : decode cX7_addAll 1 = .ok (.aload_n 0, 1) := by decide +kernel
theorem dX7_addAll_2 : decode cX7_addAll 2 = .ok (.getfield 21, 3) := by decide +kernel
theorem dX7_addAll_5 : decode cX7_addAll 5 = .ok (.aload_n 1, 1) := by decide +kernel
theorem dX7_addAll_6 : decode cX7_addAll 6 = .ok (.iconst 0, 1) := by decide +kernel
theorem dX7_addAll_7 : decode cX7_addAll 7 = .ok (.aload_n 1, 1) := by decide +kernel
theorem dX7_addAll_8 : decode cX7_addAll 8 = .ok (.getfield 21, 3) := by decide +kernel
theorem dX7_addAll_11 : decode cX7_addAll 11 = .ok (.invokevirtual 25, 3) := by decide +kernel
theorem dX7_addAll_14 : decode cX7_addAll 14 = .ok (.return_, 1) := by decide +kernel
set_option maxRecDepth 20000 in
theorem ggX7_sameAs_X7_at : GoodIn wsX7_sameAs wsX7_at := goodIn_r _ [6, 1, 7, 8, 9] (by decide +kernel) (by decide +kernel)
set_option maxRecDepth 20000 in
theorem gX7_sameAs_X7_at : GoodIn wsX7_sameAs (wsV RX7 35 RX7 yX7_at wsX7_at) := goodIn_app (goodIn_of _ (by decide +kernel)) ggX7_sameAs_X7_at
theorem dX7_sameAs_0 : decode cX7_sameAs 0 = .ok (.aload_n 0, 1) := by decide +kernel
theorem dX7_sameAs_1 : decode cX7_sameAs 1 = .ok (.getfield 21, 3) := by decide +kernel
theorem dX7_sameAs_4 : decode cX7_sameAs 4 = .ok (.aload_n 1, 1) := by decide +kernel
theorem dX7_sameAs_5 : decode cX7_sameAs 5 = .ok (.getfield 21, 3) := by decide +kernel
theorem dX7_sameAs_8 : decode cX7_sameAs 8 = .ok (.if_icmp .eq 5, 3) := by decide +kernel
theorem dX7_sameAs_11 : decode cX7_sameAs 11 = .ok (.iconst 0, 1) := by decide +kernel
theorem dX7_sameAs_12 : decode cX7_sameAs 12 = .ok (.ireturn, 1) := by decide +kernel
theorem dX7_sameAs_13 : decode cX7_sameAs 13 = .ok (.iconst 0, 1) := by decide +kernel
theorem dX7_sameAs_14 : decode cX7_sameAs 14 = .ok (.istore_n 2, 1) := by decide +kernel
theorem dX7_sameAs_15 : decode cX7_sameAs 15 = .ok (.iload_n 2, 1) := by decide +kernel
theorem dX7_sameAs_16 : decode cX7_sameAs 16 = .ok (.aload_n 0, 1) := by decide +kernel
theorem dX7_sameAs_17 : decode cX7_sameAs 17 = .ok (.getfield 21, 3) := by decide +kernel
theorem dX7_sameAs_20 : decode cX7_sameAs 20 = .ok (.if_icmp .ge 24, 3) := by decide +kernel
theorem dX7_sameAs_23 : decode cX7_sameAs 23 = .ok (.aload_n 0, 1) := by decide +kernel
theorem dX7_sameAs_24 : decode cX7_sameAs 24 = .ok (.iload_n 2, 1) := by decide +kernel
theorem dX7_sameAs_25 : decode cX7_sameAs 25 = .ok (.invokevirtual 35, 3) := by decide +kernel
theorem dX7_sameAs_28 : decode cX7_sameAs 28 = .ok (.aload_n 1, 1) := by decide +kernel
theorem dX7_sameAs_29 : decode cX7_sameAs 29 = .ok (.iload_n 2, 1) := by decide +kernel
theorem dX7_sameAs_30 : decode cX7_sameAs 30 = .ok (.invokevirtual 35, 3) := by decide +kernel
theorem dX7_sameAs_33 : decode cX7_sameAs 33 = .ok (.if_icmp .eq 5, 3) := by decide +kernel
theorem dX7_sameAs_36 : decode cX7_sameAs 36 = .ok (.iconst 0, 1) := by decide +kernel
theorem dX7_sameAs_37 : decode cX7_sameAs 37 = .ok (.ireturn, 1) := by decide +kernel
theorem dX7_sameAs_38 : decode cX7_sameAs 38 = .ok (.iinc 2 1, 3) := by decide +kernel
theorem dX7_sameAs_41 : decode cX7_sameAs 41 = .ok (.goto (-26), 3) := by decide +kernel
theorem dX7_sameAs_44 : decode cX7_sameAs 44 = .ok (.iconst 1, 1) := by decide +kernel
theorem dX7_sameAs_45 : decode cX7_sameAs 45 = .ok (.ireturn, 1) := by decide +kernel
set_option maxHeartbeats 1000000 in
set_option maxRecDepth 100000 in
/-- Row.clear -/
theorem c_clear (l : Launch) (g : jG) (r : Nat) (a : Nat) (n : Int32)  : jC l g yX7_clear wsX7_clear ({ frames := 0, cells := 0, slots := 0, locals := 0 } : Room) [.ref r] [oB r 7 [.ref a, .int n]] (fun u : Unit => none) (fun u : Unit => True) (fun u : Unit => [oB r 7 [.ref a, .int (nI 0)]]) := by
  refine jC.of (cc := cX7_clear) (own := RX7) (maxL := 1) (ret := none) (by decide +kernel) rfl rfl (Nat.le_of_ble_eq_true rfl) (fun u hu => rfl) ?_
  intro p e s m below meth c A Q hX hret
  have in7 : ∀ w ∈ wsX70, w ∈ wsX7_clear := (fun w h => List.mem_cons_of_mem _ (List.mem_append_right _ h))
  refine j_aload_n hX 0 dX7_clear_0 rfl ?_
  refine j_iconst hX (0) dX7_clear_1 (by decide) ?_
  refine j_st [.int (nI 0), .ref r] rfl ?_
  refine j_put hX (v := .int (nI 0)) (ty := .int) in7 tyX7 tyX7_ok nmX7 7 0 1 rfl rfl (by decide) (List.mem_of_getElem? (i := 1) rfl) rfl rfl rfl rfl rfl (Nat.le_of_ble_eq_true rfl) [oB r 7 [.ref a, .int (nI 0)]] rfl dX7_clear_2 ?_
  exact hret () trivial 5 _ .return_ dX7_clear_5 rfl

set_option maxHeartbeats 1000000 in
set_option maxRecDepth 100000 in
/-- Row.at -/
theorem c_at (l : Launch) (g : jG) (r : Nat) (a : Nat) (n : Nat) (cap : Nat) (f : Nat → Int32) (i : Int32) (hn : n ≤ cap) (hc : cap < 2 ^ 31) : jC l g yX7_at wsX7_at ({ frames := 0, cells := 0, slots := 0, locals := 0 } : Room) [.ref r, .int i] [oB r 7 [.ref a, .int (nI n)], bA g a cap f] (fun u : Unit => some (.int (rAt f n i))) (fun u : Unit => True) (fun u : Unit => [oB r 7 [.ref a, .int (nI n)], bA g a cap f]) := by
  refine jC.of (cc := cX7_at) (own := RX7) (maxL := 2) (ret := (some .int)) (by decide +kernel) rfl rfl (Nat.le_of_ble_eq_true rfl) (fun u hu => ⟨_, rfl, rfl⟩) ?_
  intro p e s m below meth c A Q hX hret
  have in7 : ∀ w ∈ wsX70, w ∈ wsX7_at := (fun w h => List.mem_cons_of_mem _ (List.mem_append_right _ h))
  refine j_iload_n hX 1 dX7_at_0 rfl ?_
  refine j_if_lt hX 12 dX7_at_1 (by decide) (fun b_1 => ?_) (fun b_1 => ?_)
  · skip
    refine j_bipush hX (-9) dX7_at_12 (by decide) ?_
    refine j_goto hX 27 dX7_at_14 (by decide) ?_
    refine j_topeq _ (rAt f n i) (by first | exact (rAt_lo b_1).symm | exact (rAt_hi b_9).symm | exact (rAt_mid b_1 b_9).symm) ?_
    exact hret () trivial 27 _ .ireturn dX7_at_27 rfl
  · skip
    refine j_iload_n hX 1 dX7_at_4 rfl ?_
    refine j_aload_n hX 0 dX7_at_5 rfl ?_
    refine j_pc 6 rfl ?_
    refine j_get hX in7 7 0 1 (v := .int (nI n)) rfl rfl (by decide) (List.mem_of_getElem? (i := 1) rfl) rfl rfl dX7_at_6 ?_
    refine j_icmp_lt hX 17 dX7_at_9 (by decide) (fun b_9 => ?_) (fun b_9 => ?_)
    · skip
      refine j_aload_n hX 0 dX7_at_17 rfl ?_
      refine j_get hX in7 7 0 0 (v := .ref a) rfl rfl (by decide) (List.mem_of_getElem? (i := 2) rfl) rfl rfl dX7_at_18 ?_
      refine j_iload_n hX 1 dX7_at_21 rfl ?_
      refine j_bald hX 1 rfl (vp_in_lt b_1 b_9 hn hc) dX7_at_22 ?_
      refine j_sipush hX (255) dX7_at_23 (by decide) ?_
      refine j_iand hX dX7_at_26 ?_
      refine j_pc 27 rfl ?_
      refine j_topeq _ (rAt f n i) (by first | exact (rAt_lo b_1).symm | exact (rAt_hi b_9).symm | exact (rAt_mid b_1 b_9).symm) ?_
      exact hret () trivial 27 _ .ireturn dX7_at_27 rfl
    · skip
      refine j_bipush hX (-9) dX7_at_12 (by decide) ?_
      refine j_goto hX 27 dX7_at_14 (by decide) ?_
      refine j_topeq _ (rAt f n i) (by first | exact (rAt_lo b_1).symm | exact (rAt_hi b_9).symm | exact (rAt_mid b_1 b_9).symm) ?_
      exact hret () trivial 27 _ .ireturn dX7_at_27 rfl

set_option maxHeartbeats 1000000 in
set_option maxRecDepth 100000 in
/-- Row.put at a place that is there -/
theorem c_put (l : Launch) (g : jG) (r : Nat) (a : Nat) (n : Nat) (cap : Nat) (f : Nat → Int32) (j : Nat) (b : Int32) (hn : n ≤ cap) (hc : cap < 2 ^ 31) (hj : j < n) : jC l g yX7_put wsX7_put ({ frames := 0, cells := 0, slots := 0, locals := 0 } : Room) [.ref r, .int (nI j), .int b] [oB r 7 [.ref a, .int (nI n)], bA g a cap f] (fun u : (Nat → Int32) => none) (fun u : (Nat → Int32) => u = upd f j (i8 b)) (fun u : (Nat → Int32) => [oB r 7 [.ref a, .int (nI n)], bA g a cap u]) := by
  refine jC.of (cc := cX7_put) (own := RX7) (maxL := 3) (ret := none) (by decide +kernel) rfl rfl (Nat.le_of_ble_eq_true rfl) (fun u hu => rfl) ?_
  intro p e s m below meth c A Q hX hret
  have in7 : ∀ w ∈ wsX70, w ∈ wsX7_put := (fun w h => List.mem_cons_of_mem _ (List.mem_append_right _ h))
  refine j_iload_n hX 1 dX7_put_0 rfl ?_
  refine j_if_ltN hX j 20 dX7_put_1 (by decide) (by omega) (fun b_1 => absurd b_1 not_false) (fun b_1 => ?_)
  refine j_iload_n hX 1 dX7_put_4 rfl ?_
  refine j_aload_n hX 0 dX7_put_5 rfl ?_
  refine j_get hX in7 7 0 1 (v := .int (nI n)) rfl rfl (by decide) (List.mem_of_getElem? (i := 1) rfl) rfl rfl dX7_put_6 ?_
  refine j_icmp_geN hX j n 20 dX7_put_9 (by decide) (by omega) (by omega) (fun b_9 => absurd b_9 (by omega)) (fun b_9 => ?_)
  refine j_aload_n hX 0 dX7_put_12 rfl ?_
  refine j_pc 13 rfl ?_
  refine j_get hX in7 7 0 0 (v := .ref a) rfl rfl (by decide) (List.mem_of_getElem? (i := 2) rfl) rfl rfl dX7_put_13 ?_
  refine j_iload_n hX 1 dX7_put_16 rfl ?_
  refine j_iload_n hX 2 dX7_put_17 rfl ?_
  refine j_i2b hX dX7_put_18 ?_
  refine j_bast8 hX 1 j rfl (by omega) (by omega) [oB r 7 [.ref a, .int (nI n)], bA g a cap (upd f j (i8 b))] rfl dX7_put_19 ?_
  exact hret (upd f j (i8 b)) rfl 20 _ .return_ dX7_put_20 rfl

set_option maxHeartbeats 1000000 in
set_option maxRecDepth 100000 in
/-- Row.addNumber where it fits -/
theorem c_addNumber (l : Launch) (g : jG) (r : Nat) (a : Nat) (n : Nat) (cap : Nat) (f : Nat → Int32) (x : Int64) (k : Nat) (hn : n ≤ cap) (hc : cap < 2 ^ 31) (hk : n + k ≤ cap) : jC l g yX7_addNumber wsX7_addNumber ({ frames := 0, cells := 0, slots := 0, locals := 0 } : Room) [.ref r, .long x, .int (nI k)] [oB r 7 [.ref a, .int (nI n)], bA g a cap f] (fun u : (Nat → Int32) => none) (fun u : (Nat → Int32) => u = putL f n (Zl x k)) (fun u : (Nat → Int32) => [oB r 7 [.ref a, .int (nI (n + k))], bA g a cap u]) := by
  refine jC.of (cc := cX7_addNumber) (own := RX7) (maxL := 5) (ret := none) (by decide +kernel) rfl rfl (Nat.le_of_ble_eq_true rfl) (fun u hu => rfl) ?_
  intro p e s m below meth c A Q hX hret
  have in7 : ∀ w ∈ wsX70, w ∈ wsX7_addNumber := (fun w h => List.mem_cons_of_mem _ (List.mem_append_right _ h))
  refine j_iload_n hX 2 dX7_addNumber_0 rfl ?_
  refine j_iconst hX (1) dX7_addNumber_1 (by decide) ?_
  refine j_isub hX dX7_addNumber_2 ?_
  refine j_istore hX [(4, .int ((nI k) - 1)), (0, .ref r), (1, .long x), (3, .int (nI k))] dX7_addNumber_3 (by decide) rfl ?_
  have lp_1 : ∀ (n_2 : Nat) (kk : Nat) (nn : Nat) (G : Nat → Int32), (kk < n_2) → (nn + kk = n + k) → (putL G nn (Zl x kk) = putL f n (Zl x k)) → J p l e ({ frames := 0, cells := 0, slots := 0, locals := 0 } : Room) s m ([.ref r, .long x, .int (nI k)] : List Value).toArray below meth c g A 5 Q 0 0 [oB r 7 [.ref a, .int (nI nn)], bA g a cap G] [(0, .ref r), (1, .long x), (3, .int (nI k)), (4, .int (nI kk - 1))] 5 [] := by
    intro n_2
    induction n_2 with
    | zero => intro kk nn G hm; exact absurd hm (Nat.not_lt_zero _)
    | succ n_2 ih_3 =>
      intro kk nn G hm h1 h2
      refine j_iload hX 3 dX7_addNumber_5 rfl ?_
      refine j_if_lt hX 67 dX7_addNumber_7 (by decide) (fun b_7 => ?_) (fun b_7 => ?_)
      · skip
        have h3 : kk = 0 := (nI_m1_lt (by omega)).mp b_7
        subst h3
        rw [Zl, putL_nil] at h2
        have h4 : nn = n + k := by omega
        subst h4
        exact hret G h2 67 _ .return_ dX7_addNumber_67 rfl
      · skip
        obtain ⟨k2, rfl⟩ : ∃ k2, kk = k2 + 1 := ⟨kk - 1, by have := mt (nI_m1_lt (by omega)).mpr b_7; omega⟩
        refine j_lv [(0, .ref r), (1, .long x), (3, .int (nI k)), (4, .int (nI k2))] (by rw [nI_pred]) ?_
        refine j_pc 10 rfl ?_
        refine j_aload_n hX 0 dX7_addNumber_10 rfl ?_
        refine j_get hX in7 7 0 1 (v := .int (nI nn)) rfl rfl (by decide) (List.mem_of_getElem? (i := 1) rfl) rfl rfl dX7_addNumber_11 ?_
        refine j_aload_n hX 0 dX7_addNumber_14 rfl ?_
        refine j_get hX in7 7 0 0 (v := .ref a) rfl rfl (by decide) (List.mem_of_getElem? (i := 2) rfl) rfl rfl dX7_addNumber_15 ?_
        refine j_alen hX (nI cap) 1 0 rfl rfl rfl dX7_addNumber_18 ?_
        refine j_icmp_geN hX nn cap 67 dX7_addNumber_19 (by decide) (by omega) (by omega) (fun b_19 => absurd b_19 (by omega)) (fun b_19 => ?_)
        refine j_aload_n hX 0 dX7_addNumber_22 rfl ?_
        refine j_get hX in7 7 0 0 (v := .ref a) rfl rfl (by decide) (List.mem_of_getElem? (i := 2) rfl) rfl rfl dX7_addNumber_23 ?_
        refine j_pc 26 rfl ?_
        refine j_aload_n hX 0 dX7_addNumber_26 rfl ?_
        refine j_get hX in7 7 0 1 (v := .int (nI nn)) rfl rfl (by decide) (List.mem_of_getElem? (i := 1) rfl) rfl rfl dX7_addNumber_27 ?_
        have jn_4 : ∀ (z : Int32), (z = zB x k2) → J p l e ({ frames := 0, cells := 0, slots := 0, locals := 0 } : Room) s m ([.ref r, .long x, .int (nI k)] : List Value).toArray below meth c g A 5 Q 0 0 [oB r 7 [.ref a, .int (nI nn)], bA g a cap G] [(4, .int (nI k2)), (0, .ref r), (1, .long x), (3, .int (nI k))] 50 [.int z, .int (nI nn), .ref a] := by
          intro z hz
          refine j_bastN hX 1 nn rfl (by omega) (by omega) [oB r 7 [.ref a, .int (nI nn)], bA g a cap (upd G nn (i8 z))] rfl dX7_addNumber_50 ?_
          refine j_aload_n hX 1 dX7_addNumber_51 rfl ?_
          refine j_dup hX dX7_addNumber_52 rfl ?_
          refine j_get hX in7 7 0 1 (v := .int (nI nn)) rfl rfl (by decide) (List.mem_of_getElem? (i := 1) rfl) rfl rfl dX7_addNumber_53 ?_
          refine j_iconst hX (1) dX7_addNumber_56 (by decide) ?_
          refine j_iaddN hX nn 1 dX7_addNumber_57 ?_
          refine j_pc 58 rfl ?_
          refine j_put hX (v := .int (nI (nn + 1))) (ty := .int) in7 tyX7 tyX7_ok nmX7 7 0 1 rfl rfl (by decide) (List.mem_of_getElem? (i := 1) rfl) rfl rfl rfl rfl rfl (Nat.le_of_ble_eq_true rfl) [oB r 7 [.ref a, .int (nI (nn + 1))], bA g a cap (upd G nn (i8 z))] rfl dX7_addNumber_58 ?_
          refine j_iinc hX (nI k2 + (-1)) [(4, .int (nI k2 + (-1))), (0, .ref r), (1, .long x), (3, .int (nI k))] 0 dX7_addNumber_61 rfl rfl (by decide) rfl ?_
          refine j_lv [(4, .int (nI k2 - 1)), (0, .ref r), (1, .long x), (3, .int (nI k))] (by rw [Int32.sub_eq_add_neg]) ?_
          refine j_goto hX 5 dX7_addNumber_64 (by decide) ?_
          refine j_perm [(0, .ref r), (1, .long x), (3, .int (nI k)), (4, .int (nI k2 - 1))] [1, 2, 3, 0] rfl ?_
          exact ih_3 k2 (nn + 1) (upd G nn (i8 z)) (by omega) (by omega) (by rw [hz, zB_B, putL_cons]; exact h2)
        refine j_iload hX 3 dX7_addNumber_30 rfl ?_
        refine j_bipush hX (8) dX7_addNumber_32 (by decide) ?_
        refine j_icmp_geN hX k2 8 47 dX7_addNumber_34 (by decide) (by omega) (by omega) (fun b_34 => ?_) (fun b_34 => ?_)
        · skip
          refine j_lconst hX 0 dX7_addNumber_47 rfl ?_
          refine j_l2i hX dX7_addNumber_48 ?_
          refine j_pc 49 rfl ?_
          refine j_i2b hX dX7_addNumber_49 ?_
          refine j_perm [(4, .int (nI k2)), (0, .ref r), (1, .long x), (3, .int (nI k))] [3, 0, 1, 2] rfl ?_
          exact jn_4 (i8 ((0 : Int64).toInt32)) (by unfold zB; first | (rw [if_neg (by omega)]; rfl) | rw [if_pos (by omega)])
        · skip
          refine j_lload_n hX 1 dX7_addNumber_37 rfl ?_
          refine j_bipush hX (8) dX7_addNumber_38 (by decide) ?_
          refine j_iload hX 3 dX7_addNumber_40 rfl ?_
          refine j_imulN hX 8 k2 dX7_addNumber_42 ?_
          refine j_lushr hX dX7_addNumber_43 ?_
          refine j_goto hX 48 dX7_addNumber_44 (by decide) ?_
          refine j_l2i hX dX7_addNumber_48 ?_
          refine j_pc 49 rfl ?_
          refine j_i2b hX dX7_addNumber_49 ?_
          refine j_perm [(4, .int (nI k2)), (0, .ref r), (1, .long x), (3, .int (nI k))] [3, 0, 1, 2] rfl ?_
          exact jn_4 (i8 ((lush x (nI (8 * k2))).toInt32)) (by unfold zB; first | (rw [if_neg (by omega)]; rfl) | rw [if_pos (by omega)])
  refine j_perm [(0, .ref r), (1, .long x), (3, .int (nI k)), (4, .int ((nI k) - 1))] [1, 2, 3, 0] rfl ?_
  exact lp_1 _ k n f (Nat.lt_succ_self _) (by omega) rfl

set_option maxHeartbeats 1000000 in
set_option maxRecDepth 100000 in
/-- Row.lay where it fits -/
theorem c_lay (l : Launch) (g : jG) (r : Nat) (a : Nat) (n : Nat) (cap : Nat) (f : Nat → Int32) (r2 : Nat) (a2 : Nat) (n2 : Nat) (cap2 : Nat) (f2 : Nat → Int32) (t : Nat) (b : Nat) (k : Nat) (hn : n ≤ cap) (hc : cap < 2 ^ 31) (hn2 : n2 ≤ cap2) (hc2 : cap2 < 2 ^ 31) (hB : isB f2) (ht : t ≤ n) (hk : t + k ≤ cap) (hb : b + k ≤ n2) : jC l g yX7_lay wsX7_lay ({ frames := 1, cells := 0, slots := 0, locals := 40 } : Room) [.ref r, .int (nI t), .ref r2, .int (nI b), .int (nI k)] [oB r 7 [.ref a, .int (nI n)], bA g a cap f, oB r2 7 [.ref a2, .int (nI n2)], bA g a2 cap2 f2] (fun u : (Nat → Int32) => none) (fun u : (Nat → Int32) => u = putL f t (slice f2 b k)) (fun u : (Nat → Int32) => [oB r 7 [.ref a, .int (nI (max n (t + k)))], bA g a cap u, oB r2 7 [.ref a2, .int (nI n2)], bA g a2 cap2 f2]) := by
  refine jC.of (cc := cX7_lay) (own := RX7) (maxL := 6) (ret := none) (by decide +kernel) rfl rfl (Nat.le_of_ble_eq_true rfl) (fun u hu => rfl) ?_
  intro p e s m below meth c A Q hX hret
  have in7 : ∀ w ∈ wsX70, w ∈ wsX7_lay := (fun w h => List.mem_cons_of_mem _ (List.mem_append_right _ h))
  refine j_iload_n hX 1 dX7_lay_0 rfl ?_
  refine j_if_ltN hX t 33 dX7_lay_1 (by decide) (by omega) (fun b_1 => absurd b_1 not_false) (fun b_1 => ?_)
  refine j_iload hX 4 dX7_lay_4 rfl ?_
  refine j_if_ltN hX k 33 dX7_lay_6 (by decide) (by omega) (fun b_6 => absurd b_6 not_false) (fun b_6 => ?_)
  refine j_iload_n hX 1 dX7_lay_9 rfl ?_
  refine j_aload_n hX 0 dX7_lay_10 rfl ?_
  refine j_get hX in7 7 0 1 (v := .int (nI n)) rfl rfl (by decide) (List.mem_of_getElem? (i := 1) rfl) rfl rfl dX7_lay_11 ?_
  refine j_pc 14 rfl ?_
  refine j_icmp_gtN hX t n 33 dX7_lay_14 (by decide) (by omega) (by omega) (fun b_14 => absurd b_14 (by omega)) (fun b_14 => ?_)
  refine j_iload hX 4 dX7_lay_17 rfl ?_
  refine j_aload_n hX 0 dX7_lay_19 rfl ?_
  refine j_get hX in7 7 0 0 (v := .ref a) rfl rfl (by decide) (List.mem_of_getElem? (i := 2) rfl) rfl rfl dX7_lay_20 ?_
  refine j_alen hX (nI cap) 1 0 rfl rfl rfl dX7_lay_23 ?_
  refine j_iload_n hX 1 dX7_lay_24 rfl ?_
  refine j_isubN hX cap t (by omega) dX7_lay_25 ?_
  refine j_icmp_gtN hX k (cap - t) 33 dX7_lay_26 (by decide) (by omega) (by omega) (fun b_26 => absurd b_26 (by omega)) (fun b_26 => ?_)
  refine j_pc 29 rfl ?_
  refine j_iconst hX (1) dX7_lay_29 (by decide) ?_
  refine j_goto hX 34 dX7_lay_30 (by decide) ?_
  refine j_st [.int (nI 1)] rfl ?_
  refine j_istore hX [(5, .int (nI 1)), (0, .ref r), (1, .int (nI t)), (2, .ref r2), (3, .int (nI b)), (4, .int (nI k))] dX7_lay_34 (by decide) rfl ?_
  refine j_iload hX 0 dX7_lay_36 rfl ?_
  refine j_if_eqN hX 1 86 dX7_lay_38 (by decide) (by omega) (fun b_38 => absurd b_38 (by decide)) (fun b_38 => ?_)
  refine j_iload_n hX 4 dX7_lay_41 rfl ?_
  refine j_if_ltN hX b 86 dX7_lay_42 (by decide) (by omega) (fun b_42 => absurd b_42 not_false) (fun b_42 => ?_)
  refine j_iload_n hX 4 dX7_lay_45 rfl ?_
  refine j_pc 46 rfl ?_
  refine j_aload_n hX 3 dX7_lay_46 rfl ?_
  refine j_get hX in7 7 2 1 (v := .int (nI n2)) rfl rfl (by decide) (List.mem_of_getElem? (i := 1) rfl) rfl rfl dX7_lay_47 ?_
  refine j_iload hX 5 dX7_lay_50 rfl ?_
  refine j_isubN hX n2 k (by omega) dX7_lay_52 ?_
  refine j_icmp_gtN hX b (n2 - k) 86 dX7_lay_53 (by decide) (by omega) (by omega) (fun b_53 => absurd b_53 (by omega)) (fun b_53 => ?_)
  refine j_aload_n hX 3 dX7_lay_56 rfl ?_
  refine j_get hX in7 7 2 0 (v := .ref a2) rfl rfl (by decide) (List.mem_of_getElem? (i := 2) rfl) rfl rfl dX7_lay_57 ?_
  refine j_iload_n hX 4 dX7_lay_60 rfl ?_
  refine j_pc 61 rfl ?_
  refine j_aload_n hX 1 dX7_lay_61 rfl ?_
  refine j_get hX in7 7 0 0 (v := .ref a) rfl rfl (by decide) (List.mem_of_getElem? (i := 2) rfl) rfl rfl dX7_lay_62 ?_
  refine j_iload_n hX 2 dX7_lay_65 rfl ?_
  refine j_iload hX 5 dX7_lay_66 rfl ?_
  refine j_copyb hX 3 1 b t k (List.mem_of_getElem? (i := 3) rfl) (List.mem_of_getElem? (i := 4) rfl) (List.mem_of_getElem? (i := 5) rfl) (List.mem_of_getElem? (i := 6) rfl) rfl rfl (by omega) (by omega) (by omega) (by omega) (fun i _ => fits_b (hB _)) (by decide) (Nat.le_of_ble_eq_true rfl) [oB r 7 [.ref a, .int (nI n)], bA g a cap (va_cpy f2 f b t k), oB r2 7 [.ref a2, .int (nI n2)], bA g a2 cap2 f2] rfl dX7_lay_68 ?_
  refine j_w [oB r 7 [.ref a, .int (nI n)], bA g a cap (putL f t (slice f2 b k)), oB r2 7 [.ref a2, .int (nI n2)], bA g a2 cap2 f2] (by rw [cpy_put]) ?_
  refine j_aload_n hX 1 dX7_lay_71 rfl ?_
  refine j_aload_n hX 1 dX7_lay_72 rfl ?_
  refine j_get hX in7 7 0 1 (v := .int (nI n)) rfl rfl (by decide) (List.mem_of_getElem? (i := 1) rfl) rfl rfl dX7_lay_73 ?_
  refine j_pc 76 rfl ?_
  refine j_iload_n hX 2 dX7_lay_76 rfl ?_
  refine j_iload hX 5 dX7_lay_77 rfl ?_
  refine j_iaddN hX t k dX7_lay_79 ?_
  refine j_mmax hX (List.mem_of_getElem? (i := 7) rfl) (List.mem_of_getElem? (i := 8) rfl) (List.mem_of_getElem? (i := 9) rfl) (List.mem_of_getElem? (i := 10) rfl) (by decide) (Nat.le_of_ble_eq_true rfl) ⟨Nat.le_refl _, Nat.le_refl _⟩ dX7_lay_80 ?_
  refine j_topeq _ (nI (max n (t + k))) (max_N (by omega) (by omega)) ?_
  refine j_put hX (v := .int (nI (max n (t + k)))) (ty := .int) in7 tyX7 tyX7_ok nmX7 7 0 1 rfl rfl (by decide) (List.mem_of_getElem? (i := 1) rfl) rfl rfl rfl rfl rfl (Nat.le_of_ble_eq_true rfl) [oB r 7 [.ref a, .int (nI (max n (t + k)))], bA g a cap (putL f t (slice f2 b k)), oB r2 7 [.ref a2, .int (nI n2)], bA g a2 cap2 f2] rfl dX7_lay_83 ?_
  exact hret (putL f t (slice f2 b k)) rfl 86 _ .return_ dX7_lay_86 rfl

set_option maxHeartbeats 1000000 in
set_option maxRecDepth 100000 in
/-- Row.add where it fits -/
theorem c_add (l : Launch) (g : jG) (r : Nat) (a : Nat) (n : Nat) (cap : Nat) (f : Nat → Int32) (r2 : Nat) (a2 : Nat) (n2 : Nat) (cap2 : Nat) (f2 : Nat → Int32) (b : Nat) (k : Nat) (hn : n ≤ cap) (hc : cap < 2 ^ 31) (hn2 : n2 ≤ cap2) (hc2 : cap2 < 2 ^ 31) (hB : isB f2) (hk : n + k ≤ cap) (hb : b + k ≤ n2) : jC l g yX7_add wsX7_add ({ frames := 2, cells := 0, slots := 0, locals := 65 } : Room) [.ref r, .ref r2, .int (nI b), .int (nI k)] [oB r 7 [.ref a, .int (nI n)], bA g a cap f, oB r2 7 [.ref a2, .int (nI n2)], bA g a2 cap2 f2] (fun u : (Nat → Int32) => none) (fun u : (Nat → Int32) => u = putL f n (slice f2 b k)) (fun u : (Nat → Int32) => [oB r 7 [.ref a, .int (nI (n + k))], bA g a cap u, oB r2 7 [.ref a2, .int (nI n2)], bA g a2 cap2 f2]) := by
  refine jC.of (cc := cX7_add) (own := RX7) (maxL := 4) (ret := none) (by decide +kernel) rfl rfl (Nat.le_of_ble_eq_true rfl) (fun u hu => rfl) ?_
  intro p e s m below meth c A Q hX hret
  have in7 : ∀ w ∈ wsX70, w ∈ wsX7_add := (fun w h => List.mem_cons_of_mem _ (List.mem_append_right _ h))
  refine j_aload_n hX 0 dX7_add_0 rfl ?_
  refine j_aload_n hX 0 dX7_add_1 rfl ?_
  refine j_get hX in7 7 0 1 (v := .int (nI n)) rfl rfl (by decide) (List.mem_of_getElem? (i := 1) rfl) rfl rfl dX7_add_2 ?_
  refine j_aload_n hX 1 dX7_add_5 rfl ?_
  refine j_iload_n hX 2 dX7_add_6 rfl ?_
  refine j_iload_n hX 3 dX7_add_7 rfl ?_
  refine j_callV hX 4 (c_lay l g r a n cap f r2 a2 n2 cap2 f2 n b k hn hc (by omega) (by omega) hB (by omega) (by omega) (by omega)) gX7_add_X7_lay (by decide +kernel) rfl ⟨rfl, rfl⟩ ⟨Nat.le_of_ble_eq_true rfl, Nat.le_of_ble_eq_true rfl⟩ 7 0 rfl rfl [0, 1, 2, 3] rfl (by decide) (fun _ => rfl) rfl [] rfl (Nat.le_of_ble_eq_true rfl) ⟨Nat.le_refl _, Nat.le_refl _⟩ dX7_add_8 ?_
  intro F hF
  try dsimp only at hF
  refine j_w [oB r 7 [.ref a, .int (nI (max n (n + k)))], bA g a cap F, oB r2 7 [.ref a2, .int (nI n2)], bA g a2 cap2 f2] rfl ?_
  refine j_st [] rfl ?_
  have hmx : max n (n + k) = n + k := by omega
  rw [hmx]
  refine j_pc 11 rfl ?_
  exact hret F hF 11 _ .return_ dX7_add_11 rfl

set_option maxHeartbeats 1000000 in
set_option maxRecDepth 100000 in
/-- Row.addAll where it fits -/
theorem c_addAll (l : Launch) (g : jG) (r : Nat) (a : Nat) (n : Nat) (cap : Nat) (f : Nat → Int32) (r2 : Nat) (a2 : Nat) (n2 : Nat) (cap2 : Nat) (f2 : Nat → Int32) (hn : n ≤ cap) (hc : cap < 2 ^ 31) (hn2 : n2 ≤ cap2) (hc2 : cap2 < 2 ^ 31) (hB : isB f2) (hk : n + n2 ≤ cap) : jC l g yX7_addAll wsX7_addAll ({ frames := 2, cells := 0, slots := 0, locals := 65 } : Room) [.ref r, .ref r2] [oB r 7 [.ref a, .int (nI n)], bA g a cap f, oB r2 7 [.ref a2, .int (nI n2)], bA g a2 cap2 f2] (fun u : (Nat → Int32) => none) (fun u : (Nat → Int32) => u = putL f n (slice f2 0 n2)) (fun u : (Nat → Int32) => [oB r 7 [.ref a, .int (nI (n + n2))], bA g a cap u, oB r2 7 [.ref a2, .int (nI n2)], bA g a2 cap2 f2]) := by
  refine jC.of (cc := cX7_addAll) (own := RX7) (maxL := 2) (ret := none) (by decide +kernel) rfl rfl (Nat.le_of_ble_eq_true rfl) (fun u hu => rfl) ?_
  intro p e s m below meth c A Q hX hret
  have in7 : ∀ w ∈ wsX70, w ∈ wsX7_addAll := (fun w h => List.mem_cons_of_mem _ (List.mem_append_right _ h))
  refine j_aload_n hX 0 dX7_addAll_0 rfl ?_
  refine j_aload_n hX 0 dX7_addAll_1 rfl ?_
  refine j_get hX in7 7 0 1 (v := .int (nI n)) rfl rfl (by decide) (List.mem_of_getElem? (i := 1) rfl) rfl rfl dX7_addAll_2 ?_
  refine j_aload_n hX 1 dX7_addAll_5 rfl ?_
  refine j_iconst hX (0) dX7_addAll_6 (by decide) ?_
  refine j_aload_n hX 1 dX7_addAll_7 rfl ?_
  refine j_get hX in7 7 2 1 (v := .int (nI n2)) rfl rfl (by decide) (List.mem_of_getElem? (i := 1) rfl) rfl rfl dX7_addAll_8 ?_
  refine j_pc 11 rfl ?_
  refine j_callV hX 4 (c_lay l g r a n cap f r2 a2 n2 cap2 f2 n 0 n2 hn hc (by omega) (by omega) hB (by omega) (by omega) (by omega)) gX7_addAll_X7_lay (by decide +kernel) rfl ⟨rfl, rfl⟩ ⟨Nat.le_of_ble_eq_true rfl, Nat.le_of_ble_eq_true rfl⟩ 7 0 rfl rfl [0, 1, 2, 3] rfl (by decide) (fun _ => rfl) rfl [] rfl (Nat.le_of_ble_eq_true rfl) ⟨Nat.le_refl _, Nat.le_refl _⟩ dX7_addAll_11 ?_
  intro F hF
  try dsimp only at hF
  refine j_w [oB r 7 [.ref a, .int (nI (max n (n + n2)))], bA g a cap F, oB r2 7 [.ref a2, .int (nI n2)], bA g a2 cap2 f2] rfl ?_
  refine j_st [] rfl ?_
  have hmx : max n (n + n2) = n + n2 := by omega
  rw [hmx]
  exact hret F hF 14 _ .return_ dX7_addAll_14 rfl

/-- Row.sameAs -/
def rSame (f h : Nat → Int32) (n n2 : Nat) : Prop := n = n2 ∧ ∀ j, j < n → f j &&& 255 = h j &&& 255
theorem rSame_no {f h : Nat → Int32} {n n2 : Nat} {v : Int32} (hv : v = 0) (hh : ¬ rSame f h n n2) : ∃ b : Bool, v = (if b then 1 else 0) ∧ (b = true ↔ rSame f h n n2) := ⟨false, hv, by simp [hh]⟩

set_option maxHeartbeats 1000000 in
set_option maxRecDepth 100000 in
/-- Row.sameAs -/
theorem c_sameAs (l : Launch) (g : jG) (r : Nat) (a : Nat) (n : Nat) (cap : Nat) (f : Nat → Int32) (r2 : Nat) (a2 : Nat) (n2 : Nat) (cap2 : Nat) (f2 : Nat → Int32) (hn : n ≤ cap) (hc : cap < 2 ^ 31) (hn2 : n2 ≤ cap2) (hc2 : cap2 < 2 ^ 31) : jC l g yX7_sameAs wsX7_sameAs ({ frames := 1, cells := 0, slots := 0, locals := 21 } : Room) [.ref r, .ref r2] [oB r 7 [.ref a, .int (nI n)], bA g a cap f, oB r2 7 [.ref a2, .int (nI n2)], bA g a2 cap2 f2] (fun u : Bool => some (.int (if u then 1 else 0))) (fun u : Bool => (u = true ↔ rSame f f2 n n2)) (fun u : Bool => [oB r 7 [.ref a, .int (nI n)], bA g a cap f, oB r2 7 [.ref a2, .int (nI n2)], bA g a2 cap2 f2]) := by
  refine jC.of (cc := cX7_sameAs) (own := RX7) (maxL := 3) (ret := (some .boolean)) (by decide +kernel) rfl rfl (Nat.le_of_ble_eq_true rfl) (fun u hu => ⟨_, rfl, by split <;> rfl⟩) ?_
  intro p e s m below meth c A Q hX hret
  have in7 : ∀ w ∈ wsX70, w ∈ wsX7_sameAs := (fun w h => List.mem_cons_of_mem _ (List.mem_append_right _ h))
  refine j_aload_n hX 0 dX7_sameAs_0 rfl ?_
  refine j_get hX in7 7 0 1 (v := .int (nI n)) rfl rfl (by decide) (List.mem_of_getElem? (i := 1) rfl) rfl rfl dX7_sameAs_1 ?_
  refine j_aload_n hX 1 dX7_sameAs_4 rfl ?_
  refine j_get hX in7 7 2 1 (v := .int (nI n2)) rfl rfl (by decide) (List.mem_of_getElem? (i := 1) rfl) rfl rfl dX7_sameAs_5 ?_
  refine j_icmp_eqN hX n n2 13 dX7_sameAs_8 (by decide) (by omega) (by omega) (fun b_8 => ?_) (fun b_8 => ?_)
  · skip
    refine j_iconst hX (0) dX7_sameAs_13 (by decide) ?_
    refine j_st [.int (nI 0)] rfl ?_
    refine j_istore_n hX 2 [(2, .int (nI 0)), (0, .ref r), (1, .ref r2)] dX7_sameAs_14 rfl (by decide) rfl ?_
    have lp_1 : ∀ (n_2 : Nat) (i : Nat), (n - i < n_2) → (i ≤ n) → (∀ j, j < i → f j &&& 255 = f2 j &&& 255) → J p l e ({ frames := 1, cells := 0, slots := 0, locals := 21 } : Room) s m ([.ref r, .ref r2] : List Value).toArray below meth c g A 3 Q 0 0 [oB r 7 [.ref a, .int (nI n)], bA g a cap f, oB r2 7 [.ref a2, .int (nI n2)], bA g a2 cap2 f2] [(2, .int (nI i)), (0, .ref r), (1, .ref r2)] 15 [] := by
      intro n_2
      induction n_2 with
      | zero => intro i hm; exact absurd hm (Nat.not_lt_zero _)
      | succ n_2 ih_3 =>
        intro i hm hi hs
        refine j_pc 15 rfl ?_
        refine j_iload_n hX 0 dX7_sameAs_15 rfl ?_
        refine j_aload_n hX 1 dX7_sameAs_16 rfl ?_
        refine j_get hX in7 7 0 1 (v := .int (nI n)) rfl rfl (by decide) (List.mem_of_getElem? (i := 1) rfl) rfl rfl dX7_sameAs_17 ?_
        refine j_icmp_geN hX i n 44 dX7_sameAs_20 (by decide) (by omega) (by omega) (fun b_20 => ?_) (fun b_20 => ?_)
        · skip
          refine j_iconst hX (1) dX7_sameAs_44 (by decide) ?_
          exact hret true (by simp only [true_iff]; exact ⟨b_8, fun j hj => hs j (by omega)⟩) 45 _ .ireturn dX7_sameAs_45 rfl
        · skip
          refine j_aload_n hX 1 dX7_sameAs_23 rfl ?_
          refine j_iload_n hX 0 dX7_sameAs_24 rfl ?_
          refine j_pc 25 rfl ?_
          refine j_callV hX 1 (c_at l g r a n cap f (nI i) hn hc) gX7_sameAs_X7_at (by decide +kernel) rfl ⟨rfl, rfl⟩ ⟨Nat.le_of_ble_eq_true rfl, Nat.le_of_ble_eq_true rfl⟩ 7 0 rfl rfl [0, 1] rfl (by decide) (fun _ => rfl) rfl [] rfl (Nat.le_of_ble_eq_true rfl) ⟨Nat.le_refl _, Nat.le_refl _⟩ dX7_sameAs_25 ?_
          intro _ hu_4
          refine j_w [oB r 7 [.ref a, .int (nI n)], bA g a cap f, oB r2 7 [.ref a2, .int (nI n2)], bA g a2 cap2 f2] rfl ?_
          refine j_st [.int (rAt f n (nI i))] rfl ?_
          refine j_topeq _ (f i &&& 255) (rAt_in (by omega) (by omega)) ?_
          refine j_aload_n hX 2 dX7_sameAs_28 rfl ?_
          refine j_iload_n hX 0 dX7_sameAs_29 rfl ?_
          refine j_callV hX 1 (c_at l g r2 a2 n2 cap2 f2 (nI i) hn2 hc2) gX7_sameAs_X7_at (by decide +kernel) rfl ⟨rfl, rfl⟩ ⟨Nat.le_of_ble_eq_true rfl, Nat.le_of_ble_eq_true rfl⟩ 7 2 rfl rfl [2, 3] rfl (by decide) (fun _ => rfl) rfl [.int (f i &&& 255)] rfl (Nat.le_of_ble_eq_true rfl) ⟨Nat.le_refl _, Nat.le_refl _⟩ dX7_sameAs_30 ?_
          intro _ hu_5
          refine j_w [oB r 7 [.ref a, .int (nI n)], bA g a cap f, oB r2 7 [.ref a2, .int (nI n2)], bA g a2 cap2 f2] rfl ?_
          refine j_st [.int (rAt f2 n2 (nI i)), .int (f i &&& 255)] rfl ?_
          refine j_topeq _ (f2 i &&& 255) (rAt_in (by omega) (by omega)) ?_
          refine j_icmp_eq hX 38 dX7_sameAs_33 (by decide) (fun b_33 => ?_) (fun b_33 => ?_)
          · skip
            refine j_iincN hX i (i + 1) [(2, .int (nI (i + 1))), (0, .ref r), (1, .ref r2)] 0 dX7_sameAs_38 rfl (nI_1 _) (by decide) rfl ?_
            refine j_goto hX 15 dX7_sameAs_41 (by decide) ?_
            exact ih_3 (i + 1) (by omega) (by omega) (fun j hj => by rcases Nat.lt_or_ge j i with q | q; exact hs j q; rw [show j = i by omega]; exact b_33)
          · skip
            refine j_iconst hX (0) dX7_sameAs_36 (by decide) ?_
            refine j_pc 37 rfl ?_
            exact hret false (by simp [rSame]; intro h; exact ⟨i, by omega, b_33⟩) 37 _ .ireturn dX7_sameAs_37 rfl
    exact lp_1 _ 0 (Nat.lt_succ_self _) (by omega) (fun j hj => absurd hj (Nat.not_lt_zero j))
  · skip
    refine j_iconst hX (0) dX7_sameAs_11 (by decide) ?_
    exact hret false (by simp [rSame]; intro h; exact absurd h b_8) 12 _ .ireturn dX7_sameAs_12 rfl

