/-! the class's face: small methods -/
theorem wi_of {b : Bool} (h : ¬ (if b then (1 : Int32) else 0) = 0) : b = true := by cases b with | true => rfl | false => exact absurd rfl h
theorem wiN {a : Nat} (x y : Nat) (h1 : x ≤ a) (h2 : a ≤ y) (hy : y < 2 ^ 31) : (if wiB (nI a) (nI x) (nI y) then (1 : Int32) else 0) = nI 1 := by
  have e1 : nI x ≤ nI a := nI_le h1 (by omega)
  have e2 : nI a ≤ nI y := nI_le h2 hy
  unfold wiB
  rw [decide_eq_true e1, decide_eq_true e2]
  rfl
theorem wi_nat {x : Int32} (a b : Nat) (hb : a < 2 ^ 31 ∧ b < 2 ^ 31) (h : wiB x (nI a) (nI b) = true) : ∃ q : Nat, x = nI q ∧ a ≤ q ∧ q ≤ b := by
  unfold wiB at h
  rw [Bool.and_eq_true] at h
  have h1 := of_decide_eq_true h.1
  have h2 := of_decide_eq_true h.2
  have h0 : ¬ x < 0 := fun hx => by
    have h3 := Int32.lt_of_le_of_lt h1 hx
    exact absurd h3 (nI_pos hb.1)
  obtain ⟨q, hq, rfl⟩ := nI_of h0
  exact ⟨q, rfl, (nI_leI hb.1 hq).mp h1, (nI_leI hq hb.2).mp h2⟩
def fitP (f n h l a k : Int32) : Prop := wiB f 0 1 = true ∧ (n = 4 ∨ n = 8 ∨ n = 12 ∨ n = 16) ∧ wiB h 1 2 = true ∧ wiB l 1 2 = true ∧ wiB a 1 4 = true ∧ wiB k 1 6 = true
theorem fit_nat {f n h l a k : Int32} (H : fitP f n h l a k) : ∃ fm nn ht lys fa mk : Nat, (f = nI fm ∧ n = nI nn ∧ h = nI ht ∧ l = nI lys ∧ a = nI fa ∧ k = nI mk) ∧ fm < 2 ∧ (nn = 4 ∨ nn = 8 ∨ nn = 12 ∨ nn = 16) ∧ (1 ≤ ht ∧ ht ≤ 2) ∧ (1 ≤ lys ∧ lys ≤ 2) ∧ (1 ≤ fa ∧ fa ≤ 4) ∧ (1 ≤ mk ∧ mk ≤ 6) := by
  obtain ⟨h1, h2, h3, h4, h5, h6⟩ := H
  obtain ⟨q1, e1, -, b1⟩ := wi_nat 0 1 (by decide) h1
  obtain ⟨q3, e3, a3, b3⟩ := wi_nat 1 2 (by decide) h3
  obtain ⟨q4, e4, a4, b4⟩ := wi_nat 1 2 (by decide) h4
  obtain ⟨q5, e5, a5, b5⟩ := wi_nat 1 4 (by decide) h5
  obtain ⟨q6, e6, a6, b6⟩ := wi_nat 1 6 (by decide) h6
  have hn : ∃ nn : Nat, n = nI nn ∧ (nn = 4 ∨ nn = 8 ∨ nn = 12 ∨ nn = 16) := by
    rcases h2 with h | h | h | h
    · exact ⟨4, h, Or.inl rfl⟩
    · exact ⟨8, h, Or.inr (Or.inl rfl)⟩
    · exact ⟨12, h, Or.inr (Or.inr (Or.inl rfl))⟩
    · exact ⟨16, h, Or.inr (Or.inr (Or.inr rfl))⟩
  obtain ⟨q2, e2, b2⟩ := hn
  exact ⟨q1, q2, q3, q4, q5, q6, ⟨e1, e2, e3, e4, e5, e6⟩, by omega, b2, ⟨a3, b3⟩, ⟨a4, b4⟩, ⟨a5, b5⟩, ⟨a6, b6⟩⟩
/-- there is such a tree -/
def htP (lys ht : Nat) (x y : Int32) : Prop := ∃ a b : Nat, x = nI a ∧ y = nI b ∧ a < lys ∧ b < (if a + 1 = lys then 1 else 2 ^ ht)
theorem cache_none {fm nn : Nat} {sd lvs kn : Nat → Int32} (h : ∀ i, i < 32 → kn i = 0) : cache fm nn sd lvs kn := fun i hi hk => absurd (h i hi) hk
theorem if_le4 {c : Prop} [Decidable c] {h : Nat} (hh : h ≤ 2) : (if c then 1 else 2 ^ h) ≤ 4 := by
  have : 2 ^ h ≤ 2 ^ 2 := Nat.pow_le_pow_right (by decide) hh
  split <;> omega
theorem slice_at {f : Nat → Int32} {s n i : Nat} {X : List Int32} (h : slice f s n = X) (hi : i < n) : f (s + i) = X.getD i 0 := by rw [← h, slice_getD hi]

theorem and255_ne (x : Int32) : ¬ x &&& 255 = -9 := by
  rw [tn_255]
  intro h
  have h2 := congrArg Int32.toInt h
  rw [nI_toInt (by omega)] at h2
  have : (-9 : Int32).toInt = -9 := by decide
  omega

set_option maxRecDepth 20000 in
theorem ggX8_fits_X8_isWithin : GoodIn wsX8_fits wsX8_isWithin := goodIn_r _ [4] rfl (by decide +kernel)
set_option maxRecDepth 20000 in
theorem gX8_fits_X8_isWithin : GoodIn wsX8_fits (va_wsS RX8 15 yX8_isWithin wsX8_isWithin) := goodIn_app (goodIn_of _ (by decide +kernel)) ggX8_fits_X8_isWithin
theorem dX8_fits_0 : decode cX8_fits 0 = .ok (.iload_n 0, 1) := by decide +kernel
theorem dX8_fits_1 : decode cX8_fits 1 = .ok (.iconst 0, 1) := by decide +kernel
theorem dX8_fits_2 : decode cX8_fits 2 = .ok (.iconst 1, 1) := by decide +kernel
theorem dX8_fits_3 : decode cX8_fits 3 = .ok (.invokestatic 15, 3) := by decide +kernel
theorem dX8_fits_6 : decode cX8_fits 6 = .ok (.ifCond .eq 69, 3) := by decide +kernel
theorem dX8_fits_9 : decode cX8_fits 9 = .ok (.iload_n 1, 1) := by decide +kernel
theorem dX8_fits_10 : decode cX8_fits 10 = .ok (.iconst 4, 1) := by decide +kernel
theorem dX8_fits_11 : decode cX8_fits 11 = .ok (.if_icmp .eq 21, 3) := by decide +kernel
theorem dX8_fits_14 : decode cX8_fits 14 = .ok (.iload_n 1, 1) := by decide +kernel
theorem dX8_fits_15 : decode cX8_fits 15 = .ok (.bipush 8, 2) := by decide +kernel
theorem dX8_fits_17 : decode cX8_fits 17 = .ok (.if_icmp .eq 15, 3) := by decide +kernel
theorem dX8_fits_20 : decode cX8_fits 20 = .ok (.iload_n 1, 1) := by decide +kernel
theorem dX8_fits_21 : decode cX8_fits 21 = .ok (.bipush 12, 2) := by decide +kernel
theorem dX8_fits_23 : decode cX8_fits 23 = .ok (.if_icmp .eq 9, 3) := by decide +kernel
theorem dX8_fits_26 : decode cX8_fits 26 = .ok (.iload_n 1, 1) := by decide +kernel
theorem dX8_fits_27 : decode cX8_fits 27 = .ok (.bipush 16, 2) := by decide +kernel
theorem dX8_fits_29 : decode cX8_fits 29 = .ok (.if_icmp .ne 46, 3) := by decide +kernel
theorem dX8_fits_32 : decode cX8_fits 32 = .ok (.iload_n 2, 1) := by decide +kernel
theorem dX8_fits_33 : decode cX8_fits 33 = .ok (.iconst 1, 1) := by decide +kernel
theorem dX8_fits_34 : decode cX8_fits 34 = .ok (.iconst 2, 1) := by decide +kernel
theorem dX8_fits_35 : decode cX8_fits 35 = .ok (.invokestatic 15, 3) := by decide +kernel
theorem dX8_fits_38 : decode cX8_fits 38 = .ok (.ifCond .eq 37, 3) := by decide +kernel
theorem dX8_fits_41 : decode cX8_fits 41 = .ok (.iload_n 3, 1) := by decide +kernel
theorem dX8_fits_42 : decode cX8_fits 42 = .ok (.iconst 1, 1) := by decide +kernel
theorem dX8_fits_43 : decode cX8_fits 43 = .ok (.iconst 2, 1) := by decide +kernel
theorem dX8_fits_44 : decode cX8_fits 44 = .ok (.invokestatic 15, 3) := by decide +kernel
theorem dX8_fits_47 : decode cX8_fits 47 = .ok (.ifCond .eq 28, 3) := by decide +kernel
theorem dX8_fits_50 : decode cX8_fits 50 = .ok (.iload 4, 2) := by decide +kernel
theorem dX8_fits_52 : decode cX8_fits 52 = .ok (.iconst 1, 1) := by decide +kernel
theorem dX8_fits_53 : decode cX8_fits 53 = .ok (.iconst 4, 1) := by decide +kernel
theorem dX8_fits_54 : decode cX8_fits 54 = .ok (.invokestatic 15, 3) := by decide +kernel
theorem dX8_fits_57 : decode cX8_fits 57 = .ok (.ifCond .eq 18, 3) := by decide +kernel
theorem dX8_fits_60 : decode cX8_fits 60 = .ok (.iload 5, 2) := by decide +kernel
theorem dX8_fits_62 : decode cX8_fits 62 = .ok (.iconst 1, 1) := by decide +kernel
theorem dX8_fits_63 : decode cX8_fits 63 = .ok (.bipush 6, 2) := by decide +kernel
theorem dX8_fits_65 : decode cX8_fits 65 = .ok (.invokestatic 15, 3) := by decide +kernel
theorem dX8_fits_68 : decode cX8_fits 68 = .ok (.ifCond .eq 7, 3) := by decide +kernel
theorem dX8_fits_71 : decode cX8_fits 71 = .ok (.iconst 1, 1) := by decide +kernel
theorem dX8_fits_72 : decode cX8_fits 72 = .ok (.goto 4, 3) := by decide +kernel
theorem dX8_fits_75 : decode cX8_fits 75 = .ok (.iconst 0, 1) := by decide +kernel
theorem dX8_fits_76 : decode cX8_fits 76 = .ok (.ireturn, 1) := by decide +kernel
set_option maxRecDepth 20000 in
theorem ggX8_hasTree_X8_isWithin : GoodIn wsX8_hasTree wsX8_isWithin := goodIn_r _ [5] rfl (by decide +kernel)
set_option maxRecDepth 20000 in
theorem gX8_hasTree_X8_isWithin : GoodIn wsX8_hasTree (va_wsS RX8 15 yX8_isWithin wsX8_isWithin) := goodIn_app (goodIn_of _ (by decide +kernel)) ggX8_hasTree_X8_isWithin
set_option maxRecDepth 20000 in
theorem ggX8_hasTree_X8_leaves : GoodIn wsX8_hasTree wsX8_leaves := goodIn_r _ [9, 10, 11, 12, 13, 14, 15, 16] rfl (by decide +kernel)
set_option maxRecDepth 20000 in
theorem gX8_hasTree_X8_leaves : GoodIn wsX8_hasTree (wsV RX8 38 RX8 yX8_leaves wsX8_leaves) := goodIn_app (goodIn_of _ (by decide +kernel)) ggX8_hasTree_X8_leaves
theorem dX8_hasTree_0 : decode cX8_hasTree 0 = .ok (.iload_n 1, 1) := by decide +kernel
theorem dX8_hasTree_1 : decode cX8_hasTree 1 = .ok (.iconst 0, 1) := by decide +kernel
theorem dX8_hasTree_2 : decode cX8_hasTree 2 = .ok (.aload_n 0, 1) := by decide +kernel
theorem dX8_hasTree_3 : decode cX8_hasTree 3 = .ok (.getfield 29, 3) := by decide +kernel
theorem dX8_hasTree_6 : decode cX8_hasTree 6 = .ok (.iconst 1, 1) := by decide +kernel
theorem dX8_hasTree_7 : decode cX8_hasTree 7 = .ok (.isub, 1) := by decide +kernel
theorem dX8_hasTree_8 : decode cX8_hasTree 8 = .ok (.invokestatic 15, 3) := by decide +kernel
theorem dX8_hasTree_11 : decode cX8_hasTree 11 = .ok (.ifCond .eq 35, 3) := by decide +kernel
theorem dX8_hasTree_14 : decode cX8_hasTree 14 = .ok (.iload_n 2, 1) := by decide +kernel
theorem dX8_hasTree_15 : decode cX8_hasTree 15 = .ok (.iconst 0, 1) := by decide +kernel
theorem dX8_hasTree_16 : decode cX8_hasTree 16 = .ok (.iload_n 1, 1) := by decide +kernel
theorem dX8_hasTree_17 : decode cX8_hasTree 17 = .ok (.aload_n 0, 1) := by decide +kernel
theorem dX8_hasTree_18 : decode cX8_hasTree 18 = .ok (.getfield 29, 3) := by decide +kernel
theorem dX8_hasTree_21 : decode cX8_hasTree 21 = .ok (.iconst 1, 1) := by decide +kernel
theorem dX8_hasTree_22 : decode cX8_hasTree 22 = .ok (.isub, 1) := by decide +kernel
theorem dX8_hasTree_23 : decode cX8_hasTree 23 = .ok (.if_icmp .ne 7, 3) := by decide +kernel
theorem dX8_hasTree_26 : decode cX8_hasTree 26 = .ok (.iconst 0, 1) := by decide +kernel
theorem dX8_hasTree_27 : decode cX8_hasTree 27 = .ok (.goto 9, 3) := by decide +kernel
theorem dX8_hasTree_30 : decode cX8_hasTree 30 = .ok (.aload_n 0, 1) := by decide +kernel
theorem dX8_hasTree_31 : decode cX8_hasTree 31 = .ok (.invokevirtual 38, 3) := by decide +kernel
theorem dX8_hasTree_34 : decode cX8_hasTree 34 = .ok (.iconst 1, 1) := by decide +kernel
theorem dX8_hasTree_35 : decode cX8_hasTree 35 = .ok (.isub, 1) := by decide +kernel
theorem dX8_hasTree_36 : decode cX8_hasTree 36 = .ok (.invokestatic 15, 3) := by decide +kernel
theorem dX8_hasTree_39 : decode cX8_hasTree 39 = .ok (.ifCond .eq 7, 3) := by decide +kernel
theorem dX8_hasTree_42 : decode cX8_hasTree 42 = .ok (.iconst 1, 1) := by decide +kernel
theorem dX8_hasTree_43 : decode cX8_hasTree 43 = .ok (.goto 4, 3) := by decide +kernel
theorem dX8_hasTree_46 : decode cX8_hasTree 46 = .ok (.iconst 0, 1) := by decide +kernel
theorem dX8_hasTree_47 : decode cX8_hasTree 47 = .ok (.ireturn, 1) := by decide +kernel
set_option maxRecDepth 20000 in
theorem ggX10_feed_X7_addNumber : GoodIn wsX10_feed wsX7_addNumber := goodIn_r _ [7, 8, 9, 24, 25] rfl (by decide +kernel)
set_option maxRecDepth 20000 in
theorem gX10_feed_X7_addNumber : GoodIn wsX10_feed (wsV RX10 91 RX7 yX7_addNumber wsX7_addNumber) := goodIn_app (goodIn_of _ (by decide +kernel)) ggX10_feed_X7_addNumber
theorem dX10_feed_0 : decode cX10_feed 0 = .ok (.aload_n 0, 1) := by decide +kernel
theorem dX10_feed_1 : decode cX10_feed 1 = .ok (.getfield 14, 3) := by decide +kernel
theorem dX10_feed_4 : decode cX10_feed 4 = .ok (.getfield 95, 3) := by decide +kernel
theorem dX10_feed_7 : decode cX10_feed 7 = .ok (.bipush 20, 2) := by decide +kernel
theorem dX10_feed_9 : decode cX10_feed 9 = .ok (.iadd, 1) := by decide +kernel
theorem dX10_feed_10 : decode cX10_feed 10 = .ok (.sipush 600, 3) := by decide +kernel
theorem dX10_feed_13 : decode cX10_feed 13 = .ok (.if_icmp .le 6, 3) := by decide +kernel
theorem dX10_feed_16 : decode cX10_feed 16 = .ok (.bipush (-4), 2) := by decide +kernel
theorem dX10_feed_18 : decode cX10_feed 18 = .ok (.ireturn, 1) := by decide +kernel
theorem dX10_feed_19 : decode cX10_feed 19 = .ok (.aload_n 0, 1) := by decide +kernel
theorem dX10_feed_20 : decode cX10_feed 20 = .ok (.getfield 14, 3) := by decide +kernel
theorem dX10_feed_23 : decode cX10_feed 23 = .ok (.iload_n 1, 1) := by decide +kernel
theorem dX10_feed_24 : decode cX10_feed 24 = .ok (.i2l, 1) := by decide +kernel
theorem dX10_feed_25 : decode cX10_feed 25 = .ok (.iconst 4, 1) := by decide +kernel
theorem dX10_feed_26 : decode cX10_feed 26 = .ok (.invokevirtual 91, 3) := by decide +kernel
theorem dX10_feed_29 : decode cX10_feed 29 = .ok (.aload_n 0, 1) := by decide +kernel
theorem dX10_feed_30 : decode cX10_feed 30 = .ok (.getfield 14, 3) := by decide +kernel
theorem dX10_feed_33 : decode cX10_feed 33 = .ok (.iload_n 2, 1) := by decide +kernel
theorem dX10_feed_34 : decode cX10_feed 34 = .ok (.i2l, 1) := by decide +kernel
theorem dX10_feed_35 : decode cX10_feed 35 = .ok (.iconst 4, 1) := by decide +kernel
theorem dX10_feed_36 : decode cX10_feed 36 = .ok (.invokevirtual 91, 3) := by decide +kernel
theorem dX10_feed_39 : decode cX10_feed 39 = .ok (.aload_n 0, 1) := by decide +kernel
theorem dX10_feed_40 : decode cX10_feed 40 = .ok (.getfield 14, 3) := by decide +kernel
theorem dX10_feed_43 : decode cX10_feed 43 = .ok (.iload_n 3, 1) := by decide +kernel
theorem dX10_feed_44 : decode cX10_feed 44 = .ok (.i2l, 1) := by decide +kernel
theorem dX10_feed_45 : decode cX10_feed 45 = .ok (.iconst 4, 1) := by decide +kernel
theorem dX10_feed_46 : decode cX10_feed 46 = .ok (.invokevirtual 91, 3) := by decide +kernel
theorem dX10_feed_49 : decode cX10_feed 49 = .ok (.aload_n 0, 1) := by decide +kernel
theorem dX10_feed_50 : decode cX10_feed 50 = .ok (.getfield 14, 3) := by decide +kernel
theorem dX10_feed_53 : decode cX10_feed 53 = .ok (.iload 4, 2) := by decide +kernel
theorem dX10_feed_55 : decode cX10_feed 55 = .ok (.i2l, 1) := by decide +kernel
theorem dX10_feed_56 : decode cX10_feed 56 = .ok (.iconst 4, 1) := by decide +kernel
theorem dX10_feed_57 : decode cX10_feed 57 = .ok (.invokevirtual 91, 3) := by decide +kernel
theorem dX10_feed_60 : decode cX10_feed 60 = .ok (.aload_n 0, 1) := by decide +kernel
theorem dX10_feed_61 : decode cX10_feed 61 = .ok (.getfield 14, 3) := by decide +kernel
theorem dX10_feed_64 : decode cX10_feed 64 = .ok (.iload 5, 2) := by decide +kernel
theorem dX10_feed_66 : decode cX10_feed 66 = .ok (.i2l, 1) := by decide +kernel
theorem dX10_feed_67 : decode cX10_feed 67 = .ok (.iconst 4, 1) := by decide +kernel
theorem dX10_feed_68 : decode cX10_feed 68 = .ok (.invokevirtual 91, 3) := by decide +kernel
theorem dX10_feed_71 : decode cX10_feed 71 = .ok (.aload_n 0, 1) := by decide +kernel
theorem dX10_feed_72 : decode cX10_feed 72 = .ok (.getfield 14, 3) := by decide +kernel
theorem dX10_feed_75 : decode cX10_feed 75 = .ok (.getfield 95, 3) := by decide +kernel
theorem dX10_feed_78 : decode cX10_feed 78 = .ok (.ireturn, 1) := by decide +kernel
theorem dX10_trim_0 : decode cX10_trim 0 = .ok (.iload_n 1, 1) := by decide +kernel
theorem dX10_trim_1 : decode cX10_trim 1 = .ok (.ifCond .lt 14, 3) := by decide +kernel
theorem dX10_trim_4 : decode cX10_trim 4 = .ok (.iload_n 1, 1) := by decide +kernel
theorem dX10_trim_5 : decode cX10_trim 5 = .ok (.aload_n 0, 1) := by decide +kernel
theorem dX10_trim_6 : decode cX10_trim 6 = .ok (.getfield 14, 3) := by decide +kernel
theorem dX10_trim_9 : decode cX10_trim 9 = .ok (.getfield 95, 3) := by decide +kernel
theorem dX10_trim_12 : decode cX10_trim 12 = .ok (.if_icmp .le 6, 3) := by decide +kernel
theorem dX10_trim_15 : decode cX10_trim 15 = .ok (.bipush (-2), 2) := by decide +kernel
theorem dX10_trim_17 : decode cX10_trim 17 = .ok (.ireturn, 1) := by decide +kernel
theorem dX10_trim_18 : decode cX10_trim 18 = .ok (.aload_n 0, 1) := by decide +kernel
theorem dX10_trim_19 : decode cX10_trim 19 = .ok (.getfield 14, 3) := by decide +kernel
theorem dX10_trim_22 : decode cX10_trim 22 = .ok (.iload_n 1, 1) := by decide +kernel
theorem dX10_trim_23 : decode cX10_trim 23 = .ok (.putfield 95, 3) := by decide +kernel
theorem dX10_trim_26 : decode cX10_trim 26 = .ok (.iload_n 1, 1) := by decide +kernel
theorem dX10_trim_27 : decode cX10_trim 27 = .ok (.ireturn, 1) := by decide +kernel
set_option maxRecDepth 20000 in
theorem ggX10_hash_X7_clear : GoodIn wsX10_hash wsX7_clear := goodIn_r _ [10, 11, 121, 122] rfl (by decide +kernel)
set_option maxRecDepth 20000 in
theorem gX10_hash_X7_clear : GoodIn wsX10_hash (wsV RX10 102 RX7 yX7_clear wsX7_clear) := goodIn_app (goodIn_of _ (by decide +kernel)) ggX10_hash_X7_clear
set_option maxRecDepth 20000 in
theorem ggX10_hash_X7_addAll : GoodIn wsX10_hash wsX7_addAll := goodIn_r _ [15, 11, 16, 17, 18, 9, 19, 20, 21, 22, 23, 24, 25, 26, 27, 28, 121, 122] rfl (by decide +kernel)
set_option maxRecDepth 20000 in
theorem gX10_hash_X7_addAll : GoodIn wsX10_hash (wsV RX10 105 RX7 yX7_addAll wsX7_addAll) := goodIn_app (goodIn_of _ (by decide +kernel)) ggX10_hash_X7_addAll
set_option maxRecDepth 20000 in
theorem ggX10_hash_X5_ofForm : GoodIn wsX10_hash wsX5_ofForm := goodIn_r _ [33, 34, 35, 113, 114, 115, 116, 117, 118, 119, 120] rfl (by decide +kernel)
set_option maxRecDepth 20000 in
theorem gX10_hash_X5_ofForm : GoodIn wsX10_hash (wsV RX10 109 RX5 yX5_ofForm wsX5_ofForm) := goodIn_app (goodIn_of _ (by decide +kernel)) ggX10_hash_X5_ofForm
set_option maxRecDepth 20000 in
theorem ggX10_hash_X3_digest : GoodIn wsX10_hash wsX3_digest := goodIn_r _ [41, 42, 43, 44, 45, 46, 47, 48, 49, 9, 50, 11, 20, 51, 52, 53, 54, 55, 56, 57, 58, 59, 60, 61, 40, 62, 63, 64, 65, 66, 67, 68, 69, 70, 71, 72, 73, 74, 75, 76, 7, 8, 10, 121, 122, 123, 124] rfl (by decide +kernel)
set_option maxRecDepth 20000 in
theorem gX10_hash_X3_digest_u113X3 : GoodIn wsX10_hash (va_wsU RX10 113 RX3 "HashSigner$Hash" ⟨"HashSigner$Hash", "digest", "(LHashSigner$Row;LHashSigner$Row;)V"⟩ yX3_digest wsX3_digest) := goodIn_app (goodIn_of _ (by decide +kernel)) ggX10_hash_X3_digest
set_option maxRecDepth 20000 in
theorem ggX10_hash_X4_digest : GoodIn wsX10_hash wsX4_digest := goodIn_r _ [80, 81, 82, 83, 84, 85, 86, 87, 48, 49, 9, 50, 11, 20, 88, 89, 90, 79, 91, 92, 93, 94, 95, 96, 97, 98, 7, 8, 10, 121, 122, 125, 126] rfl (by decide +kernel)
set_option maxRecDepth 20000 in
theorem gX10_hash_X4_digest_u113X4 : GoodIn wsX10_hash (va_wsU RX10 113 RX4 "HashSigner$Hash" ⟨"HashSigner$Hash", "digest", "(LHashSigner$Row;LHashSigner$Row;)V"⟩ yX4_digest wsX4_digest) := goodIn_app (goodIn_of _ (by decide +kernel)) ggX10_hash_X4_digest
theorem dX10_hash_0 : decode cX10_hash 0 = .ok (.iload_n 1, 1) := by decide +kernel
theorem dX10_hash_1 : decode cX10_hash 1 = .ok (.ifCond .eq 11, 3) := by decide +kernel
theorem dX10_hash_4 : decode cX10_hash 4 = .ok (.iload_n 1, 1) := by decide +kernel
theorem dX10_hash_5 : decode cX10_hash 5 = .ok (.iconst 1, 1) := by decide +kernel
theorem dX10_hash_6 : decode cX10_hash 6 = .ok (.if_icmp .eq 6, 3) := by decide +kernel
theorem dX10_hash_9 : decode cX10_hash 9 = .ok (.bipush (-2), 2) := by decide +kernel
theorem dX10_hash_11 : decode cX10_hash 11 = .ok (.ireturn, 1) := by decide +kernel
theorem dX10_hash_12 : decode cX10_hash 12 = .ok (.aload_n 0, 1) := by decide +kernel
theorem dX10_hash_13 : decode cX10_hash 13 = .ok (.getfield 51, 3) := by decide +kernel
theorem dX10_hash_16 : decode cX10_hash 16 = .ok (.getfield 99, 3) := by decide +kernel
theorem dX10_hash_19 : decode cX10_hash 19 = .ok (.invokevirtual 102, 3) := by decide +kernel
theorem dX10_hash_22 : decode cX10_hash 22 = .ok (.aload_n 0, 1) := by decide +kernel
theorem dX10_hash_23 : decode cX10_hash 23 = .ok (.getfield 51, 3) := by decide +kernel
theorem dX10_hash_26 : decode cX10_hash 26 = .ok (.getfield 99, 3) := by decide +kernel
theorem dX10_hash_29 : decode cX10_hash 29 = .ok (.aload_n 0, 1) := by decide +kernel
theorem dX10_hash_30 : decode cX10_hash 30 = .ok (.getfield 14, 3) := by decide +kernel
theorem dX10_hash_33 : decode cX10_hash 33 = .ok (.invokevirtual 105, 3) := by decide +kernel
theorem dX10_hash_36 : decode cX10_hash 36 = .ok (.aload_n 0, 1) := by decide +kernel
theorem dX10_hash_37 : decode cX10_hash 37 = .ok (.getfield 51, 3) := by decide +kernel
theorem dX10_hash_40 : decode cX10_hash 40 = .ok (.iload_n 1, 1) := by decide +kernel
theorem dX10_hash_41 : decode cX10_hash 41 = .ok (.invokevirtual 109, 3) := by decide +kernel
theorem dX10_hash_44 : decode cX10_hash 44 = .ok (.aload_n 0, 1) := by decide +kernel
theorem dX10_hash_45 : decode cX10_hash 45 = .ok (.getfield 51, 3) := by decide +kernel
theorem dX10_hash_48 : decode cX10_hash 48 = .ok (.getfield 99, 3) := by decide +kernel
theorem dX10_hash_51 : decode cX10_hash 51 = .ok (.aload_n 0, 1) := by decide +kernel
theorem dX10_hash_52 : decode cX10_hash 52 = .ok (.getfield 18, 3) := by decide +kernel
theorem dX10_hash_55 : decode cX10_hash 55 = .ok (.invokevirtual 113, 3) := by decide +kernel
theorem dX10_hash_58 : decode cX10_hash 58 = .ok (.aload_n 0, 1) := by decide +kernel
theorem dX10_hash_59 : decode cX10_hash 59 = .ok (.getfield 18, 3) := by decide +kernel
theorem dX10_hash_62 : decode cX10_hash 62 = .ok (.getfield 95, 3) := by decide +kernel
theorem dX10_hash_65 : decode cX10_hash 65 = .ok (.ireturn, 1) := by decide +kernel
set_option maxRecDepth 20000 in
theorem ggX10_hashByte_X7_at : GoodIn wsX10_hashByte wsX7_at := goodIn_r _ [6, 7, 8, 23, 24] rfl (by decide +kernel)
set_option maxRecDepth 20000 in
theorem gX10_hashByte_X7_at : GoodIn wsX10_hashByte (wsV RX10 119 RX7 yX7_at wsX7_at) := goodIn_app (goodIn_of _ (by decide +kernel)) ggX10_hashByte_X7_at
theorem dX10_hashByte_0 : decode cX10_hashByte 0 = .ok (.aload_n 0, 1) := by decide +kernel
theorem dX10_hashByte_1 : decode cX10_hashByte 1 = .ok (.getfield 18, 3) := by decide +kernel
theorem dX10_hashByte_4 : decode cX10_hashByte 4 = .ok (.iload_n 1, 1) := by decide +kernel
theorem dX10_hashByte_5 : decode cX10_hashByte 5 = .ok (.invokevirtual 119, 3) := by decide +kernel
theorem dX10_hashByte_8 : decode cX10_hashByte 8 = .ok (.ireturn, 1) := by decide +kernel
set_option maxRecDepth 20000 in
theorem ggX10_shape_X8_fits : GoodIn wsX10_shape wsX8_fits := goodIn_r _ [11, 12, 13, 10, 14] rfl (by decide +kernel)
set_option maxRecDepth 20000 in
theorem gX10_shape_X8_fits : GoodIn wsX10_shape (va_wsS RX10 123 yX8_fits wsX8_fits) := goodIn_app (goodIn_of _ (by decide +kernel)) ggX10_shape_X8_fits
set_option maxRecDepth 20000 in
theorem ggX10_shape_X8_become : GoodIn wsX10_shape wsX8_become := goodIn_r _ [18, 19, 20, 21, 22, 23, 24, 68, 69, 70, 71, 72, 73] rfl (by decide +kernel)
set_option maxRecDepth 20000 in
theorem gX10_shape_X8_become : GoodIn wsX10_shape (wsV RX10 127 RX8 yX8_become wsX8_become) := goodIn_app (goodIn_of _ (by decide +kernel)) ggX10_shape_X8_become
set_option maxRecDepth 20000 in
theorem ggX10_shape_X7_clear : GoodIn wsX10_shape wsX7_clear := goodIn_r _ [29, 30, 74, 75] rfl (by decide +kernel)
set_option maxRecDepth 20000 in
theorem gX10_shape_X7_clear : GoodIn wsX10_shape (wsV RX10 102 RX7 yX7_clear wsX7_clear) := goodIn_app (goodIn_of _ (by decide +kernel)) ggX10_shape_X7_clear
set_option maxRecDepth 20000 in
theorem ggX10_shape_X0_forgetLeaves : GoodIn wsX10_shape wsX0_forgetLeaves := goodIn_r _ [35, 36, 76, 77, 78, 79, 80, 81] rfl (by decide +kernel)
set_option maxRecDepth 20000 in
theorem gX10_shape_X0_forgetLeaves : GoodIn wsX10_shape (wsV RX10 134 RX0 yX0_forgetLeaves wsX0_forgetLeaves) := goodIn_app (goodIn_of _ (by decide +kernel)) ggX10_shape_X0_forgetLeaves
set_option maxRecDepth 20000 in
theorem ggX10_shape_X8_size : GoodIn wsX10_shape wsX8_size := goodIn_r _ [40, 20, 22, 21, 41, 42, 43, 10, 44, 24, 23, 45, 46, 47, 48, 68, 69, 70, 71, 72, 73] rfl (by decide +kernel)
set_option maxRecDepth 20000 in
theorem gX10_shape_X8_size : GoodIn wsX10_shape (wsV RX10 137 RX8 yX8_size wsX8_size) := goodIn_app (goodIn_of _ (by decide +kernel)) ggX10_shape_X8_size
theorem dX10_shape_0 : decode cX10_shape 0 = .ok (.iload_n 1, 1) := by decide +kernel
theorem dX10_shape_1 : decode cX10_shape 1 = .ok (.iload_n 2, 1) := by decide +kernel
theorem dX10_shape_2 : decode cX10_shape 2 = .ok (.iload_n 3, 1) := by decide +kernel
theorem dX10_shape_3 : decode cX10_shape 3 = .ok (.iload 4, 2) := by decide +kernel
theorem dX10_shape_5 : decode cX10_shape 5 = .ok (.iload 5, 2) := by decide +kernel
theorem dX10_shape_7 : decode cX10_shape 7 = .ok (.iload 6, 2) := by decide +kernel
theorem dX10_shape_9 : decode cX10_shape 9 = .ok (.invokestatic 123, 3) := by decide +kernel
theorem dX10_shape_12 : decode cX10_shape 12 = .ok (.ifCond .ne 6, 3) := by decide +kernel
theorem dX10_shape_15 : decode cX10_shape 15 = .ok (.bipush (-2), 2) := by decide +kernel
theorem dX10_shape_17 : decode cX10_shape 17 = .ok (.ireturn, 1) := by decide +kernel
theorem dX10_shape_18 : decode cX10_shape 18 = .ok (.aload_n 0, 1) := by decide +kernel
theorem dX10_shape_19 : decode cX10_shape 19 = .ok (.getfield 42, 3) := by decide +kernel
theorem dX10_shape_22 : decode cX10_shape 22 = .ok (.iload_n 1, 1) := by decide +kernel
theorem dX10_shape_23 : decode cX10_shape 23 = .ok (.iload_n 2, 1) := by decide +kernel
theorem dX10_shape_24 : decode cX10_shape 24 = .ok (.iload_n 3, 1) := by decide +kernel
theorem dX10_shape_25 : decode cX10_shape 25 = .ok (.iload 4, 2) := by decide +kernel
theorem dX10_shape_27 : decode cX10_shape 27 = .ok (.iload 5, 2) := by decide +kernel
theorem dX10_shape_29 : decode cX10_shape 29 = .ok (.iload 6, 2) := by decide +kernel
theorem dX10_shape_31 : decode cX10_shape 31 = .ok (.invokevirtual 127, 3) := by decide +kernel
theorem dX10_shape_34 : decode cX10_shape 34 = .ok (.aload_n 0, 1) := by decide +kernel
theorem dX10_shape_35 : decode cX10_shape 35 = .ok (.getfield 27, 3) := by decide +kernel
theorem dX10_shape_38 : decode cX10_shape 38 = .ok (.invokevirtual 102, 3) := by decide +kernel
theorem dX10_shape_41 : decode cX10_shape 41 = .ok (.aload_n 0, 1) := by decide +kernel
theorem dX10_shape_42 : decode cX10_shape 42 = .ok (.getfield 30, 3) := by decide +kernel
theorem dX10_shape_45 : decode cX10_shape 45 = .ok (.invokevirtual 102, 3) := by decide +kernel
theorem dX10_shape_48 : decode cX10_shape 48 = .ok (.aload_n 0, 1) := by decide +kernel
theorem dX10_shape_49 : decode cX10_shape 49 = .ok (.getfield 36, 3) := by decide +kernel
theorem dX10_shape_52 : decode cX10_shape 52 = .ok (.invokevirtual 102, 3) := by decide +kernel
theorem dX10_shape_55 : decode cX10_shape 55 = .ok (.aload_n 0, 1) := by decide +kernel
theorem dX10_shape_56 : decode cX10_shape 56 = .ok (.getfield 87, 3) := by decide +kernel
theorem dX10_shape_59 : decode cX10_shape 59 = .ok (.getfield 131, 3) := by decide +kernel
theorem dX10_shape_62 : decode cX10_shape 62 = .ok (.invokevirtual 102, 3) := by decide +kernel
theorem dX10_shape_65 : decode cX10_shape 65 = .ok (.aload_n 0, 1) := by decide +kernel
theorem dX10_shape_66 : decode cX10_shape 66 = .ok (.getfield 60, 3) := by decide +kernel
theorem dX10_shape_69 : decode cX10_shape 69 = .ok (.invokevirtual 134, 3) := by decide +kernel
theorem dX10_shape_72 : decode cX10_shape 72 = .ok (.aload_n 0, 1) := by decide +kernel
theorem dX10_shape_73 : decode cX10_shape 73 = .ok (.getfield 42, 3) := by decide +kernel
theorem dX10_shape_76 : decode cX10_shape 76 = .ok (.invokevirtual 137, 3) := by decide +kernel
theorem dX10_shape_79 : decode cX10_shape 79 = .ok (.ireturn, 1) := by decide +kernel
set_option maxRecDepth 20000 in
theorem ggX10_seed_X10_holdTold : GoodIn wsX10_seed wsX10_holdTold := goodIn_r _ [9, 2, 10, 11, 12, 13, 14, 15, 16, 17, 18, 19, 20, 39, 40, 41, 42, 43, 44, 45, 46, 47, 48, 49, 50, 51, 52, 53, 54] rfl (by decide +kernel)
set_option maxRecDepth 20000 in
theorem gX10_seed_X10_holdTold : GoodIn wsX10_seed (wsV RX10 141 RX10 yX10_holdTold wsX10_holdTold) := goodIn_app (goodIn_of _ (by decide +kernel)) ggX10_seed_X10_holdTold
set_option maxRecDepth 20000 in
theorem ggX10_seed_X7_lay : GoodIn wsX10_seed wsX7_lay := goodIn_r _ [24, 15, 20, 25, 26, 27, 28, 29, 30, 31, 32, 53, 54] rfl (by decide +kernel)
set_option maxRecDepth 20000 in
theorem gX10_seed_X7_lay : GoodIn wsX10_seed (wsV RX10 145 RX7 yX7_lay wsX7_lay) := goodIn_app (goodIn_of _ (by decide +kernel)) ggX10_seed_X7_lay
set_option maxRecDepth 20000 in
theorem ggX10_seed_X7_clear : GoodIn wsX10_seed wsX7_clear := goodIn_r _ [14, 15, 53, 54] rfl (by decide +kernel)
set_option maxRecDepth 20000 in
theorem gX10_seed_X7_clear : GoodIn wsX10_seed (wsV RX10 102 RX7 yX7_clear wsX7_clear) := goodIn_app (goodIn_of _ (by decide +kernel)) ggX10_seed_X7_clear
set_option maxRecDepth 20000 in
theorem ggX10_seed_X0_forgetLeaves : GoodIn wsX10_seed wsX0_forgetLeaves := goodIn_r _ [37, 38, 55, 56, 57, 58, 59, 60] rfl (by decide +kernel)
set_option maxRecDepth 20000 in
theorem gX10_seed_X0_forgetLeaves : GoodIn wsX10_seed (wsV RX10 134 RX0 yX0_forgetLeaves wsX0_forgetLeaves) := goodIn_app (goodIn_of _ (by decide +kernel)) ggX10_seed_X0_forgetLeaves
theorem dX10_seed_0 : decode cX10_seed 0 = .ok (.iload_n 1, 1) := by decide +kernel
theorem dX10_seed_1 : decode cX10_seed 1 = .ok (.ifCond .lt 8, 3) := by decide +kernel
theorem dX10_seed_4 : decode cX10_seed 4 = .ok (.iload_n 1, 1) := by decide +kernel
theorem dX10_seed_5 : decode cX10_seed 5 = .ok (.iconst 3, 1) := by decide +kernel
theorem dX10_seed_6 : decode cX10_seed 6 = .ok (.if_icmp .lt 6, 3) := by decide +kernel
theorem dX10_seed_9 : decode cX10_seed 9 = .ok (.bipush (-2), 2) := by decide +kernel
theorem dX10_seed_11 : decode cX10_seed 11 = .ok (.ireturn, 1) := by decide +kernel
theorem dX10_seed_12 : decode cX10_seed 12 = .ok (.aload_n 0, 1) := by decide +kernel
theorem dX10_seed_13 : decode cX10_seed 13 = .ok (.lload_n 2, 1) := by decide +kernel
theorem dX10_seed_14 : decode cX10_seed 14 = .ok (.lload 4, 2) := by decide +kernel
theorem dX10_seed_16 : decode cX10_seed 16 = .ok (.invokevirtual 141, 3) := by decide +kernel
theorem dX10_seed_19 : decode cX10_seed 19 = .ok (.aload_n 0, 1) := by decide +kernel
theorem dX10_seed_20 : decode cX10_seed 20 = .ok (.getfield 21, 3) := by decide +kernel
theorem dX10_seed_23 : decode cX10_seed 23 = .ok (.iload_n 1, 1) := by decide +kernel
theorem dX10_seed_24 : decode cX10_seed 24 = .ok (.bipush 16, 2) := by decide +kernel
theorem dX10_seed_26 : decode cX10_seed 26 = .ok (.imul, 1) := by decide +kernel
theorem dX10_seed_27 : decode cX10_seed 27 = .ok (.aload_n 0, 1) := by decide +kernel
theorem dX10_seed_28 : decode cX10_seed 28 = .ok (.getfield 24, 3) := by decide +kernel
theorem dX10_seed_31 : decode cX10_seed 31 = .ok (.iconst 0, 1) := by decide +kernel
theorem dX10_seed_32 : decode cX10_seed 32 = .ok (.bipush 16, 2) := by decide +kernel
theorem dX10_seed_34 : decode cX10_seed 34 = .ok (.invokevirtual 145, 3) := by decide +kernel
theorem dX10_seed_37 : decode cX10_seed 37 = .ok (.aload_n 0, 1) := by decide +kernel
theorem dX10_seed_38 : decode cX10_seed 38 = .ok (.getfield 27, 3) := by decide +kernel
theorem dX10_seed_41 : decode cX10_seed 41 = .ok (.invokevirtual 102, 3) := by decide +kernel
theorem dX10_seed_44 : decode cX10_seed 44 = .ok (.aload_n 0, 1) := by decide +kernel
theorem dX10_seed_45 : decode cX10_seed 45 = .ok (.getfield 60, 3) := by decide +kernel
theorem dX10_seed_48 : decode cX10_seed 48 = .ok (.invokevirtual 134, 3) := by decide +kernel
theorem dX10_seed_51 : decode cX10_seed 51 = .ok (.iconst 1, 1) := by decide +kernel
theorem dX10_seed_52 : decode cX10_seed 52 = .ok (.ireturn, 1) := by decide +kernel
set_option maxRecDepth 20000 in
theorem ggX10_key_X9_gatherLeaves : GoodIn wsX10_key wsX9_gatherLeaves := goodIn_r _ [11, 12, 13, 14, 15, 16, 17, 18, 19, 20, 21, 22, 23, 24, 25, 26, 27, 28, 29, 30, 31, 32, 33, 34, 35, 36, 37, 38, 39, 40, 41, 42, 43, 44, 45, 46, 47, 48, 49, 50, 51, 52, 53, 54, 55, 56, 57, 58, 59, 60, 61, 62, 63, 64, 65, 66, 67, 68, 69, 70, 71, 72, 73, 74, 75, 76, 77, 78, 79, 80, 81, 82, 83, 84, 85, 86, 87, 88, 89, 90, 91, 92, 93, 94, 95, 96, 97, 98, 99, 100, 101, 102, 103, 104, 105, 106, 107, 108, 109, 110, 111, 112, 113, 114, 115, 116, 117, 118, 119, 120, 121, 122, 123, 124, 125, 126, 127, 128, 129, 130, 131, 132, 133, 134, 135, 136, 137, 138, 139, 140, 141, 142, 143, 144, 145, 146, 147, 148, 149, 150, 151, 152, 153, 154, 155, 156, 157, 158, 159, 160, 161, 162, 163, 164, 165, 166, 167, 168, 169, 170, 171, 172, 173, 174, 175, 176, 177, 178, 214, 215, 216, 217, 218, 219, 220, 221, 222, 223, 208, 209, 210, 211, 212, 213, 224, 225, 226, 227, 228, 229, 230, 231, 232, 233, 234, 235, 236, 237] rfl (by decide +kernel)
set_option maxRecDepth 20000 in
theorem gX10_key_X9_gatherLeaves : GoodIn wsX10_key (wsV RX10 152 RX9 yX9_gatherLeaves wsX9_gatherLeaves) := goodIn_app (goodIn_of _ (by decide +kernel)) ggX10_key_X9_gatherLeaves
set_option maxRecDepth 20000 in
theorem ggX10_key_X9_climb : GoodIn wsX10_key wsX9_climb := goodIn_r _ [182, 13, 183, 184, 185, 186, 10, 187, 188, 189, 12, 16, 190, 67, 68, 44, 69, 63, 70, 61, 62, 64, 46, 47, 71, 18, 19, 20, 21, 22, 72, 73, 74, 75, 76, 77, 78, 79, 80, 81, 82, 83, 84, 85, 86, 87, 88, 178, 90, 91, 92, 93, 191, 95, 96, 97, 98, 99, 100, 101, 102, 103, 104, 105, 106, 107, 108, 109, 110, 111, 112, 113, 114, 115, 116, 117, 118, 119, 120, 121, 122, 123, 124, 125, 126, 127, 128, 129, 130, 131, 132, 133, 134, 135, 136, 137, 138, 139, 140, 141, 142, 143, 144, 145, 146, 147, 148, 149, 150, 151, 152, 153, 154, 155, 156, 157, 158, 159, 160, 161, 162, 163, 164, 214, 215, 216, 217, 208, 209, 210, 211, 212, 213, 226, 227, 228, 229, 230, 231, 232, 233, 224, 225, 234, 235, 236, 237] rfl (by decide +kernel)
set_option maxRecDepth 20000 in
theorem gX10_key_X9_climb : GoodIn wsX10_key (wsV RX10 156 RX9 yX9_climb wsX9_climb) := goodIn_app (goodIn_of _ (by decide +kernel)) ggX10_key_X9_climb
set_option maxRecDepth 20000 in
theorem ggX10_key_X7_clear : GoodIn wsX10_key wsX7_clear := goodIn_r _ [21, 22, 224, 225] rfl (by decide +kernel)
set_option maxRecDepth 20000 in
theorem gX10_key_X7_clear : GoodIn wsX10_key (wsV RX10 102 RX7 yX7_clear wsX7_clear) := goodIn_app (goodIn_of _ (by decide +kernel)) ggX10_key_X7_clear
set_option maxRecDepth 20000 in
theorem ggX10_key_X7_add : GoodIn wsX10_key wsX7_add := goodIn_r _ [92, 22, 93, 73, 74, 20, 75, 76, 77, 78, 79, 80, 81, 82, 83, 84, 224, 225] rfl (by decide +kernel)
set_option maxRecDepth 20000 in
theorem gX10_key_X7_add : GoodIn wsX10_key (wsV RX10 165 RX7 yX7_add wsX7_add) := goodIn_app (goodIn_of _ (by decide +kernel)) ggX10_key_X7_add
theorem dX10_key_0 : decode cX10_key 0 = .ok (.aload_n 0, 1) := by decide +kernel
theorem dX10_key_1 : decode cX10_key 1 = .ok (.getfield 69, 3) := by decide +kernel
theorem dX10_key_4 : decode cX10_key 4 = .ok (.aload_n 0, 1) := by decide +kernel
theorem dX10_key_5 : decode cX10_key 5 = .ok (.getfield 42, 3) := by decide +kernel
theorem dX10_key_8 : decode cX10_key 8 = .ok (.getfield 149, 3) := by decide +kernel
theorem dX10_key_11 : decode cX10_key 11 = .ok (.iconst 1, 1) := by decide +kernel
theorem dX10_key_12 : decode cX10_key 12 = .ok (.isub, 1) := by decide +kernel
theorem dX10_key_13 : decode cX10_key 13 = .ok (.iconst 0, 1) := by decide +kernel
theorem dX10_key_14 : decode cX10_key 14 = .ok (.invokevirtual 152, 3) := by decide +kernel
theorem dX10_key_17 : decode cX10_key 17 = .ok (.aload_n 0, 1) := by decide +kernel
theorem dX10_key_18 : decode cX10_key 18 = .ok (.getfield 69, 3) := by decide +kernel
theorem dX10_key_21 : decode cX10_key 21 = .ok (.invokevirtual 156, 3) := by decide +kernel
theorem dX10_key_24 : decode cX10_key 24 = .ok (.aload_n 0, 1) := by decide +kernel
theorem dX10_key_25 : decode cX10_key 25 = .ok (.getfield 27, 3) := by decide +kernel
theorem dX10_key_28 : decode cX10_key 28 = .ok (.invokevirtual 102, 3) := by decide +kernel
theorem dX10_key_31 : decode cX10_key 31 = .ok (.aload_n 0, 1) := by decide +kernel
theorem dX10_key_32 : decode cX10_key 32 = .ok (.getfield 27, 3) := by decide +kernel
theorem dX10_key_35 : decode cX10_key 35 = .ok (.aload_n 0, 1) := by decide +kernel
theorem dX10_key_36 : decode cX10_key 36 = .ok (.getfield 69, 3) := by decide +kernel
theorem dX10_key_39 : decode cX10_key 39 = .ok (.getfield 159, 3) := by decide +kernel
theorem dX10_key_42 : decode cX10_key 42 = .ok (.iconst 0, 1) := by decide +kernel
theorem dX10_key_43 : decode cX10_key 43 = .ok (.aload_n 0, 1) := by decide +kernel
theorem dX10_key_44 : decode cX10_key 44 = .ok (.getfield 42, 3) := by decide +kernel
theorem dX10_key_47 : decode cX10_key 47 = .ok (.getfield 162, 3) := by decide +kernel
theorem dX10_key_50 : decode cX10_key 50 = .ok (.invokevirtual 165, 3) := by decide +kernel
theorem dX10_key_53 : decode cX10_key 53 = .ok (.iconst 1, 1) := by decide +kernel
theorem dX10_key_54 : decode cX10_key 54 = .ok (.ireturn, 1) := by decide +kernel
set_option maxRecDepth 20000 in
theorem ggX10_root_X7_at : GoodIn wsX10_root wsX7_at := goodIn_r _ [6, 7, 8, 23, 24] rfl (by decide +kernel)
set_option maxRecDepth 20000 in
theorem gX10_root_X7_at : GoodIn wsX10_root (wsV RX10 119 RX7 yX7_at wsX7_at) := goodIn_app (goodIn_of _ (by decide +kernel)) ggX10_root_X7_at
theorem dX10_root_0 : decode cX10_root 0 = .ok (.aload_n 0, 1) := by decide +kernel
theorem dX10_root_1 : decode cX10_root 1 = .ok (.getfield 27, 3) := by decide +kernel
theorem dX10_root_4 : decode cX10_root 4 = .ok (.iload_n 1, 1) := by decide +kernel
theorem dX10_root_5 : decode cX10_root 5 = .ok (.invokevirtual 119, 3) := by decide +kernel
theorem dX10_root_8 : decode cX10_root 8 = .ok (.ireturn, 1) := by decide +kernel
theorem dX10_hasKey_0 : decode cX10_hasKey 0 = .ok (.aload_n 0, 1) := by decide +kernel
theorem dX10_hasKey_1 : decode cX10_hasKey 1 = .ok (.getfield 27, 3) := by decide +kernel
theorem dX10_hasKey_4 : decode cX10_hasKey 4 = .ok (.getfield 95, 3) := by decide +kernel
theorem dX10_hasKey_7 : decode cX10_hasKey 7 = .ok (.ifCond .le 7, 3) := by decide +kernel
theorem dX10_hasKey_10 : decode cX10_hasKey 10 = .ok (.iconst 1, 1) := by decide +kernel
theorem dX10_hasKey_11 : decode cX10_hasKey 11 = .ok (.goto 4, 3) := by decide +kernel
theorem dX10_hasKey_14 : decode cX10_hasKey 14 = .ok (.iconst 0, 1) := by decide +kernel
theorem dX10_hasKey_15 : decode cX10_hasKey 15 = .ok (.ireturn, 1) := by decide +kernel
set_option maxRecDepth 20000 in
theorem ggX10_holdTold_X7_clear : GoodIn wsX10_holdTold wsX7_clear := goodIn_r _ [6, 7, 27, 28] rfl (by decide +kernel)
set_option maxRecDepth 20000 in
theorem gX10_holdTold_X7_clear : GoodIn wsX10_holdTold (wsV RX10 102 RX7 yX7_clear wsX7_clear) := goodIn_app (goodIn_of _ (by decide +kernel)) ggX10_holdTold_X7_clear
set_option maxRecDepth 20000 in
theorem ggX10_holdTold_X7_addNumber : GoodIn wsX10_holdTold wsX7_addNumber := goodIn_r _ [11, 7, 12, 27, 28] rfl (by decide +kernel)
set_option maxRecDepth 20000 in
theorem gX10_holdTold_X7_addNumber : GoodIn wsX10_holdTold (wsV RX10 91 RX7 yX7_addNumber wsX7_addNumber) := goodIn_app (goodIn_of _ (by decide +kernel)) ggX10_holdTold_X7_addNumber
theorem dX10_holdTold_0 : decode cX10_holdTold 0 = .ok (.aload_n 0, 1) := by decide +kernel
theorem dX10_holdTold_1 : decode cX10_holdTold 1 = .ok (.getfield 24, 3) := by decide +kernel
theorem dX10_holdTold_4 : decode cX10_holdTold 4 = .ok (.invokevirtual 102, 3) := by decide +kernel
theorem dX10_holdTold_7 : decode cX10_holdTold 7 = .ok (.aload_n 0, 1) := by decide +kernel
theorem dX10_holdTold_8 : decode cX10_holdTold 8 = .ok (.getfield 24, 3) := by decide +kernel
theorem dX10_holdTold_11 : decode cX10_holdTold 11 = .ok (.lload_n 1, 1) := by decide +kernel
theorem dX10_holdTold_12 : decode cX10_holdTold 12 = .ok (.bipush 8, 2) := by decide +kernel
theorem dX10_holdTold_14 : decode cX10_holdTold 14 = .ok (.invokevirtual 91, 3) := by decide +kernel
theorem dX10_holdTold_17 : decode cX10_holdTold 17 = .ok (.aload_n 0, 1) := by decide +kernel
theorem dX10_holdTold_18 : decode cX10_holdTold 18 = .ok (.getfield 24, 3) := by decide +kernel
theorem dX10_holdTold_21 : decode cX10_holdTold 21 = .ok (.lload_n 3, 1) := by decide +kernel
theorem dX10_holdTold_22 : decode cX10_holdTold 22 = .ok (.bipush 8, 2) := by decide +kernel
theorem dX10_holdTold_24 : decode cX10_holdTold 24 = .ok (.invokevirtual 91, 3) := by decide +kernel
theorem dX10_holdTold_27 : decode cX10_holdTold 27 = .ok (.return_, 1) := by decide +kernel
set_option maxRecDepth 20000 in
theorem ggX10_signed_X7_at : GoodIn wsX10_signed wsX7_at := goodIn_r _ [6, 7, 8, 23, 24] rfl (by decide +kernel)
set_option maxRecDepth 20000 in
theorem gX10_signed_X7_at : GoodIn wsX10_signed (wsV RX10 119 RX7 yX7_at wsX7_at) := goodIn_app (goodIn_of _ (by decide +kernel)) ggX10_signed_X7_at
theorem dX10_signed_0 : decode cX10_signed 0 = .ok (.aload_n 0, 1) := by decide +kernel
theorem dX10_signed_1 : decode cX10_signed 1 = .ok (.getfield 30, 3) := by decide +kernel
theorem dX10_signed_4 : decode cX10_signed 4 = .ok (.iload_n 1, 1) := by decide +kernel
theorem dX10_signed_5 : decode cX10_signed 5 = .ok (.invokevirtual 119, 3) := by decide +kernel
theorem dX10_signed_8 : decode cX10_signed 8 = .ok (.ireturn, 1) := by decide +kernel
set_option maxRecDepth 20000 in
theorem ggX10_alter_X7_at : GoodIn wsX10_alter wsX7_at := goodIn_r _ [6, 7, 8, 27, 28] rfl (by decide +kernel)
set_option maxRecDepth 20000 in
theorem gX10_alter_X7_at : GoodIn wsX10_alter (wsV RX10 119 RX7 yX7_at wsX7_at) := goodIn_app (goodIn_of _ (by decide +kernel)) ggX10_alter_X7_at
set_option maxRecDepth 20000 in
theorem ggX10_alter_X7_put : GoodIn wsX10_alter wsX7_put := goodIn_r _ [12, 7, 8, 27, 28] rfl (by decide +kernel)
set_option maxRecDepth 20000 in
theorem gX10_alter_X7_put : GoodIn wsX10_alter (wsV RX10 177 RX7 yX7_put wsX7_put) := goodIn_app (goodIn_of _ (by decide +kernel)) ggX10_alter_X7_put
theorem dX10_alter_0 : decode cX10_alter 0 = .ok (.aload_n 0, 1) := by decide +kernel
theorem dX10_alter_1 : decode cX10_alter 1 = .ok (.getfield 30, 3) := by decide +kernel
theorem dX10_alter_4 : decode cX10_alter 4 = .ok (.iload_n 1, 1) := by decide +kernel
theorem dX10_alter_5 : decode cX10_alter 5 = .ok (.invokevirtual 119, 3) := by decide +kernel
theorem dX10_alter_8 : decode cX10_alter 8 = .ok (.istore_n 3, 1) := by decide +kernel
theorem dX10_alter_9 : decode cX10_alter 9 = .ok (.iload_n 3, 1) := by decide +kernel
theorem dX10_alter_10 : decode cX10_alter 10 = .ok (.bipush (-9), 2) := by decide +kernel
theorem dX10_alter_12 : decode cX10_alter 12 = .ok (.if_icmp .eq 14, 3) := by decide +kernel
theorem dX10_alter_15 : decode cX10_alter 15 = .ok (.iload_n 2, 1) := by decide +kernel
theorem dX10_alter_16 : decode cX10_alter 16 = .ok (.ifCond .lt 10, 3) := by decide +kernel
theorem dX10_alter_19 : decode cX10_alter 19 = .ok (.iload_n 2, 1) := by decide +kernel
theorem dX10_alter_20 : decode cX10_alter 20 = .ok (.sipush 255, 3) := by decide +kernel
theorem dX10_alter_23 : decode cX10_alter 23 = .ok (.if_icmp .le 6, 3) := by decide +kernel
theorem dX10_alter_26 : decode cX10_alter 26 = .ok (.bipush (-2), 2) := by decide +kernel
theorem dX10_alter_28 : decode cX10_alter 28 = .ok (.ireturn, 1) := by decide +kernel
theorem dX10_alter_29 : decode cX10_alter 29 = .ok (.aload_n 0, 1) := by decide +kernel
theorem dX10_alter_30 : decode cX10_alter 30 = .ok (.getfield 30, 3) := by decide +kernel
theorem dX10_alter_33 : decode cX10_alter 33 = .ok (.iload_n 1, 1) := by decide +kernel
theorem dX10_alter_34 : decode cX10_alter 34 = .ok (.iload_n 2, 1) := by decide +kernel
theorem dX10_alter_35 : decode cX10_alter 35 = .ok (.invokevirtual 177, 3) := by decide +kernel
theorem dX10_alter_38 : decode cX10_alter 38 = .ok (.iload_n 3, 1) := by decide +kernel
theorem dX10_alter_39 : decode cX10_alter 39 = .ok (.ireturn, 1) := by decide +kernel
theorem dX10_cut_0 : decode cX10_cut 0 = .ok (.iload_n 1, 1) := by decide +kernel
theorem dX10_cut_1 : decode cX10_cut 1 = .ok (.ifCond .lt 14, 3) := by decide +kernel
theorem dX10_cut_4 : decode cX10_cut 4 = .ok (.iload_n 1, 1) := by decide +kernel
theorem dX10_cut_5 : decode cX10_cut 5 = .ok (.aload_n 0, 1) := by decide +kernel
theorem dX10_cut_6 : decode cX10_cut 6 = .ok (.getfield 30, 3) := by decide +kernel
theorem dX10_cut_9 : decode cX10_cut 9 = .ok (.getfield 95, 3) := by decide +kernel
theorem dX10_cut_12 : decode cX10_cut 12 = .ok (.if_icmp .le 6, 3) := by decide +kernel
theorem dX10_cut_15 : decode cX10_cut 15 = .ok (.bipush (-2), 2) := by decide +kernel
theorem dX10_cut_17 : decode cX10_cut 17 = .ok (.ireturn, 1) := by decide +kernel
theorem dX10_cut_18 : decode cX10_cut 18 = .ok (.aload_n 0, 1) := by decide +kernel
theorem dX10_cut_19 : decode cX10_cut 19 = .ok (.getfield 30, 3) := by decide +kernel
theorem dX10_cut_22 : decode cX10_cut 22 = .ok (.getfield 95, 3) := by decide +kernel
theorem dX10_cut_25 : decode cX10_cut 25 = .ok (.iload_n 1, 1) := by decide +kernel
theorem dX10_cut_26 : decode cX10_cut 26 = .ok (.isub, 1) := by decide +kernel
theorem dX10_cut_27 : decode cX10_cut 27 = .ok (.istore_n 2, 1) := by decide +kernel
theorem dX10_cut_28 : decode cX10_cut 28 = .ok (.aload_n 0, 1) := by decide +kernel
theorem dX10_cut_29 : decode cX10_cut 29 = .ok (.getfield 30, 3) := by decide +kernel
theorem dX10_cut_32 : decode cX10_cut 32 = .ok (.iload_n 1, 1) := by decide +kernel
theorem dX10_cut_33 : decode cX10_cut 33 = .ok (.putfield 95, 3) := by decide +kernel
theorem dX10_cut_36 : decode cX10_cut 36 = .ok (.iload_n 2, 1) := by decide +kernel
theorem dX10_cut_37 : decode cX10_cut 37 = .ok (.ireturn, 1) := by decide +kernel
set_option maxRecDepth 20000 in
theorem ggX10_ledTo_X7_at : GoodIn wsX10_ledTo wsX7_at := goodIn_r _ [6, 7, 8, 23, 24] rfl (by decide +kernel)
set_option maxRecDepth 20000 in
theorem gX10_ledTo_X7_at : GoodIn wsX10_ledTo (wsV RX10 119 RX7 yX7_at wsX7_at) := goodIn_app (goodIn_of _ (by decide +kernel)) ggX10_ledTo_X7_at
theorem dX10_ledTo_0 : decode cX10_ledTo 0 = .ok (.aload_n 0, 1) := by decide +kernel
theorem dX10_ledTo_1 : decode cX10_ledTo 1 = .ok (.getfield 36, 3) := by decide +kernel
theorem dX10_ledTo_4 : decode cX10_ledTo 4 = .ok (.iload_n 1, 1) := by decide +kernel
theorem dX10_ledTo_5 : decode cX10_ledTo 5 = .ok (.invokevirtual 119, 3) := by decide +kernel
theorem dX10_ledTo_8 : decode cX10_ledTo 8 = .ok (.ireturn, 1) := by decide +kernel
set_option maxRecDepth 20000 in
theorem ggX10_index_X7_at : GoodIn wsX10_index wsX7_at := goodIn_r _ [7, 8, 9, 29, 30] rfl (by decide +kernel)
set_option maxRecDepth 20000 in
theorem gX10_index_X7_at : GoodIn wsX10_index (wsV RX10 119 RX7 yX7_at wsX7_at) := goodIn_app (goodIn_of _ (by decide +kernel)) ggX10_index_X7_at
theorem dX10_index_0 : decode cX10_index 0 = .ok (.aload_n 0, 1) := by decide +kernel
theorem dX10_index_1 : decode cX10_index 1 = .ok (.getfield 87, 3) := by decide +kernel
theorem dX10_index_4 : decode cX10_index 4 = .ok (.getfield 131, 3) := by decide +kernel
theorem dX10_index_7 : decode cX10_index 7 = .ok (.iload_n 1, 1) := by decide +kernel
theorem dX10_index_8 : decode cX10_index 8 = .ok (.invokevirtual 119, 3) := by decide +kernel
theorem dX10_index_11 : decode cX10_index 11 = .ok (.ireturn, 1) := by decide +kernel
set_option maxRecDepth 20000 in
theorem ggX10_leaf_X8_hasTree : GoodIn wsX10_leaf wsX8_hasTree := goodIn_r _ [9, 10, 11, 12, 8, 13, 14, 15, 16, 17, 18, 189, 190, 191, 192, 193, 194] rfl (by decide +kernel)
set_option maxRecDepth 20000 in
theorem gX10_leaf_X8_hasTree : GoodIn wsX10_leaf (wsV RX10 191 RX8 yX8_hasTree wsX8_hasTree) := goodIn_app (goodIn_of _ (by decide +kernel)) ggX10_leaf_X8_hasTree
set_option maxRecDepth 20000 in
theorem ggX10_leaf_X8_leaves : GoodIn wsX10_leaf wsX8_leaves := goodIn_r _ [17, 18, 189, 190, 191, 192, 193, 194] rfl (by decide +kernel)
set_option maxRecDepth 20000 in
theorem gX10_leaf_X8_leaves : GoodIn wsX10_leaf (wsV RX10 195 RX8 yX8_leaves wsX8_leaves) := goodIn_app (goodIn_of _ (by decide +kernel)) ggX10_leaf_X8_leaves
set_option maxRecDepth 20000 in
theorem ggX10_leaf_X0_keepLeaf : GoodIn wsX10_leaf wsX0_keepLeaf := goodIn_r _ [24, 25, 26, 27, 28, 29, 30, 31, 32, 33, 34, 35, 36, 37, 38, 39, 40, 23, 41, 42, 43, 44, 45, 46, 47, 48, 49, 50, 8, 51, 52, 53, 54, 55, 56, 57, 58, 59, 60, 61, 62, 63, 64, 65, 66, 67, 68, 69, 70, 71, 72, 73, 74, 75, 76, 77, 78, 79, 80, 81, 82, 83, 84, 85, 86, 87, 88, 89, 90, 91, 92, 93, 94, 95, 96, 97, 98, 99, 100, 101, 102, 103, 104, 105, 106, 107, 108, 109, 110, 111, 112, 113, 114, 115, 116, 117, 118, 119, 120, 121, 122, 123, 124, 125, 126, 127, 128, 129, 130, 131, 132, 133, 134, 135, 136, 137, 138, 139, 140, 141, 142, 143, 144, 145, 146, 147, 148, 149, 150, 151, 152, 153, 154, 155, 156, 157, 158, 159, 160, 161, 162, 163, 164, 165, 166, 167, 168, 169, 170, 195, 196, 197, 198, 199, 200, 189, 190, 191, 192, 193, 194, 201, 202, 203, 204, 205, 206, 207, 208, 209, 210, 211, 212, 213, 214] rfl (by decide +kernel)
set_option maxRecDepth 20000 in
theorem gX10_leaf_X0_keepLeaf : GoodIn wsX10_leaf (wsV RX10 198 RX0 yX0_keepLeaf wsX0_keepLeaf) := goodIn_app (goodIn_of _ (by decide +kernel)) ggX10_leaf_X0_keepLeaf
set_option maxRecDepth 20000 in
theorem ggX10_leaf_X0_leafStart : GoodIn wsX10_leaf wsX0_leafStart := goodIn_r _ [173, 39, 40, 23, 41] rfl (by decide +kernel)
set_option maxRecDepth 20000 in
theorem gX10_leaf_X0_leafStart : GoodIn wsX10_leaf (va_wsS RX10 204 yX0_leafStart wsX0_leafStart) := goodIn_app (goodIn_of _ (by decide +kernel)) ggX10_leaf_X0_leafStart
set_option maxRecDepth 20000 in
theorem ggX10_leaf_X7_at : GoodIn wsX10_leaf wsX7_at := goodIn_r _ [116, 47, 72, 209, 210] rfl (by decide +kernel)
set_option maxRecDepth 20000 in
theorem gX10_leaf_X7_at : GoodIn wsX10_leaf (wsV RX10 119 RX7 yX7_at wsX7_at) := goodIn_app (goodIn_of _ (by decide +kernel)) ggX10_leaf_X7_at
theorem dX10_leaf_0 : decode cX10_leaf 0 = .ok (.aload_n 0, 1) := by decide +kernel
theorem dX10_leaf_1 : decode cX10_leaf 1 = .ok (.getfield 42, 3) := by decide +kernel
theorem dX10_leaf_4 : decode cX10_leaf 4 = .ok (.iload_n 1, 1) := by decide +kernel
theorem dX10_leaf_5 : decode cX10_leaf 5 = .ok (.iload_n 2, 1) := by decide +kernel
theorem dX10_leaf_6 : decode cX10_leaf 6 = .ok (.invokevirtual 191, 3) := by decide +kernel
theorem dX10_leaf_9 : decode cX10_leaf 9 = .ok (.ifCond .eq 18, 3) := by decide +kernel
theorem dX10_leaf_12 : decode cX10_leaf 12 = .ok (.iload_n 3, 1) := by decide +kernel
theorem dX10_leaf_13 : decode cX10_leaf 13 = .ok (.ifCond .lt 14, 3) := by decide +kernel
theorem dX10_leaf_16 : decode cX10_leaf 16 = .ok (.iload_n 3, 1) := by decide +kernel
theorem dX10_leaf_17 : decode cX10_leaf 17 = .ok (.aload_n 0, 1) := by decide +kernel
theorem dX10_leaf_18 : decode cX10_leaf 18 = .ok (.getfield 42, 3) := by decide +kernel
theorem dX10_leaf_21 : decode cX10_leaf 21 = .ok (.invokevirtual 195, 3) := by decide +kernel
theorem dX10_leaf_24 : decode cX10_leaf 24 = .ok (.if_icmp .lt 6, 3) := by decide +kernel
theorem dX10_leaf_27 : decode cX10_leaf 27 = .ok (.bipush (-2), 2) := by decide +kernel
theorem dX10_leaf_29 : decode cX10_leaf 29 = .ok (.ireturn, 1) := by decide +kernel
theorem dX10_leaf_30 : decode cX10_leaf 30 = .ok (.iload 4, 2) := by decide +kernel
theorem dX10_leaf_32 : decode cX10_leaf 32 = .ok (.ifCond .lt 15, 3) := by decide +kernel
theorem dX10_leaf_35 : decode cX10_leaf 35 = .ok (.iload 4, 2) := by decide +kernel
theorem dX10_leaf_37 : decode cX10_leaf 37 = .ok (.aload_n 0, 1) := by decide +kernel
theorem dX10_leaf_38 : decode cX10_leaf 38 = .ok (.getfield 42, 3) := by decide +kernel
theorem dX10_leaf_41 : decode cX10_leaf 41 = .ok (.getfield 162, 3) := by decide +kernel
theorem dX10_leaf_44 : decode cX10_leaf 44 = .ok (.if_icmp .lt 6, 3) := by decide +kernel
theorem dX10_leaf_47 : decode cX10_leaf 47 = .ok (.bipush (-9), 2) := by decide +kernel
theorem dX10_leaf_49 : decode cX10_leaf 49 = .ok (.ireturn, 1) := by decide +kernel
theorem dX10_leaf_50 : decode cX10_leaf 50 = .ok (.aload_n 0, 1) := by decide +kernel
theorem dX10_leaf_51 : decode cX10_leaf 51 = .ok (.getfield 60, 3) := by decide +kernel
theorem dX10_leaf_54 : decode cX10_leaf 54 = .ok (.iload_n 1, 1) := by decide +kernel
theorem dX10_leaf_55 : decode cX10_leaf 55 = .ok (.iload_n 2, 1) := by decide +kernel
theorem dX10_leaf_56 : decode cX10_leaf 56 = .ok (.iload_n 3, 1) := by decide +kernel
theorem dX10_leaf_57 : decode cX10_leaf 57 = .ok (.invokevirtual 198, 3) := by decide +kernel
theorem dX10_leaf_60 : decode cX10_leaf 60 = .ok (.aload_n 0, 1) := by decide +kernel
theorem dX10_leaf_61 : decode cX10_leaf 61 = .ok (.getfield 60, 3) := by decide +kernel
theorem dX10_leaf_64 : decode cX10_leaf 64 = .ok (.getfield 202, 3) := by decide +kernel
theorem dX10_leaf_67 : decode cX10_leaf 67 = .ok (.iload_n 1, 1) := by decide +kernel
theorem dX10_leaf_68 : decode cX10_leaf 68 = .ok (.iload_n 2, 1) := by decide +kernel
theorem dX10_leaf_69 : decode cX10_leaf 69 = .ok (.iload_n 3, 1) := by decide +kernel
theorem dX10_leaf_70 : decode cX10_leaf 70 = .ok (.invokestatic 204, 3) := by decide +kernel
theorem dX10_leaf_73 : decode cX10_leaf 73 = .ok (.iload 4, 2) := by decide +kernel
theorem dX10_leaf_75 : decode cX10_leaf 75 = .ok (.iadd, 1) := by decide +kernel
theorem dX10_leaf_76 : decode cX10_leaf 76 = .ok (.invokevirtual 119, 3) := by decide +kernel
theorem dX10_leaf_79 : decode cX10_leaf 79 = .ok (.ireturn, 1) := by decide +kernel
set_option maxRecDepth 20000 in
theorem ggX10_told_X8_size : GoodIn wsX10_told wsX8_size := goodIn_r _ [10, 11, 12, 13, 14, 15, 16, 9, 17, 18, 19, 20, 21, 22, 23, 47, 48, 49, 50, 51, 52] rfl (by decide +kernel)
set_option maxRecDepth 20000 in
theorem gX10_told_X8_size : GoodIn wsX10_told (wsV RX10 137 RX8 yX8_size wsX8_size) := goodIn_app (goodIn_of _ (by decide +kernel)) ggX10_told_X8_size
set_option maxRecDepth 20000 in
theorem ggX10_told_X8_len : GoodIn wsX10_told wsX8_len := goodIn_r _ [23, 11, 47, 48, 49, 50, 51, 52] rfl (by decide +kernel)
set_option maxRecDepth 20000 in
theorem gX10_told_X8_len : GoodIn wsX10_told (wsV RX10 208 RX8 yX8_len wsX8_len) := goodIn_app (goodIn_of _ (by decide +kernel)) ggX10_told_X8_len
set_option maxRecDepth 20000 in
theorem ggX10_told_X10_hasKey : GoodIn wsX10_told wsX10_hasKey := goodIn_r _ [29, 30, 2, 31, 32, 33, 34, 35, 36, 37, 38, 39, 40, 41, 42, 43, 44, 45, 46] rfl (by decide +kernel)
set_option maxRecDepth 20000 in
theorem gX10_told_X10_hasKey : GoodIn wsX10_told (wsV RX10 169 RX10 yX10_hasKey wsX10_hasKey) := goodIn_app (goodIn_of _ (by decide +kernel)) ggX10_told_X10_hasKey
theorem dX10_told_0 : decode cX10_told 0 = .ok (.iload_n 1, 1) := by decide +kernel
theorem dX10_told_1 : decode cX10_told 1 = .ok (.tableswitch 92 0 5 #[39, 47, 55, 63, 71, 79], 39) := by decide +kernel
theorem dX10_told_40 : decode cX10_told 40 = .ok (.aload_n 0, 1) := by decide +kernel
theorem dX10_told_41 : decode cX10_told 41 = .ok (.getfield 14, 3) := by decide +kernel
theorem dX10_told_44 : decode cX10_told 44 = .ok (.getfield 95, 3) := by decide +kernel
theorem dX10_told_47 : decode cX10_told 47 = .ok (.ireturn, 1) := by decide +kernel
theorem dX10_told_48 : decode cX10_told 48 = .ok (.aload_n 0, 1) := by decide +kernel
theorem dX10_told_49 : decode cX10_told 49 = .ok (.getfield 30, 3) := by decide +kernel
theorem dX10_told_52 : decode cX10_told 52 = .ok (.getfield 95, 3) := by decide +kernel
theorem dX10_told_55 : decode cX10_told 55 = .ok (.ireturn, 1) := by decide +kernel
theorem dX10_told_56 : decode cX10_told 56 = .ok (.aload_n 0, 1) := by decide +kernel
theorem dX10_told_57 : decode cX10_told 57 = .ok (.getfield 42, 3) := by decide +kernel
theorem dX10_told_60 : decode cX10_told 60 = .ok (.invokevirtual 137, 3) := by decide +kernel
theorem dX10_told_63 : decode cX10_told 63 = .ok (.ireturn, 1) := by decide +kernel
theorem dX10_told_64 : decode cX10_told 64 = .ok (.aload_n 0, 1) := by decide +kernel
theorem dX10_told_65 : decode cX10_told 65 = .ok (.getfield 42, 3) := by decide +kernel
theorem dX10_told_68 : decode cX10_told 68 = .ok (.invokevirtual 208, 3) := by decide +kernel
theorem dX10_told_71 : decode cX10_told 71 = .ok (.ireturn, 1) := by decide +kernel
theorem dX10_told_72 : decode cX10_told 72 = .ok (.aload_n 0, 1) := by decide +kernel
theorem dX10_told_73 : decode cX10_told 73 = .ok (.getfield 42, 3) := by decide +kernel
theorem dX10_told_76 : decode cX10_told 76 = .ok (.getfield 162, 3) := by decide +kernel
theorem dX10_told_79 : decode cX10_told 79 = .ok (.ireturn, 1) := by decide +kernel
theorem dX10_told_80 : decode cX10_told 80 = .ok (.aload_n 0, 1) := by decide +kernel
theorem dX10_told_81 : decode cX10_told 81 = .ok (.invokevirtual 169, 3) := by decide +kernel
theorem dX10_told_84 : decode cX10_told 84 = .ok (.ifCond .eq 7, 3) := by decide +kernel
theorem dX10_told_87 : decode cX10_told 87 = .ok (.iconst 1, 1) := by decide +kernel
theorem dX10_told_88 : decode cX10_told 88 = .ok (.goto 4, 3) := by decide +kernel
theorem dX10_told_91 : decode cX10_told 91 = .ok (.iconst 0, 1) := by decide +kernel
theorem dX10_told_92 : decode cX10_told 92 = .ok (.ireturn, 1) := by decide +kernel
theorem dX10_told_93 : decode cX10_told 93 = .ok (.bipush (-2), 2) := by decide +kernel
theorem dX10_told_95 : decode cX10_told 95 = .ok (.ireturn, 1) := by decide +kernel
set_option maxHeartbeats 4000000 in
set_option maxRecDepth 100000 in
/-- Shape.fits -/
theorem c_fitsT (l : Launch) (g : jG) (fm : Nat) (nn : Nat) (ht : Nat) (lys : Nat) (fa : Nat) (mk : Nat) (hfm : fm < 2) (hnn4 : nn = 4 ∨ nn = 8 ∨ nn = 12 ∨ nn = 16) (hht : 1 ≤ ht ∧ ht ≤ 2) (hlys : 1 ≤ lys ∧ lys ≤ 2) (hfa : 1 ≤ fa ∧ fa ≤ 4) (hmk : 1 ≤ mk ∧ mk ≤ 6) : jC l g yX8_fits wsX8_fits ({ frames := 1, cells := 0, slots := 0, locals := 22 } : Room) [.int (nI fm), .int (nI nn), .int (nI ht), .int (nI lys), .int (nI fa), .int (nI mk)] [] (fun jj : Unit => some (.int (nI 1))) (fun jj : Unit => True) (fun jj : Unit => []) := by
  refine jC.of (cc := cX8_fits) (own := RX8) (maxL := 6) (ret := (some .boolean)) (by decide +kernel) rfl rfl (Nat.le_of_ble_eq_true rfl) (fun u hu => ⟨_, rfl, by decide⟩) ?_
  intro p e s m below meth c A Q hX hret
  refine j_iload_n hX 0 dX8_fits_0 rfl ?_
  refine j_iconst hX (0) dX8_fits_1 (by decide) ?_
  refine j_iconst hX (1) dX8_fits_2 (by decide) ?_
  refine j_callS2 hX 3 (c_isWithin l g (nI fm) 0 1 ) gX8_fits_X8_isWithin (by decide +kernel) rfl ⟨rfl, rfl⟩ ⟨Nat.le_of_ble_eq_true rfl, Nat.le_of_ble_eq_true rfl⟩ [] [] 0 rfl (by decide) (fun jj : Unit => []) (fun _ => rfl) (by decide) [] rfl (fun _ => rfl) (fun _ => rfl) [] rfl (fun _ => rfl) rfl [] rfl (Nat.le_of_ble_eq_true rfl) ⟨Nat.le_refl _, Nat.le_refl _⟩ dX8_fits_3 ?_
  intro _ hu_1
  refine j_w [] rfl ?_
  refine j_st [.int (if wiB (nI fm) 0 1 then 1 else 0)] rfl ?_
  refine j_topeq _ (nI 1) (wiN 0 1 (by omega) (by omega) (by decide)) ?_
  refine j_if_eqN hX 1 75 dX8_fits_6 (by decide) (by omega) (fun b_6 => absurd b_6 (by omega)) (fun b_6 => ?_)
  refine j_iload_n hX 1 dX8_fits_9 rfl ?_
  refine j_iconst hX (4) dX8_fits_10 (by decide) ?_
  refine j_pc 11 rfl ?_
  refine j_icmp_eqN hX nn 4 32 dX8_fits_11 (by decide) (by omega) (by omega) (fun b_11 => ?_) (fun b_11 => ?_)
  · skip
    refine j_iload_n hX 2 dX8_fits_32 rfl ?_
    refine j_iconst hX (1) dX8_fits_33 (by decide) ?_
    refine j_iconst hX (2) dX8_fits_34 (by decide) ?_
    refine j_callS2 hX 3 (c_isWithin l g (nI ht) 1 2 ) gX8_fits_X8_isWithin (by decide +kernel) rfl ⟨rfl, rfl⟩ ⟨Nat.le_of_ble_eq_true rfl, Nat.le_of_ble_eq_true rfl⟩ [] [] 0 rfl (by decide) (fun jj : Unit => []) (fun _ => rfl) (by decide) [] rfl (fun _ => rfl) (fun _ => rfl) [] rfl (fun _ => rfl) rfl [] rfl (Nat.le_of_ble_eq_true rfl) ⟨Nat.le_refl _, Nat.le_refl _⟩ dX8_fits_35 ?_
    intro _ hu_2
    refine j_w [] rfl ?_
    refine j_st [.int (if wiB (nI ht) 1 2 then 1 else 0)] rfl ?_
    refine j_topeq _ (nI 1) (wiN 1 2 (by omega) (by omega) (by decide)) ?_
    refine j_if_eqN hX 1 75 dX8_fits_38 (by decide) (by omega) (fun b_38 => absurd b_38 (by omega)) (fun b_38 => ?_)
    refine j_iload_n hX 3 dX8_fits_41 rfl ?_
    refine j_iconst hX (1) dX8_fits_42 (by decide) ?_
    refine j_pc 43 rfl ?_
    refine j_iconst hX (2) dX8_fits_43 (by decide) ?_
    refine j_callS2 hX 3 (c_isWithin l g (nI lys) 1 2 ) gX8_fits_X8_isWithin (by decide +kernel) rfl ⟨rfl, rfl⟩ ⟨Nat.le_of_ble_eq_true rfl, Nat.le_of_ble_eq_true rfl⟩ [] [] 0 rfl (by decide) (fun jj : Unit => []) (fun _ => rfl) (by decide) [] rfl (fun _ => rfl) (fun _ => rfl) [] rfl (fun _ => rfl) rfl [] rfl (Nat.le_of_ble_eq_true rfl) ⟨Nat.le_refl _, Nat.le_refl _⟩ dX8_fits_44 ?_
    intro _ hu_3
    refine j_w [] rfl ?_
    refine j_st [.int (if wiB (nI lys) 1 2 then 1 else 0)] rfl ?_
    refine j_topeq _ (nI 1) (wiN 1 2 (by omega) (by omega) (by decide)) ?_
    refine j_if_eqN hX 1 75 dX8_fits_47 (by decide) (by omega) (fun b_47 => absurd b_47 (by omega)) (fun b_47 => ?_)
    refine j_iload hX 4 dX8_fits_50 rfl ?_
    refine j_iconst hX (1) dX8_fits_52 (by decide) ?_
    refine j_iconst hX (4) dX8_fits_53 (by decide) ?_
    refine j_callS2 hX 3 (c_isWithin l g (nI fa) 1 4 ) gX8_fits_X8_isWithin (by decide +kernel) rfl ⟨rfl, rfl⟩ ⟨Nat.le_of_ble_eq_true rfl, Nat.le_of_ble_eq_true rfl⟩ [] [] 0 rfl (by decide) (fun jj : Unit => []) (fun _ => rfl) (by decide) [] rfl (fun _ => rfl) (fun _ => rfl) [] rfl (fun _ => rfl) rfl [] rfl (Nat.le_of_ble_eq_true rfl) ⟨Nat.le_refl _, Nat.le_refl _⟩ dX8_fits_54 ?_
    intro _ hu_4
    refine j_w [] rfl ?_
    refine j_st [.int (if wiB (nI fa) 1 4 then 1 else 0)] rfl ?_
    refine j_topeq _ (nI 1) (wiN 1 4 (by omega) (by omega) (by decide)) ?_
    refine j_if_eqN hX 1 75 dX8_fits_57 (by decide) (by omega) (fun b_57 => absurd b_57 (by omega)) (fun b_57 => ?_)
    refine j_pc 60 rfl ?_
    refine j_iload hX 5 dX8_fits_60 rfl ?_
    refine j_iconst hX (1) dX8_fits_62 (by decide) ?_
    refine j_bipush hX (6) dX8_fits_63 (by decide) ?_
    refine j_callS2 hX 3 (c_isWithin l g (nI mk) 1 6 ) gX8_fits_X8_isWithin (by decide +kernel) rfl ⟨rfl, rfl⟩ ⟨Nat.le_of_ble_eq_true rfl, Nat.le_of_ble_eq_true rfl⟩ [] [] 0 rfl (by decide) (fun jj : Unit => []) (fun _ => rfl) (by decide) [] rfl (fun _ => rfl) (fun _ => rfl) [] rfl (fun _ => rfl) rfl [] rfl (Nat.le_of_ble_eq_true rfl) ⟨Nat.le_refl _, Nat.le_refl _⟩ dX8_fits_65 ?_
    intro _ hu_5
    refine j_w [] rfl ?_
    refine j_st [.int (if wiB (nI mk) 1 6 then 1 else 0)] rfl ?_
    refine j_topeq _ (nI 1) (wiN 1 6 (by omega) (by omega) (by decide)) ?_
    refine j_if_eqN hX 1 75 dX8_fits_68 (by decide) (by omega) (fun b_68 => absurd b_68 (by omega)) (fun b_68 => ?_)
    refine j_iconst hX (1) dX8_fits_71 (by decide) ?_
    refine j_goto hX 76 dX8_fits_72 (by decide) ?_
    exact hret () trivial 76 _ .ireturn dX8_fits_76 rfl
  · skip
    refine j_pc 14 rfl ?_
    refine j_iload_n hX 1 dX8_fits_14 rfl ?_
    refine j_bipush hX (8) dX8_fits_15 (by decide) ?_
    refine j_icmp_eqN hX nn 8 32 dX8_fits_17 (by decide) (by omega) (by omega) (fun b_17 => ?_) (fun b_17 => ?_)
    · skip
      refine j_iload_n hX 2 dX8_fits_32 rfl ?_
      refine j_iconst hX (1) dX8_fits_33 (by decide) ?_
      refine j_iconst hX (2) dX8_fits_34 (by decide) ?_
      refine j_callS2 hX 3 (c_isWithin l g (nI ht) 1 2 ) gX8_fits_X8_isWithin (by decide +kernel) rfl ⟨rfl, rfl⟩ ⟨Nat.le_of_ble_eq_true rfl, Nat.le_of_ble_eq_true rfl⟩ [] [] 0 rfl (by decide) (fun jj : Unit => []) (fun _ => rfl) (by decide) [] rfl (fun _ => rfl) (fun _ => rfl) [] rfl (fun _ => rfl) rfl [] rfl (Nat.le_of_ble_eq_true rfl) ⟨Nat.le_refl _, Nat.le_refl _⟩ dX8_fits_35 ?_
      intro _ hu_6
      refine j_w [] rfl ?_
      refine j_st [.int (if wiB (nI ht) 1 2 then 1 else 0)] rfl ?_
      refine j_topeq _ (nI 1) (wiN 1 2 (by omega) (by omega) (by decide)) ?_
      refine j_if_eqN hX 1 75 dX8_fits_38 (by decide) (by omega) (fun b_38 => absurd b_38 (by omega)) (fun b_38 => ?_)
      refine j_pc 41 rfl ?_
      refine j_iload_n hX 3 dX8_fits_41 rfl ?_
      refine j_iconst hX (1) dX8_fits_42 (by decide) ?_
      refine j_iconst hX (2) dX8_fits_43 (by decide) ?_
      refine j_callS2 hX 3 (c_isWithin l g (nI lys) 1 2 ) gX8_fits_X8_isWithin (by decide +kernel) rfl ⟨rfl, rfl⟩ ⟨Nat.le_of_ble_eq_true rfl, Nat.le_of_ble_eq_true rfl⟩ [] [] 0 rfl (by decide) (fun jj : Unit => []) (fun _ => rfl) (by decide) [] rfl (fun _ => rfl) (fun _ => rfl) [] rfl (fun _ => rfl) rfl [] rfl (Nat.le_of_ble_eq_true rfl) ⟨Nat.le_refl _, Nat.le_refl _⟩ dX8_fits_44 ?_
      intro _ hu_7
      refine j_w [] rfl ?_
      refine j_st [.int (if wiB (nI lys) 1 2 then 1 else 0)] rfl ?_
      refine j_topeq _ (nI 1) (wiN 1 2 (by omega) (by omega) (by decide)) ?_
      refine j_if_eqN hX 1 75 dX8_fits_47 (by decide) (by omega) (fun b_47 => absurd b_47 (by omega)) (fun b_47 => ?_)
      refine j_iload hX 4 dX8_fits_50 rfl ?_
      refine j_iconst hX (1) dX8_fits_52 (by decide) ?_
      refine j_iconst hX (4) dX8_fits_53 (by decide) ?_
      refine j_pc 54 rfl ?_
      refine j_callS2 hX 3 (c_isWithin l g (nI fa) 1 4 ) gX8_fits_X8_isWithin (by decide +kernel) rfl ⟨rfl, rfl⟩ ⟨Nat.le_of_ble_eq_true rfl, Nat.le_of_ble_eq_true rfl⟩ [] [] 0 rfl (by decide) (fun jj : Unit => []) (fun _ => rfl) (by decide) [] rfl (fun _ => rfl) (fun _ => rfl) [] rfl (fun _ => rfl) rfl [] rfl (Nat.le_of_ble_eq_true rfl) ⟨Nat.le_refl _, Nat.le_refl _⟩ dX8_fits_54 ?_
      intro _ hu_8
      refine j_w [] rfl ?_
      refine j_st [.int (if wiB (nI fa) 1 4 then 1 else 0)] rfl ?_
      refine j_topeq _ (nI 1) (wiN 1 4 (by omega) (by omega) (by decide)) ?_
      refine j_if_eqN hX 1 75 dX8_fits_57 (by decide) (by omega) (fun b_57 => absurd b_57 (by omega)) (fun b_57 => ?_)
      refine j_iload hX 5 dX8_fits_60 rfl ?_
      refine j_iconst hX (1) dX8_fits_62 (by decide) ?_
      refine j_bipush hX (6) dX8_fits_63 (by decide) ?_
      refine j_callS2 hX 3 (c_isWithin l g (nI mk) 1 6 ) gX8_fits_X8_isWithin (by decide +kernel) rfl ⟨rfl, rfl⟩ ⟨Nat.le_of_ble_eq_true rfl, Nat.le_of_ble_eq_true rfl⟩ [] [] 0 rfl (by decide) (fun jj : Unit => []) (fun _ => rfl) (by decide) [] rfl (fun _ => rfl) (fun _ => rfl) [] rfl (fun _ => rfl) rfl [] rfl (Nat.le_of_ble_eq_true rfl) ⟨Nat.le_refl _, Nat.le_refl _⟩ dX8_fits_65 ?_
      intro _ hu_9
      refine j_w [] rfl ?_
      refine j_st [.int (if wiB (nI mk) 1 6 then 1 else 0)] rfl ?_
      refine j_topeq _ (nI 1) (wiN 1 6 (by omega) (by omega) (by decide)) ?_
      refine j_if_eqN hX 1 75 dX8_fits_68 (by decide) (by omega) (fun b_68 => absurd b_68 (by omega)) (fun b_68 => ?_)
      refine j_iconst hX (1) dX8_fits_71 (by decide) ?_
      refine j_pc 72 rfl ?_
      refine j_goto hX 76 dX8_fits_72 (by decide) ?_
      exact hret () trivial 76 _ .ireturn dX8_fits_76 rfl
    · skip
      refine j_iload_n hX 1 dX8_fits_20 rfl ?_
      refine j_bipush hX (12) dX8_fits_21 (by decide) ?_
      refine j_icmp_eqN hX nn 12 32 dX8_fits_23 (by decide) (by omega) (by omega) (fun b_23 => ?_) (fun b_23 => ?_)
      · skip
        refine j_iload_n hX 2 dX8_fits_32 rfl ?_
        refine j_iconst hX (1) dX8_fits_33 (by decide) ?_
        refine j_iconst hX (2) dX8_fits_34 (by decide) ?_
        refine j_pc 35 rfl ?_
        refine j_callS2 hX 3 (c_isWithin l g (nI ht) 1 2 ) gX8_fits_X8_isWithin (by decide +kernel) rfl ⟨rfl, rfl⟩ ⟨Nat.le_of_ble_eq_true rfl, Nat.le_of_ble_eq_true rfl⟩ [] [] 0 rfl (by decide) (fun jj : Unit => []) (fun _ => rfl) (by decide) [] rfl (fun _ => rfl) (fun _ => rfl) [] rfl (fun _ => rfl) rfl [] rfl (Nat.le_of_ble_eq_true rfl) ⟨Nat.le_refl _, Nat.le_refl _⟩ dX8_fits_35 ?_
        intro _ hu_10
        refine j_w [] rfl ?_
        refine j_st [.int (if wiB (nI ht) 1 2 then 1 else 0)] rfl ?_
        refine j_topeq _ (nI 1) (wiN 1 2 (by omega) (by omega) (by decide)) ?_
        refine j_if_eqN hX 1 75 dX8_fits_38 (by decide) (by omega) (fun b_38 => absurd b_38 (by omega)) (fun b_38 => ?_)
        refine j_iload_n hX 3 dX8_fits_41 rfl ?_
        refine j_iconst hX (1) dX8_fits_42 (by decide) ?_
        refine j_iconst hX (2) dX8_fits_43 (by decide) ?_
        refine j_callS2 hX 3 (c_isWithin l g (nI lys) 1 2 ) gX8_fits_X8_isWithin (by decide +kernel) rfl ⟨rfl, rfl⟩ ⟨Nat.le_of_ble_eq_true rfl, Nat.le_of_ble_eq_true rfl⟩ [] [] 0 rfl (by decide) (fun jj : Unit => []) (fun _ => rfl) (by decide) [] rfl (fun _ => rfl) (fun _ => rfl) [] rfl (fun _ => rfl) rfl [] rfl (Nat.le_of_ble_eq_true rfl) ⟨Nat.le_refl _, Nat.le_refl _⟩ dX8_fits_44 ?_
        intro _ hu_11
        refine j_w [] rfl ?_
        refine j_st [.int (if wiB (nI lys) 1 2 then 1 else 0)] rfl ?_
        refine j_topeq _ (nI 1) (wiN 1 2 (by omega) (by omega) (by decide)) ?_
        refine j_if_eqN hX 1 75 dX8_fits_47 (by decide) (by omega) (fun b_47 => absurd b_47 (by omega)) (fun b_47 => ?_)
        refine j_iload hX 4 dX8_fits_50 rfl ?_
        refine j_pc 52 rfl ?_
        refine j_iconst hX (1) dX8_fits_52 (by decide) ?_
        refine j_iconst hX (4) dX8_fits_53 (by decide) ?_
        refine j_callS2 hX 3 (c_isWithin l g (nI fa) 1 4 ) gX8_fits_X8_isWithin (by decide +kernel) rfl ⟨rfl, rfl⟩ ⟨Nat.le_of_ble_eq_true rfl, Nat.le_of_ble_eq_true rfl⟩ [] [] 0 rfl (by decide) (fun jj : Unit => []) (fun _ => rfl) (by decide) [] rfl (fun _ => rfl) (fun _ => rfl) [] rfl (fun _ => rfl) rfl [] rfl (Nat.le_of_ble_eq_true rfl) ⟨Nat.le_refl _, Nat.le_refl _⟩ dX8_fits_54 ?_
        intro _ hu_12
        refine j_w [] rfl ?_
        refine j_st [.int (if wiB (nI fa) 1 4 then 1 else 0)] rfl ?_
        refine j_topeq _ (nI 1) (wiN 1 4 (by omega) (by omega) (by decide)) ?_
        refine j_if_eqN hX 1 75 dX8_fits_57 (by decide) (by omega) (fun b_57 => absurd b_57 (by omega)) (fun b_57 => ?_)
        refine j_iload hX 5 dX8_fits_60 rfl ?_
        refine j_iconst hX (1) dX8_fits_62 (by decide) ?_
        refine j_bipush hX (6) dX8_fits_63 (by decide) ?_
        refine j_callS2 hX 3 (c_isWithin l g (nI mk) 1 6 ) gX8_fits_X8_isWithin (by decide +kernel) rfl ⟨rfl, rfl⟩ ⟨Nat.le_of_ble_eq_true rfl, Nat.le_of_ble_eq_true rfl⟩ [] [] 0 rfl (by decide) (fun jj : Unit => []) (fun _ => rfl) (by decide) [] rfl (fun _ => rfl) (fun _ => rfl) [] rfl (fun _ => rfl) rfl [] rfl (Nat.le_of_ble_eq_true rfl) ⟨Nat.le_refl _, Nat.le_refl _⟩ dX8_fits_65 ?_
        intro _ hu_13
        refine j_w [] rfl ?_
        refine j_st [.int (if wiB (nI mk) 1 6 then 1 else 0)] rfl ?_
        refine j_topeq _ (nI 1) (wiN 1 6 (by omega) (by omega) (by decide)) ?_
        refine j_pc 68 rfl ?_
        refine j_if_eqN hX 1 75 dX8_fits_68 (by decide) (by omega) (fun b_68 => absurd b_68 (by omega)) (fun b_68 => ?_)
        refine j_iconst hX (1) dX8_fits_71 (by decide) ?_
        refine j_goto hX 76 dX8_fits_72 (by decide) ?_
        exact hret () trivial 76 _ .ireturn dX8_fits_76 rfl
      · skip
        refine j_iload_n hX 1 dX8_fits_26 rfl ?_
        refine j_bipush hX (16) dX8_fits_27 (by decide) ?_
        refine j_icmp_neN hX nn 16 75 dX8_fits_29 (by decide) (by omega) (by omega) (fun b_29 => ?_) (fun b_29 => ?_)
        · skip
          omega
        · skip
          refine j_iload_n hX 2 dX8_fits_32 rfl ?_
          refine j_pc 33 rfl ?_
          refine j_iconst hX (1) dX8_fits_33 (by decide) ?_
          refine j_iconst hX (2) dX8_fits_34 (by decide) ?_
          refine j_callS2 hX 3 (c_isWithin l g (nI ht) 1 2 ) gX8_fits_X8_isWithin (by decide +kernel) rfl ⟨rfl, rfl⟩ ⟨Nat.le_of_ble_eq_true rfl, Nat.le_of_ble_eq_true rfl⟩ [] [] 0 rfl (by decide) (fun jj : Unit => []) (fun _ => rfl) (by decide) [] rfl (fun _ => rfl) (fun _ => rfl) [] rfl (fun _ => rfl) rfl [] rfl (Nat.le_of_ble_eq_true rfl) ⟨Nat.le_refl _, Nat.le_refl _⟩ dX8_fits_35 ?_
          intro _ hu_14
          refine j_w [] rfl ?_
          refine j_st [.int (if wiB (nI ht) 1 2 then 1 else 0)] rfl ?_
          refine j_topeq _ (nI 1) (wiN 1 2 (by omega) (by omega) (by decide)) ?_
          refine j_if_eqN hX 1 75 dX8_fits_38 (by decide) (by omega) (fun b_38 => absurd b_38 (by omega)) (fun b_38 => ?_)
          refine j_iload_n hX 3 dX8_fits_41 rfl ?_
          refine j_iconst hX (1) dX8_fits_42 (by decide) ?_
          refine j_iconst hX (2) dX8_fits_43 (by decide) ?_
          refine j_callS2 hX 3 (c_isWithin l g (nI lys) 1 2 ) gX8_fits_X8_isWithin (by decide +kernel) rfl ⟨rfl, rfl⟩ ⟨Nat.le_of_ble_eq_true rfl, Nat.le_of_ble_eq_true rfl⟩ [] [] 0 rfl (by decide) (fun jj : Unit => []) (fun _ => rfl) (by decide) [] rfl (fun _ => rfl) (fun _ => rfl) [] rfl (fun _ => rfl) rfl [] rfl (Nat.le_of_ble_eq_true rfl) ⟨Nat.le_refl _, Nat.le_refl _⟩ dX8_fits_44 ?_
          intro _ hu_15
          refine j_w [] rfl ?_
          refine j_st [.int (if wiB (nI lys) 1 2 then 1 else 0)] rfl ?_
          refine j_topeq _ (nI 1) (wiN 1 2 (by omega) (by omega) (by decide)) ?_
          refine j_pc 47 rfl ?_
          refine j_if_eqN hX 1 75 dX8_fits_47 (by decide) (by omega) (fun b_47 => absurd b_47 (by omega)) (fun b_47 => ?_)
          refine j_iload hX 4 dX8_fits_50 rfl ?_
          refine j_iconst hX (1) dX8_fits_52 (by decide) ?_
          refine j_iconst hX (4) dX8_fits_53 (by decide) ?_
          refine j_callS2 hX 3 (c_isWithin l g (nI fa) 1 4 ) gX8_fits_X8_isWithin (by decide +kernel) rfl ⟨rfl, rfl⟩ ⟨Nat.le_of_ble_eq_true rfl, Nat.le_of_ble_eq_true rfl⟩ [] [] 0 rfl (by decide) (fun jj : Unit => []) (fun _ => rfl) (by decide) [] rfl (fun _ => rfl) (fun _ => rfl) [] rfl (fun _ => rfl) rfl [] rfl (Nat.le_of_ble_eq_true rfl) ⟨Nat.le_refl _, Nat.le_refl _⟩ dX8_fits_54 ?_
          intro _ hu_16
          refine j_w [] rfl ?_
          refine j_st [.int (if wiB (nI fa) 1 4 then 1 else 0)] rfl ?_
          refine j_topeq _ (nI 1) (wiN 1 4 (by omega) (by omega) (by decide)) ?_
          refine j_if_eqN hX 1 75 dX8_fits_57 (by decide) (by omega) (fun b_57 => absurd b_57 (by omega)) (fun b_57 => ?_)
          refine j_iload hX 5 dX8_fits_60 rfl ?_
          refine j_iconst hX (1) dX8_fits_62 (by decide) ?_
          refine j_pc 63 rfl ?_
          refine j_bipush hX (6) dX8_fits_63 (by decide) ?_
          refine j_callS2 hX 3 (c_isWithin l g (nI mk) 1 6 ) gX8_fits_X8_isWithin (by decide +kernel) rfl ⟨rfl, rfl⟩ ⟨Nat.le_of_ble_eq_true rfl, Nat.le_of_ble_eq_true rfl⟩ [] [] 0 rfl (by decide) (fun jj : Unit => []) (fun _ => rfl) (by decide) [] rfl (fun _ => rfl) (fun _ => rfl) [] rfl (fun _ => rfl) rfl [] rfl (Nat.le_of_ble_eq_true rfl) ⟨Nat.le_refl _, Nat.le_refl _⟩ dX8_fits_65 ?_
          intro _ hu_17
          refine j_w [] rfl ?_
          refine j_st [.int (if wiB (nI mk) 1 6 then 1 else 0)] rfl ?_
          refine j_topeq _ (nI 1) (wiN 1 6 (by omega) (by omega) (by decide)) ?_
          refine j_if_eqN hX 1 75 dX8_fits_68 (by decide) (by omega) (fun b_68 => absurd b_68 (by omega)) (fun b_68 => ?_)
          refine j_iconst hX (1) dX8_fits_71 (by decide) ?_
          refine j_goto hX 76 dX8_fits_72 (by decide) ?_
          exact hret () trivial 76 _ .ireturn dX8_fits_76 rfl

set_option maxHeartbeats 4000000 in
set_option maxRecDepth 100000 in
/-- Shape.fits -/
theorem c_fitsF (l : Launch) (g : jG) (x0 : Int32) (x1 : Int32) (x2 : Int32) (x3 : Int32) (x4 : Int32) (x5 : Int32) (hF : ¬ fitP x0 x1 x2 x3 x4 x5) : jC l g yX8_fits wsX8_fits ({ frames := 1, cells := 0, slots := 0, locals := 22 } : Room) [.int x0, .int x1, .int x2, .int x3, .int x4, .int x5] [] (fun jj : Unit => some (.int (nI 0))) (fun jj : Unit => True) (fun jj : Unit => []) := by
  refine jC.of (cc := cX8_fits) (own := RX8) (maxL := 6) (ret := (some .boolean)) (by decide +kernel) rfl rfl (Nat.le_of_ble_eq_true rfl) (fun u hu => ⟨_, rfl, by decide⟩) ?_
  intro p e s m below meth c A Q hX hret
  refine j_iload_n hX 0 dX8_fits_0 rfl ?_
  refine j_iconst hX (0) dX8_fits_1 (by decide) ?_
  refine j_iconst hX (1) dX8_fits_2 (by decide) ?_
  refine j_callS2 hX 3 (c_isWithin l g x0 0 1 ) gX8_fits_X8_isWithin (by decide +kernel) rfl ⟨rfl, rfl⟩ ⟨Nat.le_of_ble_eq_true rfl, Nat.le_of_ble_eq_true rfl⟩ [] [] 0 rfl (by decide) (fun jj : Unit => []) (fun _ => rfl) (by decide) [] rfl (fun _ => rfl) (fun _ => rfl) [] rfl (fun _ => rfl) rfl [] rfl (Nat.le_of_ble_eq_true rfl) ⟨Nat.le_refl _, Nat.le_refl _⟩ dX8_fits_3 ?_
  intro _ hu_1
  refine j_w [] rfl ?_
  refine j_st [.int (if wiB x0 0 1 then 1 else 0)] rfl ?_
  refine j_if_eq hX 75 dX8_fits_6 (by decide) (fun b_6 => ?_) (fun b_6 => ?_)
  · skip
    refine j_iconst hX (0) dX8_fits_75 (by decide) ?_
    exact hret () trivial 76 _ .ireturn dX8_fits_76 rfl
  · skip
    refine j_pc 9 rfl ?_
    refine j_iload_n hX 1 dX8_fits_9 rfl ?_
    refine j_iconst hX (4) dX8_fits_10 (by decide) ?_
    refine j_icmp_eq hX 32 dX8_fits_11 (by decide) (fun b_11 => ?_) (fun b_11 => ?_)
    · skip
      refine j_iload_n hX 2 dX8_fits_32 rfl ?_
      refine j_iconst hX (1) dX8_fits_33 (by decide) ?_
      refine j_iconst hX (2) dX8_fits_34 (by decide) ?_
      refine j_callS2 hX 3 (c_isWithin l g x2 1 2 ) gX8_fits_X8_isWithin (by decide +kernel) rfl ⟨rfl, rfl⟩ ⟨Nat.le_of_ble_eq_true rfl, Nat.le_of_ble_eq_true rfl⟩ [] [] 0 rfl (by decide) (fun jj : Unit => []) (fun _ => rfl) (by decide) [] rfl (fun _ => rfl) (fun _ => rfl) [] rfl (fun _ => rfl) rfl [] rfl (Nat.le_of_ble_eq_true rfl) ⟨Nat.le_refl _, Nat.le_refl _⟩ dX8_fits_35 ?_
      intro _ hu_2
      refine j_w [] rfl ?_
      refine j_st [.int (if wiB x2 1 2 then 1 else 0)] rfl ?_
      refine j_if_eq hX 75 dX8_fits_38 (by decide) (fun b_38 => ?_) (fun b_38 => ?_)
      · skip
        refine j_pc 75 rfl ?_
        refine j_iconst hX (0) dX8_fits_75 (by decide) ?_
        exact hret () trivial 76 _ .ireturn dX8_fits_76 rfl
      · skip
        refine j_iload_n hX 3 dX8_fits_41 rfl ?_
        refine j_iconst hX (1) dX8_fits_42 (by decide) ?_
        refine j_iconst hX (2) dX8_fits_43 (by decide) ?_
        refine j_callS2 hX 3 (c_isWithin l g x3 1 2 ) gX8_fits_X8_isWithin (by decide +kernel) rfl ⟨rfl, rfl⟩ ⟨Nat.le_of_ble_eq_true rfl, Nat.le_of_ble_eq_true rfl⟩ [] [] 0 rfl (by decide) (fun jj : Unit => []) (fun _ => rfl) (by decide) [] rfl (fun _ => rfl) (fun _ => rfl) [] rfl (fun _ => rfl) rfl [] rfl (Nat.le_of_ble_eq_true rfl) ⟨Nat.le_refl _, Nat.le_refl _⟩ dX8_fits_44 ?_
        intro _ hu_3
        refine j_w [] rfl ?_
        refine j_st [.int (if wiB x3 1 2 then 1 else 0)] rfl ?_
        refine j_if_eq hX 75 dX8_fits_47 (by decide) (fun b_47 => ?_) (fun b_47 => ?_)
        · skip
          refine j_iconst hX (0) dX8_fits_75 (by decide) ?_
          refine j_pc 76 rfl ?_
          exact hret () trivial 76 _ .ireturn dX8_fits_76 rfl
        · skip
          refine j_iload hX 4 dX8_fits_50 rfl ?_
          refine j_iconst hX (1) dX8_fits_52 (by decide) ?_
          refine j_iconst hX (4) dX8_fits_53 (by decide) ?_
          refine j_callS2 hX 3 (c_isWithin l g x4 1 4 ) gX8_fits_X8_isWithin (by decide +kernel) rfl ⟨rfl, rfl⟩ ⟨Nat.le_of_ble_eq_true rfl, Nat.le_of_ble_eq_true rfl⟩ [] [] 0 rfl (by decide) (fun jj : Unit => []) (fun _ => rfl) (by decide) [] rfl (fun _ => rfl) (fun _ => rfl) [] rfl (fun _ => rfl) rfl [] rfl (Nat.le_of_ble_eq_true rfl) ⟨Nat.le_refl _, Nat.le_refl _⟩ dX8_fits_54 ?_
          intro _ hu_4
          refine j_w [] rfl ?_
          refine j_st [.int (if wiB x4 1 4 then 1 else 0)] rfl ?_
          refine j_if_eq hX 75 dX8_fits_57 (by decide) (fun b_57 => ?_) (fun b_57 => ?_)
          · skip
            refine j_iconst hX (0) dX8_fits_75 (by decide) ?_
            exact hret () trivial 76 _ .ireturn dX8_fits_76 rfl
          · skip
            refine j_pc 60 rfl ?_
            refine j_iload hX 5 dX8_fits_60 rfl ?_
            refine j_iconst hX (1) dX8_fits_62 (by decide) ?_
            refine j_bipush hX (6) dX8_fits_63 (by decide) ?_
            refine j_callS2 hX 3 (c_isWithin l g x5 1 6 ) gX8_fits_X8_isWithin (by decide +kernel) rfl ⟨rfl, rfl⟩ ⟨Nat.le_of_ble_eq_true rfl, Nat.le_of_ble_eq_true rfl⟩ [] [] 0 rfl (by decide) (fun jj : Unit => []) (fun _ => rfl) (by decide) [] rfl (fun _ => rfl) (fun _ => rfl) [] rfl (fun _ => rfl) rfl [] rfl (Nat.le_of_ble_eq_true rfl) ⟨Nat.le_refl _, Nat.le_refl _⟩ dX8_fits_65 ?_
            intro _ hu_5
            refine j_w [] rfl ?_
            refine j_st [.int (if wiB x5 1 6 then 1 else 0)] rfl ?_
            refine j_if_eq hX 75 dX8_fits_68 (by decide) (fun b_68 => ?_) (fun b_68 => ?_)
            · skip
              refine j_iconst hX (0) dX8_fits_75 (by decide) ?_
              exact hret () trivial 76 _ .ireturn dX8_fits_76 rfl
            · skip
              exact absurd ⟨wi_of b_6, by first | exact Or.inl b_11 | exact Or.inr (Or.inl b_17) | exact Or.inr (Or.inr (Or.inl b_23)) | exact Or.inr (Or.inr (Or.inr b_29)), wi_of b_38, wi_of b_47, wi_of b_57, wi_of b_68⟩ hF
    · skip
      refine j_iload_n hX 1 dX8_fits_14 rfl ?_
      refine j_pc 15 rfl ?_
      refine j_bipush hX (8) dX8_fits_15 (by decide) ?_
      refine j_icmp_eq hX 32 dX8_fits_17 (by decide) (fun b_17 => ?_) (fun b_17 => ?_)
      · skip
        refine j_iload_n hX 2 dX8_fits_32 rfl ?_
        refine j_iconst hX (1) dX8_fits_33 (by decide) ?_
        refine j_iconst hX (2) dX8_fits_34 (by decide) ?_
        refine j_callS2 hX 3 (c_isWithin l g x2 1 2 ) gX8_fits_X8_isWithin (by decide +kernel) rfl ⟨rfl, rfl⟩ ⟨Nat.le_of_ble_eq_true rfl, Nat.le_of_ble_eq_true rfl⟩ [] [] 0 rfl (by decide) (fun jj : Unit => []) (fun _ => rfl) (by decide) [] rfl (fun _ => rfl) (fun _ => rfl) [] rfl (fun _ => rfl) rfl [] rfl (Nat.le_of_ble_eq_true rfl) ⟨Nat.le_refl _, Nat.le_refl _⟩ dX8_fits_35 ?_
        intro _ hu_6
        refine j_w [] rfl ?_
        refine j_st [.int (if wiB x2 1 2 then 1 else 0)] rfl ?_
        refine j_if_eq hX 75 dX8_fits_38 (by decide) (fun b_38 => ?_) (fun b_38 => ?_)
        · skip
          refine j_iconst hX (0) dX8_fits_75 (by decide) ?_
          refine j_pc 76 rfl ?_
          exact hret () trivial 76 _ .ireturn dX8_fits_76 rfl
        · skip
          refine j_iload_n hX 3 dX8_fits_41 rfl ?_
          refine j_iconst hX (1) dX8_fits_42 (by decide) ?_
          refine j_iconst hX (2) dX8_fits_43 (by decide) ?_
          refine j_callS2 hX 3 (c_isWithin l g x3 1 2 ) gX8_fits_X8_isWithin (by decide +kernel) rfl ⟨rfl, rfl⟩ ⟨Nat.le_of_ble_eq_true rfl, Nat.le_of_ble_eq_true rfl⟩ [] [] 0 rfl (by decide) (fun jj : Unit => []) (fun _ => rfl) (by decide) [] rfl (fun _ => rfl) (fun _ => rfl) [] rfl (fun _ => rfl) rfl [] rfl (Nat.le_of_ble_eq_true rfl) ⟨Nat.le_refl _, Nat.le_refl _⟩ dX8_fits_44 ?_
          intro _ hu_7
          refine j_w [] rfl ?_
          refine j_st [.int (if wiB x3 1 2 then 1 else 0)] rfl ?_
          refine j_if_eq hX 75 dX8_fits_47 (by decide) (fun b_47 => ?_) (fun b_47 => ?_)
          · skip
            refine j_iconst hX (0) dX8_fits_75 (by decide) ?_
            exact hret () trivial 76 _ .ireturn dX8_fits_76 rfl
          · skip
            refine j_pc 50 rfl ?_
            refine j_iload hX 4 dX8_fits_50 rfl ?_
            refine j_iconst hX (1) dX8_fits_52 (by decide) ?_
            refine j_iconst hX (4) dX8_fits_53 (by decide) ?_
            refine j_callS2 hX 3 (c_isWithin l g x4 1 4 ) gX8_fits_X8_isWithin (by decide +kernel) rfl ⟨rfl, rfl⟩ ⟨Nat.le_of_ble_eq_true rfl, Nat.le_of_ble_eq_true rfl⟩ [] [] 0 rfl (by decide) (fun jj : Unit => []) (fun _ => rfl) (by decide) [] rfl (fun _ => rfl) (fun _ => rfl) [] rfl (fun _ => rfl) rfl [] rfl (Nat.le_of_ble_eq_true rfl) ⟨Nat.le_refl _, Nat.le_refl _⟩ dX8_fits_54 ?_
            intro _ hu_8
            refine j_w [] rfl ?_
            refine j_st [.int (if wiB x4 1 4 then 1 else 0)] rfl ?_
            refine j_if_eq hX 75 dX8_fits_57 (by decide) (fun b_57 => ?_) (fun b_57 => ?_)
            · skip
              refine j_iconst hX (0) dX8_fits_75 (by decide) ?_
              exact hret () trivial 76 _ .ireturn dX8_fits_76 rfl
            · skip
              refine j_iload hX 5 dX8_fits_60 rfl ?_
              refine j_pc 62 rfl ?_
              refine j_iconst hX (1) dX8_fits_62 (by decide) ?_
              refine j_bipush hX (6) dX8_fits_63 (by decide) ?_
              refine j_callS2 hX 3 (c_isWithin l g x5 1 6 ) gX8_fits_X8_isWithin (by decide +kernel) rfl ⟨rfl, rfl⟩ ⟨Nat.le_of_ble_eq_true rfl, Nat.le_of_ble_eq_true rfl⟩ [] [] 0 rfl (by decide) (fun jj : Unit => []) (fun _ => rfl) (by decide) [] rfl (fun _ => rfl) (fun _ => rfl) [] rfl (fun _ => rfl) rfl [] rfl (Nat.le_of_ble_eq_true rfl) ⟨Nat.le_refl _, Nat.le_refl _⟩ dX8_fits_65 ?_
              intro _ hu_9
              refine j_w [] rfl ?_
              refine j_st [.int (if wiB x5 1 6 then 1 else 0)] rfl ?_
              refine j_if_eq hX 75 dX8_fits_68 (by decide) (fun b_68 => ?_) (fun b_68 => ?_)
              · skip
                refine j_iconst hX (0) dX8_fits_75 (by decide) ?_
                exact hret () trivial 76 _ .ireturn dX8_fits_76 rfl
              · skip
                exact absurd ⟨wi_of b_6, by first | exact Or.inl b_11 | exact Or.inr (Or.inl b_17) | exact Or.inr (Or.inr (Or.inl b_23)) | exact Or.inr (Or.inr (Or.inr b_29)), wi_of b_38, wi_of b_47, wi_of b_57, wi_of b_68⟩ hF
      · skip
        refine j_iload_n hX 1 dX8_fits_20 rfl ?_
        refine j_bipush hX (12) dX8_fits_21 (by decide) ?_
        refine j_pc 23 rfl ?_
        refine j_icmp_eq hX 32 dX8_fits_23 (by decide) (fun b_23 => ?_) (fun b_23 => ?_)
        · skip
          refine j_iload_n hX 2 dX8_fits_32 rfl ?_
          refine j_iconst hX (1) dX8_fits_33 (by decide) ?_
          refine j_iconst hX (2) dX8_fits_34 (by decide) ?_
          refine j_callS2 hX 3 (c_isWithin l g x2 1 2 ) gX8_fits_X8_isWithin (by decide +kernel) rfl ⟨rfl, rfl⟩ ⟨Nat.le_of_ble_eq_true rfl, Nat.le_of_ble_eq_true rfl⟩ [] [] 0 rfl (by decide) (fun jj : Unit => []) (fun _ => rfl) (by decide) [] rfl (fun _ => rfl) (fun _ => rfl) [] rfl (fun _ => rfl) rfl [] rfl (Nat.le_of_ble_eq_true rfl) ⟨Nat.le_refl _, Nat.le_refl _⟩ dX8_fits_35 ?_
          intro _ hu_10
          refine j_w [] rfl ?_
          refine j_st [.int (if wiB x2 1 2 then 1 else 0)] rfl ?_
          refine j_if_eq hX 75 dX8_fits_38 (by decide) (fun b_38 => ?_) (fun b_38 => ?_)
          · skip
            refine j_iconst hX (0) dX8_fits_75 (by decide) ?_
            exact hret () trivial 76 _ .ireturn dX8_fits_76 rfl
          · skip
            refine j_pc 41 rfl ?_
            refine j_iload_n hX 3 dX8_fits_41 rfl ?_
            refine j_iconst hX (1) dX8_fits_42 (by decide) ?_
            refine j_iconst hX (2) dX8_fits_43 (by decide) ?_
            refine j_callS2 hX 3 (c_isWithin l g x3 1 2 ) gX8_fits_X8_isWithin (by decide +kernel) rfl ⟨rfl, rfl⟩ ⟨Nat.le_of_ble_eq_true rfl, Nat.le_of_ble_eq_true rfl⟩ [] [] 0 rfl (by decide) (fun jj : Unit => []) (fun _ => rfl) (by decide) [] rfl (fun _ => rfl) (fun _ => rfl) [] rfl (fun _ => rfl) rfl [] rfl (Nat.le_of_ble_eq_true rfl) ⟨Nat.le_refl _, Nat.le_refl _⟩ dX8_fits_44 ?_
            intro _ hu_11
            refine j_w [] rfl ?_
            refine j_st [.int (if wiB x3 1 2 then 1 else 0)] rfl ?_
            refine j_if_eq hX 75 dX8_fits_47 (by decide) (fun b_47 => ?_) (fun b_47 => ?_)
            · skip
              refine j_iconst hX (0) dX8_fits_75 (by decide) ?_
              exact hret () trivial 76 _ .ireturn dX8_fits_76 rfl
            · skip
              refine j_iload hX 4 dX8_fits_50 rfl ?_
              refine j_pc 52 rfl ?_
              refine j_iconst hX (1) dX8_fits_52 (by decide) ?_
              refine j_iconst hX (4) dX8_fits_53 (by decide) ?_
              refine j_callS2 hX 3 (c_isWithin l g x4 1 4 ) gX8_fits_X8_isWithin (by decide +kernel) rfl ⟨rfl, rfl⟩ ⟨Nat.le_of_ble_eq_true rfl, Nat.le_of_ble_eq_true rfl⟩ [] [] 0 rfl (by decide) (fun jj : Unit => []) (fun _ => rfl) (by decide) [] rfl (fun _ => rfl) (fun _ => rfl) [] rfl (fun _ => rfl) rfl [] rfl (Nat.le_of_ble_eq_true rfl) ⟨Nat.le_refl _, Nat.le_refl _⟩ dX8_fits_54 ?_
              intro _ hu_12
              refine j_w [] rfl ?_
              refine j_st [.int (if wiB x4 1 4 then 1 else 0)] rfl ?_
              refine j_if_eq hX 75 dX8_fits_57 (by decide) (fun b_57 => ?_) (fun b_57 => ?_)
              · skip
                refine j_iconst hX (0) dX8_fits_75 (by decide) ?_
                exact hret () trivial 76 _ .ireturn dX8_fits_76 rfl
              · skip
                refine j_iload hX 5 dX8_fits_60 rfl ?_
                refine j_iconst hX (1) dX8_fits_62 (by decide) ?_
                refine j_pc 63 rfl ?_
                refine j_bipush hX (6) dX8_fits_63 (by decide) ?_
                refine j_callS2 hX 3 (c_isWithin l g x5 1 6 ) gX8_fits_X8_isWithin (by decide +kernel) rfl ⟨rfl, rfl⟩ ⟨Nat.le_of_ble_eq_true rfl, Nat.le_of_ble_eq_true rfl⟩ [] [] 0 rfl (by decide) (fun jj : Unit => []) (fun _ => rfl) (by decide) [] rfl (fun _ => rfl) (fun _ => rfl) [] rfl (fun _ => rfl) rfl [] rfl (Nat.le_of_ble_eq_true rfl) ⟨Nat.le_refl _, Nat.le_refl _⟩ dX8_fits_65 ?_
                intro _ hu_13
                refine j_w [] rfl ?_
                refine j_st [.int (if wiB x5 1 6 then 1 else 0)] rfl ?_
                refine j_if_eq hX 75 dX8_fits_68 (by decide) (fun b_68 => ?_) (fun b_68 => ?_)
                · skip
                  refine j_iconst hX (0) dX8_fits_75 (by decide) ?_
                  exact hret () trivial 76 _ .ireturn dX8_fits_76 rfl
                · skip
                  exact absurd ⟨wi_of b_6, by first | exact Or.inl b_11 | exact Or.inr (Or.inl b_17) | exact Or.inr (Or.inr (Or.inl b_23)) | exact Or.inr (Or.inr (Or.inr b_29)), wi_of b_38, wi_of b_47, wi_of b_57, wi_of b_68⟩ hF
        · skip
          refine j_iload_n hX 1 dX8_fits_26 rfl ?_
          refine j_bipush hX (16) dX8_fits_27 (by decide) ?_
          refine j_icmp_ne hX 75 dX8_fits_29 (by decide) (fun b_29 => ?_) (fun b_29 => ?_)
          · skip
            refine j_pc 75 rfl ?_
            refine j_iconst hX (0) dX8_fits_75 (by decide) ?_
            exact hret () trivial 76 _ .ireturn dX8_fits_76 rfl
          · skip
            refine j_iload_n hX 2 dX8_fits_32 rfl ?_
            refine j_iconst hX (1) dX8_fits_33 (by decide) ?_
            refine j_iconst hX (2) dX8_fits_34 (by decide) ?_
            refine j_callS2 hX 3 (c_isWithin l g x2 1 2 ) gX8_fits_X8_isWithin (by decide +kernel) rfl ⟨rfl, rfl⟩ ⟨Nat.le_of_ble_eq_true rfl, Nat.le_of_ble_eq_true rfl⟩ [] [] 0 rfl (by decide) (fun jj : Unit => []) (fun _ => rfl) (by decide) [] rfl (fun _ => rfl) (fun _ => rfl) [] rfl (fun _ => rfl) rfl [] rfl (Nat.le_of_ble_eq_true rfl) ⟨Nat.le_refl _, Nat.le_refl _⟩ dX8_fits_35 ?_
            intro _ hu_14
            refine j_w [] rfl ?_
            refine j_st [.int (if wiB x2 1 2 then 1 else 0)] rfl ?_
            refine j_if_eq hX 75 dX8_fits_38 (by decide) (fun b_38 => ?_) (fun b_38 => ?_)
            · skip
              refine j_iconst hX (0) dX8_fits_75 (by decide) ?_
              refine j_pc 76 rfl ?_
              exact hret () trivial 76 _ .ireturn dX8_fits_76 rfl
            · skip
              refine j_iload_n hX 3 dX8_fits_41 rfl ?_
              refine j_iconst hX (1) dX8_fits_42 (by decide) ?_
              refine j_iconst hX (2) dX8_fits_43 (by decide) ?_
              refine j_callS2 hX 3 (c_isWithin l g x3 1 2 ) gX8_fits_X8_isWithin (by decide +kernel) rfl ⟨rfl, rfl⟩ ⟨Nat.le_of_ble_eq_true rfl, Nat.le_of_ble_eq_true rfl⟩ [] [] 0 rfl (by decide) (fun jj : Unit => []) (fun _ => rfl) (by decide) [] rfl (fun _ => rfl) (fun _ => rfl) [] rfl (fun _ => rfl) rfl [] rfl (Nat.le_of_ble_eq_true rfl) ⟨Nat.le_refl _, Nat.le_refl _⟩ dX8_fits_44 ?_
              intro _ hu_15
              refine j_w [] rfl ?_
              refine j_st [.int (if wiB x3 1 2 then 1 else 0)] rfl ?_
              refine j_if_eq hX 75 dX8_fits_47 (by decide) (fun b_47 => ?_) (fun b_47 => ?_)
              · skip
                refine j_iconst hX (0) dX8_fits_75 (by decide) ?_
                exact hret () trivial 76 _ .ireturn dX8_fits_76 rfl
              · skip
                refine j_pc 50 rfl ?_
                refine j_iload hX 4 dX8_fits_50 rfl ?_
                refine j_iconst hX (1) dX8_fits_52 (by decide) ?_
                refine j_iconst hX (4) dX8_fits_53 (by decide) ?_
                refine j_callS2 hX 3 (c_isWithin l g x4 1 4 ) gX8_fits_X8_isWithin (by decide +kernel) rfl ⟨rfl, rfl⟩ ⟨Nat.le_of_ble_eq_true rfl, Nat.le_of_ble_eq_true rfl⟩ [] [] 0 rfl (by decide) (fun jj : Unit => []) (fun _ => rfl) (by decide) [] rfl (fun _ => rfl) (fun _ => rfl) [] rfl (fun _ => rfl) rfl [] rfl (Nat.le_of_ble_eq_true rfl) ⟨Nat.le_refl _, Nat.le_refl _⟩ dX8_fits_54 ?_
                intro _ hu_16
                refine j_w [] rfl ?_
                refine j_st [.int (if wiB x4 1 4 then 1 else 0)] rfl ?_
                refine j_if_eq hX 75 dX8_fits_57 (by decide) (fun b_57 => ?_) (fun b_57 => ?_)
                · skip
                  refine j_iconst hX (0) dX8_fits_75 (by decide) ?_
                  exact hret () trivial 76 _ .ireturn dX8_fits_76 rfl
                · skip
                  refine j_iload hX 5 dX8_fits_60 rfl ?_
                  refine j_pc 62 rfl ?_
                  refine j_iconst hX (1) dX8_fits_62 (by decide) ?_
                  refine j_bipush hX (6) dX8_fits_63 (by decide) ?_
                  refine j_callS2 hX 3 (c_isWithin l g x5 1 6 ) gX8_fits_X8_isWithin (by decide +kernel) rfl ⟨rfl, rfl⟩ ⟨Nat.le_of_ble_eq_true rfl, Nat.le_of_ble_eq_true rfl⟩ [] [] 0 rfl (by decide) (fun jj : Unit => []) (fun _ => rfl) (by decide) [] rfl (fun _ => rfl) (fun _ => rfl) [] rfl (fun _ => rfl) rfl [] rfl (Nat.le_of_ble_eq_true rfl) ⟨Nat.le_refl _, Nat.le_refl _⟩ dX8_fits_65 ?_
                  intro _ hu_17
                  refine j_w [] rfl ?_
                  refine j_st [.int (if wiB x5 1 6 then 1 else 0)] rfl ?_
                  refine j_if_eq hX 75 dX8_fits_68 (by decide) (fun b_68 => ?_) (fun b_68 => ?_)
                  · skip
                    refine j_iconst hX (0) dX8_fits_75 (by decide) ?_
                    exact hret () trivial 76 _ .ireturn dX8_fits_76 rfl
                  · skip
                    exact absurd ⟨wi_of b_6, by first | exact Or.inl b_11 | exact Or.inr (Or.inl b_17) | exact Or.inr (Or.inr (Or.inl b_23)) | exact Or.inr (Or.inr (Or.inr b_29)), wi_of b_38, wi_of b_47, wi_of b_57, wi_of b_68⟩ hF

set_option maxHeartbeats 4000000 in
set_option maxRecDepth 100000 in
/-- Shape.hasTree -/
theorem c_hasTreeT (l : Launch) (g : jG) (sp : Nat) (fm : Nat) (nn : Nat) (ht : Nat) (lys : Nat) (fa : Nat) (mk : Nat) (ly : Nat) (tr : Nat) (hht : ht ≤ 2) (hlys : lys ≤ 2) (hly : ly < lys) (htr : tr < (if ly + 1 = lys then 1 else 2 ^ ht)) : jC l g yX8_hasTree wsX8_hasTree ({ frames := 1, cells := 0, slots := 0, locals := 22 } : Room) [.ref sp, .int (nI ly), .int (nI tr)] [oB sp 8 [.int (nI fm), .int (nI nn), .int (nI ht), .int (nI lys), .int (nI fa), .int (nI mk)]] (fun jj : Unit => some (.int (nI 1))) (fun jj : Unit => True) (fun jj : Unit => [oB sp 8 [.int (nI fm), .int (nI nn), .int (nI ht), .int (nI lys), .int (nI fa), .int (nI mk)]]) := by
  refine jC.of (cc := cX8_hasTree) (own := RX8) (maxL := 3) (ret := (some .boolean)) (by decide +kernel) rfl rfl (Nat.le_of_ble_eq_true rfl) (fun u hu => ⟨_, rfl, by decide⟩) ?_
  intro p e s m below meth c A Q hX hret
  have in8 : ∀ w ∈ wsX80, w ∈ wsX8_hasTree := (fun w h => List.mem_cons_of_mem _ (List.mem_append_right _ h))
  have hq2 := Nat.two_pow_pos ht
  have hp4 : 2 ^ ht ≤ 2 ^ 2 := Nat.pow_le_pow_right (by decide) hht
  refine j_iload_n hX 1 dX8_hasTree_0 rfl ?_
  refine j_iconst hX (0) dX8_hasTree_1 (by decide) ?_
  refine j_aload_n hX 0 dX8_hasTree_2 rfl ?_
  refine j_get hX in8 8 0 3 (v := .int (nI lys)) rfl rfl (by decide) (List.mem_of_getElem? (i := 1) rfl) rfl rfl dX8_hasTree_3 ?_
  refine j_iconst hX (1) dX8_hasTree_6 (by decide) ?_
  refine j_isubN hX lys 1 (by omega) dX8_hasTree_7 ?_
  refine j_callS2 hX 3 (c_isWithin l g (nI ly) 0 (nI (lys - 1)) ) gX8_hasTree_X8_isWithin (by decide +kernel) rfl ⟨rfl, rfl⟩ ⟨Nat.le_of_ble_eq_true rfl, Nat.le_of_ble_eq_true rfl⟩ [] [0] 1 rfl (by decide) (fun jj : Unit => [oB sp 8 [.int (nI fm), .int (nI nn), .int (nI ht), .int (nI lys), .int (nI fa), .int (nI mk)]]) (fun _ => rfl) (by decide) [sp] rfl (fun _ => rfl) (fun _ => rfl) [oB sp 8 [.int (nI fm), .int (nI nn), .int (nI ht), .int (nI lys), .int (nI fa), .int (nI mk)]] rfl (fun _ => rfl) rfl [] rfl (Nat.le_of_ble_eq_true rfl) ⟨Nat.le_refl _, Nat.le_refl _⟩ dX8_hasTree_8 ?_
  intro _ hu_1
  refine j_w [oB sp 8 [.int (nI fm), .int (nI nn), .int (nI ht), .int (nI lys), .int (nI fa), .int (nI mk)]] rfl ?_
  refine j_st [.int (if wiB (nI ly) 0 (nI (lys - 1)) then 1 else 0)] rfl ?_
  refine j_topeq _ (nI 1) (wiN 0 (lys - 1) (by omega) (by omega) (by omega)) ?_
  refine j_pc 11 rfl ?_
  refine j_if_eqN hX 1 46 dX8_hasTree_11 (by decide) (by omega) (fun b_11 => absurd b_11 (by omega)) (fun b_11 => ?_)
  refine j_iload_n hX 2 dX8_hasTree_14 rfl ?_
  refine j_iconst hX (0) dX8_hasTree_15 (by decide) ?_
  refine j_iload_n hX 1 dX8_hasTree_16 rfl ?_
  refine j_aload_n hX 0 dX8_hasTree_17 rfl ?_
  refine j_get hX in8 8 0 3 (v := .int (nI lys)) rfl rfl (by decide) (List.mem_of_getElem? (i := 1) rfl) rfl rfl dX8_hasTree_18 ?_
  refine j_iconst hX (1) dX8_hasTree_21 (by decide) ?_
  refine j_isubN hX lys 1 (by omega) dX8_hasTree_22 ?_
  refine j_pc 23 rfl ?_
  refine j_icmp_neN hX ly (lys - 1) 30 dX8_hasTree_23 (by decide) (by omega) (by omega) (fun b_23 => ?_) (fun b_23 => ?_)
  · skip
    refine j_aload_n hX 0 dX8_hasTree_30 rfl ?_
    refine j_callV2 hX 0 (c_leaves l g sp fm nn ht lys fa mk (by omega)) gX8_hasTree_X8_leaves (by decide +kernel) rfl ⟨rfl, rfl⟩ ⟨Nat.le_of_ble_eq_true rfl, Nat.le_of_ble_eq_true rfl⟩ 8 0 rfl rfl [0] [] 1 rfl (by decide) (fun jj : Unit => [oB sp 8 [.int (nI fm), .int (nI nn), .int (nI ht), .int (nI lys), .int (nI fa), .int (nI mk)]]) (fun _ => rfl) (by decide) [sp] rfl (fun _ => rfl) (fun _ => rfl) [] rfl (fun _ => rfl) rfl [.int 0, .int (nI tr)] rfl (Nat.le_of_ble_eq_true rfl) ⟨Nat.le_refl _, Nat.le_refl _⟩ dX8_hasTree_31 ?_
    intro _ hu_2
    refine j_w [oB sp 8 [.int (nI fm), .int (nI nn), .int (nI ht), .int (nI lys), .int (nI fa), .int (nI mk)]] rfl ?_
    refine j_st [.int (nI (2 ^ ht)), .int 0, .int (nI tr)] rfl ?_
    refine j_iconst hX (1) dX8_hasTree_34 (by decide) ?_
    refine j_isubN hX (2 ^ ht) 1 (by omega) dX8_hasTree_35 ?_
    refine j_callS2 hX 3 (c_isWithin l g (nI tr) 0 (nI ((2 ^ ht) - 1)) ) gX8_hasTree_X8_isWithin (by decide +kernel) rfl ⟨rfl, rfl⟩ ⟨Nat.le_of_ble_eq_true rfl, Nat.le_of_ble_eq_true rfl⟩ [] [0] 1 rfl (by decide) (fun jj : Unit => [oB sp 8 [.int (nI fm), .int (nI nn), .int (nI ht), .int (nI lys), .int (nI fa), .int (nI mk)]]) (fun _ => rfl) (by decide) [sp] rfl (fun _ => rfl) (fun _ => rfl) [oB sp 8 [.int (nI fm), .int (nI nn), .int (nI ht), .int (nI lys), .int (nI fa), .int (nI mk)]] rfl (fun _ => rfl) rfl [] rfl (Nat.le_of_ble_eq_true rfl) ⟨Nat.le_refl _, Nat.le_refl _⟩ dX8_hasTree_36 ?_
    intro _ hu_3
    refine j_w [oB sp 8 [.int (nI fm), .int (nI nn), .int (nI ht), .int (nI lys), .int (nI fa), .int (nI mk)]] rfl ?_
    refine j_st [.int (if wiB (nI tr) 0 (nI ((2 ^ ht) - 1)) then 1 else 0)] rfl ?_
    refine j_topeq _ (nI 1) (by first | exact wiN 0 0 (by omega) (by rw [if_pos (by omega)] at htr; omega) (by decide) | exact wiN 0 (2 ^ ht - 1) (by omega) (by rw [if_neg (by omega)] at htr; omega) (by omega)) ?_
    refine j_if_eqN hX 1 46 dX8_hasTree_39 (by decide) (by omega) (fun b_39 => absurd b_39 (by omega)) (fun b_39 => ?_)
    refine j_iconst hX (1) dX8_hasTree_42 (by decide) ?_
    refine j_pc 43 rfl ?_
    refine j_goto hX 47 dX8_hasTree_43 (by decide) ?_
    exact hret () trivial 47 _ .ireturn dX8_hasTree_47 rfl
  · skip
    refine j_iconst hX (0) dX8_hasTree_26 (by decide) ?_
    refine j_goto hX 36 dX8_hasTree_27 (by decide) ?_
    refine j_callS2 hX 3 (c_isWithin l g (nI tr) 0 0 ) gX8_hasTree_X8_isWithin (by decide +kernel) rfl ⟨rfl, rfl⟩ ⟨Nat.le_of_ble_eq_true rfl, Nat.le_of_ble_eq_true rfl⟩ [] [0] 1 rfl (by decide) (fun jj : Unit => [oB sp 8 [.int (nI fm), .int (nI nn), .int (nI ht), .int (nI lys), .int (nI fa), .int (nI mk)]]) (fun _ => rfl) (by decide) [sp] rfl (fun _ => rfl) (fun _ => rfl) [oB sp 8 [.int (nI fm), .int (nI nn), .int (nI ht), .int (nI lys), .int (nI fa), .int (nI mk)]] rfl (fun _ => rfl) rfl [] rfl (Nat.le_of_ble_eq_true rfl) ⟨Nat.le_refl _, Nat.le_refl _⟩ dX8_hasTree_36 ?_
    intro _ hu_4
    refine j_w [oB sp 8 [.int (nI fm), .int (nI nn), .int (nI ht), .int (nI lys), .int (nI fa), .int (nI mk)]] rfl ?_
    refine j_st [.int (if wiB (nI tr) 0 0 then 1 else 0)] rfl ?_
    refine j_topeq _ (nI 1) (by first | exact wiN 0 0 (by omega) (by rw [if_pos (by omega)] at htr; omega) (by decide) | exact wiN 0 (2 ^ ht - 1) (by omega) (by rw [if_neg (by omega)] at htr; omega) (by omega)) ?_
    refine j_if_eqN hX 1 46 dX8_hasTree_39 (by decide) (by omega) (fun b_39 => absurd b_39 (by omega)) (fun b_39 => ?_)
    refine j_iconst hX (1) dX8_hasTree_42 (by decide) ?_
    refine j_goto hX 47 dX8_hasTree_43 (by decide) ?_
    refine j_pc 47 rfl ?_
    exact hret () trivial 47 _ .ireturn dX8_hasTree_47 rfl

set_option maxHeartbeats 4000000 in
set_option maxRecDepth 100000 in
/-- Shape.hasTree -/
theorem c_hasTreeF (l : Launch) (g : jG) (sp : Nat) (fm : Nat) (nn : Nat) (ht : Nat) (lys : Nat) (fa : Nat) (mk : Nat) (xl : Int32) (xt : Int32) (hht : ht ≤ 2) (hlys : 1 ≤ lys ∧ lys ≤ 2) (hF : ¬ htP lys ht xl xt) : jC l g yX8_hasTree wsX8_hasTree ({ frames := 1, cells := 0, slots := 0, locals := 22 } : Room) [.ref sp, .int xl, .int xt] [oB sp 8 [.int (nI fm), .int (nI nn), .int (nI ht), .int (nI lys), .int (nI fa), .int (nI mk)]] (fun jj : Unit => some (.int (nI 0))) (fun jj : Unit => True) (fun jj : Unit => [oB sp 8 [.int (nI fm), .int (nI nn), .int (nI ht), .int (nI lys), .int (nI fa), .int (nI mk)]]) := by
  refine jC.of (cc := cX8_hasTree) (own := RX8) (maxL := 3) (ret := (some .boolean)) (by decide +kernel) rfl rfl (Nat.le_of_ble_eq_true rfl) (fun u hu => ⟨_, rfl, by decide⟩) ?_
  intro p e s m below meth c A Q hX hret
  have in8 : ∀ w ∈ wsX80, w ∈ wsX8_hasTree := (fun w h => List.mem_cons_of_mem _ (List.mem_append_right _ h))
  have hq2 := Nat.two_pow_pos ht
  have hp4 : 2 ^ ht ≤ 2 ^ 2 := Nat.pow_le_pow_right (by decide) hht
  refine j_iload_n hX 1 dX8_hasTree_0 rfl ?_
  refine j_iconst hX (0) dX8_hasTree_1 (by decide) ?_
  refine j_aload_n hX 0 dX8_hasTree_2 rfl ?_
  refine j_get hX in8 8 0 3 (v := .int (nI lys)) rfl rfl (by decide) (List.mem_of_getElem? (i := 1) rfl) rfl rfl dX8_hasTree_3 ?_
  refine j_iconst hX (1) dX8_hasTree_6 (by decide) ?_
  refine j_isubN hX lys 1 (by omega) dX8_hasTree_7 ?_
  refine j_callS2 hX 3 (c_isWithin l g xl 0 (nI (lys - 1)) ) gX8_hasTree_X8_isWithin (by decide +kernel) rfl ⟨rfl, rfl⟩ ⟨Nat.le_of_ble_eq_true rfl, Nat.le_of_ble_eq_true rfl⟩ [] [0] 1 rfl (by decide) (fun jj : Unit => [oB sp 8 [.int (nI fm), .int (nI nn), .int (nI ht), .int (nI lys), .int (nI fa), .int (nI mk)]]) (fun _ => rfl) (by decide) [sp] rfl (fun _ => rfl) (fun _ => rfl) [oB sp 8 [.int (nI fm), .int (nI nn), .int (nI ht), .int (nI lys), .int (nI fa), .int (nI mk)]] rfl (fun _ => rfl) rfl [] rfl (Nat.le_of_ble_eq_true rfl) ⟨Nat.le_refl _, Nat.le_refl _⟩ dX8_hasTree_8 ?_
  intro _ hu_1
  refine j_w [oB sp 8 [.int (nI fm), .int (nI nn), .int (nI ht), .int (nI lys), .int (nI fa), .int (nI mk)]] rfl ?_
  refine j_st [.int (if wiB xl 0 (nI (lys - 1)) then 1 else 0)] rfl ?_
  refine j_pc 11 rfl ?_
  refine j_if_eq hX 46 dX8_hasTree_11 (by decide) (fun b_11 => ?_) (fun b_11 => ?_)
  · skip
    refine j_iconst hX (0) dX8_hasTree_46 (by decide) ?_
    exact hret () trivial 47 _ .ireturn dX8_hasTree_47 rfl
  · skip
    refine j_iload_n hX 2 dX8_hasTree_14 rfl ?_
    refine j_iconst hX (0) dX8_hasTree_15 (by decide) ?_
    refine j_iload_n hX 1 dX8_hasTree_16 rfl ?_
    refine j_aload_n hX 0 dX8_hasTree_17 rfl ?_
    refine j_get hX in8 8 0 3 (v := .int (nI lys)) rfl rfl (by decide) (List.mem_of_getElem? (i := 1) rfl) rfl rfl dX8_hasTree_18 ?_
    refine j_pc 21 rfl ?_
    refine j_iconst hX (1) dX8_hasTree_21 (by decide) ?_
    refine j_isubN hX lys 1 (by omega) dX8_hasTree_22 ?_
    refine j_icmp_ne hX 30 dX8_hasTree_23 (by decide) (fun b_23 => ?_) (fun b_23 => ?_)
    · skip
      refine j_aload_n hX 0 dX8_hasTree_30 rfl ?_
      refine j_callV2 hX 0 (c_leaves l g sp fm nn ht lys fa mk (by omega)) gX8_hasTree_X8_leaves (by decide +kernel) rfl ⟨rfl, rfl⟩ ⟨Nat.le_of_ble_eq_true rfl, Nat.le_of_ble_eq_true rfl⟩ 8 0 rfl rfl [0] [] 1 rfl (by decide) (fun jj : Unit => [oB sp 8 [.int (nI fm), .int (nI nn), .int (nI ht), .int (nI lys), .int (nI fa), .int (nI mk)]]) (fun _ => rfl) (by decide) [sp] rfl (fun _ => rfl) (fun _ => rfl) [] rfl (fun _ => rfl) rfl [.int 0, .int xt] rfl (Nat.le_of_ble_eq_true rfl) ⟨Nat.le_refl _, Nat.le_refl _⟩ dX8_hasTree_31 ?_
      intro _ hu_2
      refine j_w [oB sp 8 [.int (nI fm), .int (nI nn), .int (nI ht), .int (nI lys), .int (nI fa), .int (nI mk)]] rfl ?_
      refine j_st [.int (nI (2 ^ ht)), .int 0, .int xt] rfl ?_
      refine j_iconst hX (1) dX8_hasTree_34 (by decide) ?_
      refine j_isubN hX (2 ^ ht) 1 (by omega) dX8_hasTree_35 ?_
      refine j_callS2 hX 3 (c_isWithin l g xt 0 (nI ((2 ^ ht) - 1)) ) gX8_hasTree_X8_isWithin (by decide +kernel) rfl ⟨rfl, rfl⟩ ⟨Nat.le_of_ble_eq_true rfl, Nat.le_of_ble_eq_true rfl⟩ [] [0] 1 rfl (by decide) (fun jj : Unit => [oB sp 8 [.int (nI fm), .int (nI nn), .int (nI ht), .int (nI lys), .int (nI fa), .int (nI mk)]]) (fun _ => rfl) (by decide) [sp] rfl (fun _ => rfl) (fun _ => rfl) [oB sp 8 [.int (nI fm), .int (nI nn), .int (nI ht), .int (nI lys), .int (nI fa), .int (nI mk)]] rfl (fun _ => rfl) rfl [] rfl (Nat.le_of_ble_eq_true rfl) ⟨Nat.le_refl _, Nat.le_refl _⟩ dX8_hasTree_36 ?_
      intro _ hu_3
      refine j_w [oB sp 8 [.int (nI fm), .int (nI nn), .int (nI ht), .int (nI lys), .int (nI fa), .int (nI mk)]] rfl ?_
      refine j_st [.int (if wiB xt 0 (nI ((2 ^ ht) - 1)) then 1 else 0)] rfl ?_
      refine j_pc 39 rfl ?_
      refine j_if_eq hX 46 dX8_hasTree_39 (by decide) (fun b_39 => ?_) (fun b_39 => ?_)
      · skip
        refine j_iconst hX (0) dX8_hasTree_46 (by decide) ?_
        exact hret () trivial 47 _ .ireturn dX8_hasTree_47 rfl
      · skip
        exact absurd (by obtain ⟨q1, e1, -, c1⟩ := wi_nat 0 (lys - 1) ⟨by decide, by omega⟩ (wi_of b_11); first | (obtain ⟨q2, e2, -, c2⟩ := wi_nat 0 0 ⟨by decide, by decide⟩ (wi_of b_39); exact ⟨q1, q2, e1, e2, by omega, by rw [e1] at b_23; have h9 := (nI_eq (by omega) (by omega)).mp b_23; rw [if_pos (by omega)]; omega⟩) | (obtain ⟨q2, e2, -, c2⟩ := wi_nat 0 (2 ^ ht - 1) ⟨by decide, by omega⟩ (wi_of b_39); exact ⟨q1, q2, e1, e2, by omega, by have h9 : ¬ q1 = lys - 1 := (fun e => b_23 (by rw [e1, e])); rw [if_neg (by omega)]; omega⟩)) hF
    · skip
      refine j_iconst hX (0) dX8_hasTree_26 (by decide) ?_
      refine j_goto hX 36 dX8_hasTree_27 (by decide) ?_
      refine j_callS2 hX 3 (c_isWithin l g xt 0 0 ) gX8_hasTree_X8_isWithin (by decide +kernel) rfl ⟨rfl, rfl⟩ ⟨Nat.le_of_ble_eq_true rfl, Nat.le_of_ble_eq_true rfl⟩ [] [0] 1 rfl (by decide) (fun jj : Unit => [oB sp 8 [.int (nI fm), .int (nI nn), .int (nI ht), .int (nI lys), .int (nI fa), .int (nI mk)]]) (fun _ => rfl) (by decide) [sp] rfl (fun _ => rfl) (fun _ => rfl) [oB sp 8 [.int (nI fm), .int (nI nn), .int (nI ht), .int (nI lys), .int (nI fa), .int (nI mk)]] rfl (fun _ => rfl) rfl [] rfl (Nat.le_of_ble_eq_true rfl) ⟨Nat.le_refl _, Nat.le_refl _⟩ dX8_hasTree_36 ?_
      intro _ hu_4
      refine j_w [oB sp 8 [.int (nI fm), .int (nI nn), .int (nI ht), .int (nI lys), .int (nI fa), .int (nI mk)]] rfl ?_
      refine j_st [.int (if wiB xt 0 0 then 1 else 0)] rfl ?_
      refine j_if_eq hX 46 dX8_hasTree_39 (by decide) (fun b_39 => ?_) (fun b_39 => ?_)
      · skip
        refine j_iconst hX (0) dX8_hasTree_46 (by decide) ?_
        refine j_pc 47 rfl ?_
        exact hret () trivial 47 _ .ireturn dX8_hasTree_47 rfl
      · skip
        exact absurd (by obtain ⟨q1, e1, -, c1⟩ := wi_nat 0 (lys - 1) ⟨by decide, by omega⟩ (wi_of b_11); first | (obtain ⟨q2, e2, -, c2⟩ := wi_nat 0 0 ⟨by decide, by decide⟩ (wi_of b_39); exact ⟨q1, q2, e1, e2, by omega, by rw [e1] at b_23; have h9 := (nI_eq (by omega) (by omega)).mp b_23; rw [if_pos (by omega)]; omega⟩) | (obtain ⟨q2, e2, -, c2⟩ := wi_nat 0 (2 ^ ht - 1) ⟨by decide, by omega⟩ (wi_of b_39); exact ⟨q1, q2, e1, e2, by omega, by have h9 : ¬ q1 = lys - 1 := (fun e => b_23 (by rw [e1, e])); rw [if_neg (by omega)]; omega⟩)) hF

set_option maxHeartbeats 4000000 in
set_option maxRecDepth 100000 in
/-- feed: full -/
theorem c_feedF (l : Launch) (g : jG) (so : Nat) (tpr : Nat) (khr : Nat) (sdr : Nat) (tdr : Nat) (kr : Nat) (sgr : Nat) (srr : Nat) (ldr : Nat) (sp : Nat) (hh : Nat) (ch : Nat) (te : Nat) (ft : Nat) (pt : Nat) (tpa : Nat) (ntp : Nat) (tpf : Nat → Int32) (xa : Int32) (xb : Int32) (xc : Int32) (xd : Int32) (xe : Int32) (hn : ntp ≤ 600) (hf : 600 < ntp + 20) : jC l g yX10_feed wsX10_feed ({ frames := 1, cells := 0, slots := 0, locals := 24 } : Room) [.ref so, .int xa, .int xb, .int xc, .int xd, .int xe] [oB so 10 [.ref tpr, .ref khr, .ref sdr, .ref tdr, .ref kr, .ref sgr, .ref srr, .ref ldr, .ref sp, .ref hh, .ref ch, .ref te, .ref ft, .ref pt], oB tpr 7 [.ref tpa, .int (nI ntp)], bA g tpa 600 tpf] (fun jj : Unit => some (.int (-4))) (fun jj : Unit => True) (fun jj : Unit => [oB so 10 [.ref tpr, .ref khr, .ref sdr, .ref tdr, .ref kr, .ref sgr, .ref srr, .ref ldr, .ref sp, .ref hh, .ref ch, .ref te, .ref ft, .ref pt], oB tpr 7 [.ref tpa, .int (nI ntp)], bA g tpa 600 tpf]) := by
  refine jC.of (cc := cX10_feed) (own := RX10) (maxL := 6) (ret := (some .int)) (by decide +kernel) rfl rfl (Nat.le_of_ble_eq_true rfl) (fun u hu => ⟨_, rfl, rfl⟩) ?_
  intro p e s m below meth c A Q hX hret
  have in7 : ∀ w ∈ wsX70, w ∈ wsX10_feed := (fun w h => List.mem_cons_of_mem _ (List.mem_append_right _ h))
  have in10 : ∀ w ∈ wsX100, w ∈ wsX10_feed := (fun w h => List.mem_cons_of_mem _ (List.mem_append_left _ (List.mem_append_right _ h)))
  refine j_aload_n hX 0 dX10_feed_0 rfl ?_
  refine j_get hX in10 10 0 0 (v := .ref tpr) rfl rfl (by decide) (List.mem_of_getElem? (i := 1) rfl) rfl rfl dX10_feed_1 ?_
  refine j_get hX in7 7 1 1 (v := .int (nI ntp)) rfl rfl (by decide) (List.mem_of_getElem? (i := 2) rfl) rfl rfl dX10_feed_4 ?_
  refine j_bipush hX (20) dX10_feed_7 (by decide) ?_
  refine j_iaddN hX ntp 20 dX10_feed_9 ?_
  refine j_sipush hX (600) dX10_feed_10 (by decide) ?_
  refine j_icmp_leN hX (ntp + 20) 600 19 dX10_feed_13 (by decide) (by omega) (by omega) (fun b_13 => absurd b_13 (by omega)) (fun b_13 => ?_)
  refine j_pc 16 rfl ?_
  refine j_bipush hX (-4) dX10_feed_16 (by decide) ?_
  exact hret () trivial 18 _ .ireturn dX10_feed_18 rfl

set_option maxHeartbeats 4000000 in
set_option maxRecDepth 100000 in
/-- feed -/
theorem c_feedT (l : Launch) (g : jG) (so : Nat) (tpr : Nat) (khr : Nat) (sdr : Nat) (tdr : Nat) (kr : Nat) (sgr : Nat) (srr : Nat) (ldr : Nat) (sp : Nat) (hh : Nat) (ch : Nat) (te : Nat) (ft : Nat) (pt : Nat) (tpa : Nat) (ntp : Nat) (tpf : Nat → Int32) (xa : Int32) (xb : Int32) (xc : Int32) (xd : Int32) (xe : Int32) (hn : ntp ≤ 600) (hf : ntp + 20 ≤ 600) : jC l g yX10_feed wsX10_feed ({ frames := 1, cells := 0, slots := 0, locals := 24 } : Room) [.ref so, .int xa, .int xb, .int xc, .int xd, .int xe] [oB so 10 [.ref tpr, .ref khr, .ref sdr, .ref tdr, .ref kr, .ref sgr, .ref srr, .ref ldr, .ref sp, .ref hh, .ref ch, .ref te, .ref ft, .ref pt], oB tpr 7 [.ref tpa, .int (nI ntp)], bA g tpa 600 tpf] (fun jj : (Nat → Int32) => some (.int (nI (ntp + 20)))) (fun jj : (Nat → Int32) => jj = putL tpf ntp ((((Zl xa.toInt64 4 ++ Zl xb.toInt64 4) ++ Zl xc.toInt64 4) ++ Zl xd.toInt64 4) ++ Zl xe.toInt64 4)) (fun jj : (Nat → Int32) => [oB so 10 [.ref tpr, .ref khr, .ref sdr, .ref tdr, .ref kr, .ref sgr, .ref srr, .ref ldr, .ref sp, .ref hh, .ref ch, .ref te, .ref ft, .ref pt], oB tpr 7 [.ref tpa, .int (nI (ntp + 20))], bA g tpa 600 jj]) := by
  refine jC.of (cc := cX10_feed) (own := RX10) (maxL := 6) (ret := (some .int)) (by decide +kernel) rfl rfl (Nat.le_of_ble_eq_true rfl) (fun u hu => ⟨_, rfl, rfl⟩) ?_
  intro p e s m below meth c A Q hX hret
  have in7 : ∀ w ∈ wsX70, w ∈ wsX10_feed := (fun w h => List.mem_cons_of_mem _ (List.mem_append_right _ h))
  have in10 : ∀ w ∈ wsX100, w ∈ wsX10_feed := (fun w h => List.mem_cons_of_mem _ (List.mem_append_left _ (List.mem_append_right _ h)))
  refine j_aload_n hX 0 dX10_feed_0 rfl ?_
  refine j_get hX in10 10 0 0 (v := .ref tpr) rfl rfl (by decide) (List.mem_of_getElem? (i := 1) rfl) rfl rfl dX10_feed_1 ?_
  refine j_get hX in7 7 1 1 (v := .int (nI ntp)) rfl rfl (by decide) (List.mem_of_getElem? (i := 2) rfl) rfl rfl dX10_feed_4 ?_
  refine j_bipush hX (20) dX10_feed_7 (by decide) ?_
  refine j_iaddN hX ntp 20 dX10_feed_9 ?_
  refine j_sipush hX (600) dX10_feed_10 (by decide) ?_
  refine j_icmp_leN hX (ntp + 20) 600 19 dX10_feed_13 (by decide) (by omega) (by omega) (fun b_13 => ?_) (fun b_13 => absurd b_13 (by omega))
  refine j_pc 19 rfl ?_
  refine j_aload_n hX 0 dX10_feed_19 rfl ?_
  refine j_get hX in10 10 0 0 (v := .ref tpr) rfl rfl (by decide) (List.mem_of_getElem? (i := 1) rfl) rfl rfl dX10_feed_20 ?_
  refine j_iload_n hX 1 dX10_feed_23 rfl ?_
  refine j_i2l hX dX10_feed_24 ?_
  refine j_iconst hX (4) dX10_feed_25 (by decide) ?_
  refine j_callV2 hX 2 (c_addNumber l g tpr tpa ntp 600 tpf xa.toInt64 4 (by omega) (by omega) (by omega)) gX10_feed_X7_addNumber (by decide +kernel) rfl ⟨rfl, rfl⟩ ⟨Nat.le_of_ble_eq_true rfl, Nat.le_of_ble_eq_true rfl⟩ 7 1 rfl rfl [1, 2] [0] 3 rfl (by decide) (fun jj : (Nat → Int32) => [oB so 10 [.ref tpr, .ref khr, .ref sdr, .ref tdr, .ref kr, .ref sgr, .ref srr, .ref ldr, .ref sp, .ref hh, .ref ch, .ref te, .ref ft, .ref pt], oB tpr 7 [.ref tpa, .int (nI (ntp + 4))], bA g tpa 600 jj]) (fun _ => rfl) (by decide) [so, tpr, tpa] rfl (fun _ => rfl) (fun _ => rfl) [oB so 10 [.ref tpr, .ref khr, .ref sdr, .ref tdr, .ref kr, .ref sgr, .ref srr, .ref ldr, .ref sp, .ref hh, .ref ch, .ref te, .ref ft, .ref pt]] rfl (fun _ => rfl) rfl [] rfl (Nat.le_of_ble_eq_true rfl) ⟨Nat.le_refl _, Nat.le_refl _⟩ dX10_feed_26 ?_
  intro F1 hF1
  try dsimp only at hF1
  refine j_w [oB so 10 [.ref tpr, .ref khr, .ref sdr, .ref tdr, .ref kr, .ref sgr, .ref srr, .ref ldr, .ref sp, .ref hh, .ref ch, .ref te, .ref ft, .ref pt], oB tpr 7 [.ref tpa, .int (nI (ntp + 4))], bA g tpa 600 F1] rfl ?_
  refine j_st [] rfl ?_
  refine j_aload_n hX 0 dX10_feed_29 rfl ?_
  refine j_get hX in10 10 0 0 (v := .ref tpr) rfl rfl (by decide) (List.mem_of_getElem? (i := 1) rfl) rfl rfl dX10_feed_30 ?_
  refine j_pc 33 rfl ?_
  refine j_iload_n hX 2 dX10_feed_33 rfl ?_
  refine j_i2l hX dX10_feed_34 ?_
  refine j_iconst hX (4) dX10_feed_35 (by decide) ?_
  refine j_callV2 hX 2 (c_addNumber l g tpr tpa (ntp + 4) 600 F1 xb.toInt64 4 (by omega) (by omega) (by omega)) gX10_feed_X7_addNumber (by decide +kernel) rfl ⟨rfl, rfl⟩ ⟨Nat.le_of_ble_eq_true rfl, Nat.le_of_ble_eq_true rfl⟩ 7 1 rfl rfl [1, 2] [0] 3 rfl (by decide) (fun jj : (Nat → Int32) => [oB so 10 [.ref tpr, .ref khr, .ref sdr, .ref tdr, .ref kr, .ref sgr, .ref srr, .ref ldr, .ref sp, .ref hh, .ref ch, .ref te, .ref ft, .ref pt], oB tpr 7 [.ref tpa, .int (nI ((ntp + 4) + 4))], bA g tpa 600 jj]) (fun _ => rfl) (by decide) [so, tpr, tpa] rfl (fun _ => rfl) (fun _ => rfl) [oB so 10 [.ref tpr, .ref khr, .ref sdr, .ref tdr, .ref kr, .ref sgr, .ref srr, .ref ldr, .ref sp, .ref hh, .ref ch, .ref te, .ref ft, .ref pt]] rfl (fun _ => rfl) rfl [] rfl (Nat.le_of_ble_eq_true rfl) ⟨Nat.le_refl _, Nat.le_refl _⟩ dX10_feed_36 ?_
  intro F2 hF2
  try dsimp only at hF2
  refine j_w [oB so 10 [.ref tpr, .ref khr, .ref sdr, .ref tdr, .ref kr, .ref sgr, .ref srr, .ref ldr, .ref sp, .ref hh, .ref ch, .ref te, .ref ft, .ref pt], oB tpr 7 [.ref tpa, .int (nI ((ntp + 4) + 4))], bA g tpa 600 F2] rfl ?_
  refine j_st [] rfl ?_
  refine j_aload_n hX 0 dX10_feed_39 rfl ?_
  refine j_get hX in10 10 0 0 (v := .ref tpr) rfl rfl (by decide) (List.mem_of_getElem? (i := 1) rfl) rfl rfl dX10_feed_40 ?_
  refine j_iload_n hX 3 dX10_feed_43 rfl ?_
  refine j_i2l hX dX10_feed_44 ?_
  refine j_pc 45 rfl ?_
  refine j_iconst hX (4) dX10_feed_45 (by decide) ?_
  refine j_callV2 hX 2 (c_addNumber l g tpr tpa ((ntp + 4) + 4) 600 F2 xc.toInt64 4 (by omega) (by omega) (by omega)) gX10_feed_X7_addNumber (by decide +kernel) rfl ⟨rfl, rfl⟩ ⟨Nat.le_of_ble_eq_true rfl, Nat.le_of_ble_eq_true rfl⟩ 7 1 rfl rfl [1, 2] [0] 3 rfl (by decide) (fun jj : (Nat → Int32) => [oB so 10 [.ref tpr, .ref khr, .ref sdr, .ref tdr, .ref kr, .ref sgr, .ref srr, .ref ldr, .ref sp, .ref hh, .ref ch, .ref te, .ref ft, .ref pt], oB tpr 7 [.ref tpa, .int (nI (((ntp + 4) + 4) + 4))], bA g tpa 600 jj]) (fun _ => rfl) (by decide) [so, tpr, tpa] rfl (fun _ => rfl) (fun _ => rfl) [oB so 10 [.ref tpr, .ref khr, .ref sdr, .ref tdr, .ref kr, .ref sgr, .ref srr, .ref ldr, .ref sp, .ref hh, .ref ch, .ref te, .ref ft, .ref pt]] rfl (fun _ => rfl) rfl [] rfl (Nat.le_of_ble_eq_true rfl) ⟨Nat.le_refl _, Nat.le_refl _⟩ dX10_feed_46 ?_
  intro F3 hF3
  try dsimp only at hF3
  refine j_w [oB so 10 [.ref tpr, .ref khr, .ref sdr, .ref tdr, .ref kr, .ref sgr, .ref srr, .ref ldr, .ref sp, .ref hh, .ref ch, .ref te, .ref ft, .ref pt], oB tpr 7 [.ref tpa, .int (nI (((ntp + 4) + 4) + 4))], bA g tpa 600 F3] rfl ?_
  refine j_st [] rfl ?_
  refine j_aload_n hX 0 dX10_feed_49 rfl ?_
  refine j_get hX in10 10 0 0 (v := .ref tpr) rfl rfl (by decide) (List.mem_of_getElem? (i := 1) rfl) rfl rfl dX10_feed_50 ?_
  refine j_iload hX 4 dX10_feed_53 rfl ?_
  refine j_i2l hX dX10_feed_55 ?_
  refine j_iconst hX (4) dX10_feed_56 (by decide) ?_
  refine j_callV2 hX 2 (c_addNumber l g tpr tpa (((ntp + 4) + 4) + 4) 600 F3 xd.toInt64 4 (by omega) (by omega) (by omega)) gX10_feed_X7_addNumber (by decide +kernel) rfl ⟨rfl, rfl⟩ ⟨Nat.le_of_ble_eq_true rfl, Nat.le_of_ble_eq_true rfl⟩ 7 1 rfl rfl [1, 2] [0] 3 rfl (by decide) (fun jj : (Nat → Int32) => [oB so 10 [.ref tpr, .ref khr, .ref sdr, .ref tdr, .ref kr, .ref sgr, .ref srr, .ref ldr, .ref sp, .ref hh, .ref ch, .ref te, .ref ft, .ref pt], oB tpr 7 [.ref tpa, .int (nI ((((ntp + 4) + 4) + 4) + 4))], bA g tpa 600 jj]) (fun _ => rfl) (by decide) [so, tpr, tpa] rfl (fun _ => rfl) (fun _ => rfl) [oB so 10 [.ref tpr, .ref khr, .ref sdr, .ref tdr, .ref kr, .ref sgr, .ref srr, .ref ldr, .ref sp, .ref hh, .ref ch, .ref te, .ref ft, .ref pt]] rfl (fun _ => rfl) rfl [] rfl (Nat.le_of_ble_eq_true rfl) ⟨Nat.le_refl _, Nat.le_refl _⟩ dX10_feed_57 ?_
  intro F4 hF4
  try dsimp only at hF4
  refine j_w [oB so 10 [.ref tpr, .ref khr, .ref sdr, .ref tdr, .ref kr, .ref sgr, .ref srr, .ref ldr, .ref sp, .ref hh, .ref ch, .ref te, .ref ft, .ref pt], oB tpr 7 [.ref tpa, .int (nI ((((ntp + 4) + 4) + 4) + 4))], bA g tpa 600 F4] rfl ?_
  refine j_st [] rfl ?_
  refine j_pc 60 rfl ?_
  refine j_aload_n hX 0 dX10_feed_60 rfl ?_
  refine j_get hX in10 10 0 0 (v := .ref tpr) rfl rfl (by decide) (List.mem_of_getElem? (i := 1) rfl) rfl rfl dX10_feed_61 ?_
  refine j_iload hX 5 dX10_feed_64 rfl ?_
  refine j_i2l hX dX10_feed_66 ?_
  refine j_iconst hX (4) dX10_feed_67 (by decide) ?_
  refine j_callV2 hX 2 (c_addNumber l g tpr tpa ((((ntp + 4) + 4) + 4) + 4) 600 F4 xe.toInt64 4 (by omega) (by omega) (by omega)) gX10_feed_X7_addNumber (by decide +kernel) rfl ⟨rfl, rfl⟩ ⟨Nat.le_of_ble_eq_true rfl, Nat.le_of_ble_eq_true rfl⟩ 7 1 rfl rfl [1, 2] [0] 3 rfl (by decide) (fun jj : (Nat → Int32) => [oB so 10 [.ref tpr, .ref khr, .ref sdr, .ref tdr, .ref kr, .ref sgr, .ref srr, .ref ldr, .ref sp, .ref hh, .ref ch, .ref te, .ref ft, .ref pt], oB tpr 7 [.ref tpa, .int (nI (((((ntp + 4) + 4) + 4) + 4) + 4))], bA g tpa 600 jj]) (fun _ => rfl) (by decide) [so, tpr, tpa] rfl (fun _ => rfl) (fun _ => rfl) [oB so 10 [.ref tpr, .ref khr, .ref sdr, .ref tdr, .ref kr, .ref sgr, .ref srr, .ref ldr, .ref sp, .ref hh, .ref ch, .ref te, .ref ft, .ref pt]] rfl (fun _ => rfl) rfl [] rfl (Nat.le_of_ble_eq_true rfl) ⟨Nat.le_refl _, Nat.le_refl _⟩ dX10_feed_68 ?_
  intro F5 hF5
  try dsimp only at hF5
  refine j_w [oB so 10 [.ref tpr, .ref khr, .ref sdr, .ref tdr, .ref kr, .ref sgr, .ref srr, .ref ldr, .ref sp, .ref hh, .ref ch, .ref te, .ref ft, .ref pt], oB tpr 7 [.ref tpa, .int (nI (((((ntp + 4) + 4) + 4) + 4) + 4))], bA g tpa 600 F5] rfl ?_
  refine j_st [] rfl ?_
  rw [hF4, hF3, hF2, hF1] at hF5
  refine j_w [oB so 10 [.ref tpr, .ref khr, .ref sdr, .ref tdr, .ref kr, .ref sgr, .ref srr, .ref ldr, .ref sp, .ref hh, .ref ch, .ref te, .ref ft, .ref pt], oB tpr 7 [.ref tpa, .int (nI (ntp + 20))], bA g tpa 600 F5] rfl ?_
  refine j_aload_n hX 0 dX10_feed_71 rfl ?_
  refine j_get hX in10 10 0 0 (v := .ref tpr) rfl rfl (by decide) (List.mem_of_getElem? (i := 1) rfl) rfl rfl dX10_feed_72 ?_
  refine j_pc 75 rfl ?_
  refine j_get hX in7 7 1 1 (v := .int (nI (ntp + 20))) rfl rfl (by decide) (List.mem_of_getElem? (i := 2) rfl) rfl rfl dX10_feed_75 ?_
  exact hret F5 (by dsimp only; rw [hF5, putL_app' (by first | (simp only [List.length_append, Zl_length]; omega) | simp only [List.length_append, Zl_length]), putL_app' (by first | (simp only [List.length_append, Zl_length]; omega) | simp only [List.length_append, Zl_length]), putL_app' (by first | (simp only [List.length_append, Zl_length]; omega) | simp only [List.length_append, Zl_length]), putL_app' (by first | (simp only [List.length_append, Zl_length]; omega) | simp only [List.length_append, Zl_length])]; simp only [List.append_assoc]) 78 _ .ireturn dX10_feed_78 rfl

set_option maxHeartbeats 4000000 in
set_option maxRecDepth 100000 in
/-- trim -/
theorem c_trimT (l : Launch) (g : jG) (so : Nat) (tpr : Nat) (khr : Nat) (sdr : Nat) (tdr : Nat) (kr : Nat) (sgr : Nat) (srr : Nat) (ldr : Nat) (sp : Nat) (hh : Nat) (ch : Nat) (te : Nat) (ft : Nat) (pt : Nat) (tpa : Nat) (ntp : Nat) (tpf : Nat → Int32) (k : Nat) (hn : ntp ≤ 600) (hk : k ≤ ntp) : jC l g yX10_trim wsX10_trim ({ frames := 0, cells := 0, slots := 0, locals := 0 } : Room) [.ref so, .int (nI k)] [oB so 10 [.ref tpr, .ref khr, .ref sdr, .ref tdr, .ref kr, .ref sgr, .ref srr, .ref ldr, .ref sp, .ref hh, .ref ch, .ref te, .ref ft, .ref pt], oB tpr 7 [.ref tpa, .int (nI ntp)], bA g tpa 600 tpf] (fun jj : Unit => some (.int (nI k))) (fun jj : Unit => True) (fun jj : Unit => [oB so 10 [.ref tpr, .ref khr, .ref sdr, .ref tdr, .ref kr, .ref sgr, .ref srr, .ref ldr, .ref sp, .ref hh, .ref ch, .ref te, .ref ft, .ref pt], oB tpr 7 [.ref tpa, .int (nI k)], bA g tpa 600 tpf]) := by
  refine jC.of (cc := cX10_trim) (own := RX10) (maxL := 2) (ret := (some .int)) (by decide +kernel) rfl rfl (Nat.le_of_ble_eq_true rfl) (fun u hu => ⟨_, rfl, rfl⟩) ?_
  intro p e s m below meth c A Q hX hret
  have in7 : ∀ w ∈ wsX70, w ∈ wsX10_trim := (fun w h => List.mem_cons_of_mem _ (List.mem_append_right _ h))
  have in10 : ∀ w ∈ wsX100, w ∈ wsX10_trim := (fun w h => List.mem_cons_of_mem _ (List.mem_append_left _ (List.mem_append_right _ h)))
  refine j_iload_n hX 1 dX10_trim_0 rfl ?_
  refine j_if_ltN hX k 15 dX10_trim_1 (by decide) (by omega) (fun b_1 => absurd b_1 not_false) (fun b_1 => ?_)
  refine j_iload_n hX 1 dX10_trim_4 rfl ?_
  refine j_aload_n hX 0 dX10_trim_5 rfl ?_
  refine j_get hX in10 10 0 0 (v := .ref tpr) rfl rfl (by decide) (List.mem_of_getElem? (i := 1) rfl) rfl rfl dX10_trim_6 ?_
  refine j_get hX in7 7 1 1 (v := .int (nI ntp)) rfl rfl (by decide) (List.mem_of_getElem? (i := 2) rfl) rfl rfl dX10_trim_9 ?_
  refine j_icmp_leN hX k ntp 18 dX10_trim_12 (by decide) (by omega) (by omega) (fun b_12 => ?_) (fun b_12 => absurd b_12 (by omega))
  refine j_pc 18 rfl ?_
  refine j_aload_n hX 0 dX10_trim_18 rfl ?_
  refine j_get hX in10 10 0 0 (v := .ref tpr) rfl rfl (by decide) (List.mem_of_getElem? (i := 1) rfl) rfl rfl dX10_trim_19 ?_
  refine j_iload_n hX 1 dX10_trim_22 rfl ?_
  refine j_put hX (v := .int (nI k)) (ty := .int) in7 tyX7 tyX7_ok nmX7 7 1 1 rfl rfl (by decide) (List.mem_of_getElem? (i := 2) rfl) rfl rfl rfl rfl rfl (Nat.le_of_ble_eq_true rfl) [oB so 10 [.ref tpr, .ref khr, .ref sdr, .ref tdr, .ref kr, .ref sgr, .ref srr, .ref ldr, .ref sp, .ref hh, .ref ch, .ref te, .ref ft, .ref pt], oB tpr 7 [.ref tpa, .int (nI k)], bA g tpa 600 tpf] rfl dX10_trim_23 ?_
  refine j_iload_n hX 1 dX10_trim_26 rfl ?_
  exact hret () trivial 27 _ .ireturn dX10_trim_27 rfl

set_option maxHeartbeats 4000000 in
set_option maxRecDepth 100000 in
/-- trim: outside -/
theorem c_trimF (l : Launch) (g : jG) (so : Nat) (tpr : Nat) (khr : Nat) (sdr : Nat) (tdr : Nat) (kr : Nat) (sgr : Nat) (srr : Nat) (ldr : Nat) (sp : Nat) (hh : Nat) (ch : Nat) (te : Nat) (ft : Nat) (pt : Nat) (tpa : Nat) (ntp : Nat) (tpf : Nat → Int32) (xk : Int32) (hn : ntp ≤ 600) (hF : xk < 0 ∨ nI ntp < xk) : jC l g yX10_trim wsX10_trim ({ frames := 0, cells := 0, slots := 0, locals := 0 } : Room) [.ref so, .int xk] [oB so 10 [.ref tpr, .ref khr, .ref sdr, .ref tdr, .ref kr, .ref sgr, .ref srr, .ref ldr, .ref sp, .ref hh, .ref ch, .ref te, .ref ft, .ref pt], oB tpr 7 [.ref tpa, .int (nI ntp)], bA g tpa 600 tpf] (fun jj : Unit => some (.int (-2))) (fun jj : Unit => True) (fun jj : Unit => [oB so 10 [.ref tpr, .ref khr, .ref sdr, .ref tdr, .ref kr, .ref sgr, .ref srr, .ref ldr, .ref sp, .ref hh, .ref ch, .ref te, .ref ft, .ref pt], oB tpr 7 [.ref tpa, .int (nI ntp)], bA g tpa 600 tpf]) := by
  refine jC.of (cc := cX10_trim) (own := RX10) (maxL := 2) (ret := (some .int)) (by decide +kernel) rfl rfl (Nat.le_of_ble_eq_true rfl) (fun u hu => ⟨_, rfl, rfl⟩) ?_
  intro p e s m below meth c A Q hX hret
  have in7 : ∀ w ∈ wsX70, w ∈ wsX10_trim := (fun w h => List.mem_cons_of_mem _ (List.mem_append_right _ h))
  have in10 : ∀ w ∈ wsX100, w ∈ wsX10_trim := (fun w h => List.mem_cons_of_mem _ (List.mem_append_left _ (List.mem_append_right _ h)))
  refine j_iload_n hX 1 dX10_trim_0 rfl ?_
  refine j_if_lt hX 15 dX10_trim_1 (by decide) (fun b_1 => ?_) (fun b_1 => ?_)
  · skip
    refine j_bipush hX (-2) dX10_trim_15 (by decide) ?_
    exact hret () trivial 17 _ .ireturn dX10_trim_17 rfl
  · skip
    refine j_iload_n hX 1 dX10_trim_4 rfl ?_
    refine j_aload_n hX 0 dX10_trim_5 rfl ?_
    refine j_get hX in10 10 0 0 (v := .ref tpr) rfl rfl (by decide) (List.mem_of_getElem? (i := 1) rfl) rfl rfl dX10_trim_6 ?_
    refine j_pc 9 rfl ?_
    refine j_get hX in7 7 1 1 (v := .int (nI ntp)) rfl rfl (by decide) (List.mem_of_getElem? (i := 2) rfl) rfl rfl dX10_trim_9 ?_
    refine j_icmp_le hX 18 dX10_trim_12 (by decide) (fun b_12 => absurd b_12 (by rcases hF with h | h; exact absurd h b_1; exact fun hh => absurd h (Int32.not_lt.mpr hh))) (fun b_12 => ?_)
    refine j_bipush hX (-2) dX10_trim_15 (by decide) ?_
    exact hret () trivial 17 _ .ireturn dX10_trim_17 rfl

set_option maxHeartbeats 4000000 in
set_option maxRecDepth 100000 in
/-- X10_hashByte -/
theorem c_hashByte (l : Launch) (g : jG) (so : Nat) (tpr : Nat) (khr : Nat) (sdr : Nat) (tdr : Nat) (kr : Nat) (sgr : Nat) (srr : Nat) (ldr : Nat) (sp : Nat) (hh : Nat) (ch : Nat) (te : Nat) (ft : Nat) (pt : Nat) (kha : Nat) (nkh : Nat) (khf : Nat → Int32) (xi : Int32) (hn : nkh ≤ 32) : jC l g yX10_hashByte wsX10_hashByte ({ frames := 1, cells := 0, slots := 0, locals := 21 } : Room) [.ref so, .int xi] [oB so 10 [.ref tpr, .ref khr, .ref sdr, .ref tdr, .ref kr, .ref sgr, .ref srr, .ref ldr, .ref sp, .ref hh, .ref ch, .ref te, .ref ft, .ref pt], oB khr 7 [.ref kha, .int (nI nkh)], bA g kha 32 khf] (fun jj : Unit => some (.int (rAt khf nkh xi))) (fun jj : Unit => True) (fun jj : Unit => [oB so 10 [.ref tpr, .ref khr, .ref sdr, .ref tdr, .ref kr, .ref sgr, .ref srr, .ref ldr, .ref sp, .ref hh, .ref ch, .ref te, .ref ft, .ref pt], oB khr 7 [.ref kha, .int (nI nkh)], bA g kha 32 khf]) := by
  refine jC.of (cc := cX10_hashByte) (own := RX10) (maxL := 2) (ret := (some .int)) (by decide +kernel) rfl rfl (Nat.le_of_ble_eq_true rfl) (fun u hu => ⟨_, rfl, rfl⟩) ?_
  intro p e s m below meth c A Q hX hret
  have in10 : ∀ w ∈ wsX100, w ∈ wsX10_hashByte := (fun w h => List.mem_cons_of_mem _ (List.mem_append_left _ (List.mem_append_right _ h)))
  refine j_aload_n hX 0 dX10_hashByte_0 rfl ?_
  refine j_get hX in10 10 0 1 (v := .ref khr) rfl rfl (by decide) (List.mem_of_getElem? (i := 1) rfl) rfl rfl dX10_hashByte_1 ?_
  refine j_iload_n hX 1 dX10_hashByte_4 rfl ?_
  refine j_callV2 hX 1 (c_at l g khr kha nkh 32 khf xi (by omega) (by omega)) gX10_hashByte_X7_at (by decide +kernel) rfl ⟨rfl, rfl⟩ ⟨Nat.le_of_ble_eq_true rfl, Nat.le_of_ble_eq_true rfl⟩ 7 1 rfl rfl [1, 2] [0] 3 rfl (by decide) (fun jj : Unit => [oB so 10 [.ref tpr, .ref khr, .ref sdr, .ref tdr, .ref kr, .ref sgr, .ref srr, .ref ldr, .ref sp, .ref hh, .ref ch, .ref te, .ref ft, .ref pt], oB khr 7 [.ref kha, .int (nI nkh)], bA g kha 32 khf]) (fun _ => rfl) (by decide) [so, khr, kha] rfl (fun _ => rfl) (fun _ => rfl) [oB so 10 [.ref tpr, .ref khr, .ref sdr, .ref tdr, .ref kr, .ref sgr, .ref srr, .ref ldr, .ref sp, .ref hh, .ref ch, .ref te, .ref ft, .ref pt]] rfl (fun _ => rfl) rfl [] rfl (Nat.le_of_ble_eq_true rfl) ⟨Nat.le_refl _, Nat.le_refl _⟩ dX10_hashByte_5 ?_
  intro _ hu_1
  refine j_w [oB so 10 [.ref tpr, .ref khr, .ref sdr, .ref tdr, .ref kr, .ref sgr, .ref srr, .ref ldr, .ref sp, .ref hh, .ref ch, .ref te, .ref ft, .ref pt], oB khr 7 [.ref kha, .int (nI nkh)], bA g kha 32 khf] rfl ?_
  refine j_st [.int (rAt khf nkh xi)] rfl ?_
  exact hret () trivial 8 _ .ireturn dX10_hashByte_8 rfl

set_option maxHeartbeats 4000000 in
set_option maxRecDepth 100000 in
/-- X10_root -/
theorem c_root (l : Launch) (g : jG) (so : Nat) (tpr : Nat) (khr : Nat) (sdr : Nat) (tdr : Nat) (kr : Nat) (sgr : Nat) (srr : Nat) (ldr : Nat) (sp : Nat) (hh : Nat) (ch : Nat) (te : Nat) (ft : Nat) (pt : Nat) (kra : Nat) (nk : Nat) (kf : Nat → Int32) (xi : Int32) (hn : nk ≤ 16) : jC l g yX10_root wsX10_root ({ frames := 1, cells := 0, slots := 0, locals := 21 } : Room) [.ref so, .int xi] [oB so 10 [.ref tpr, .ref khr, .ref sdr, .ref tdr, .ref kr, .ref sgr, .ref srr, .ref ldr, .ref sp, .ref hh, .ref ch, .ref te, .ref ft, .ref pt], oB kr 7 [.ref kra, .int (nI nk)], bA g kra 16 kf] (fun jj : Unit => some (.int (rAt kf nk xi))) (fun jj : Unit => True) (fun jj : Unit => [oB so 10 [.ref tpr, .ref khr, .ref sdr, .ref tdr, .ref kr, .ref sgr, .ref srr, .ref ldr, .ref sp, .ref hh, .ref ch, .ref te, .ref ft, .ref pt], oB kr 7 [.ref kra, .int (nI nk)], bA g kra 16 kf]) := by
  refine jC.of (cc := cX10_root) (own := RX10) (maxL := 2) (ret := (some .int)) (by decide +kernel) rfl rfl (Nat.le_of_ble_eq_true rfl) (fun u hu => ⟨_, rfl, rfl⟩) ?_
  intro p e s m below meth c A Q hX hret
  have in10 : ∀ w ∈ wsX100, w ∈ wsX10_root := (fun w h => List.mem_cons_of_mem _ (List.mem_append_left _ (List.mem_append_right _ h)))
  refine j_aload_n hX 0 dX10_root_0 rfl ?_
  refine j_get hX in10 10 0 4 (v := .ref kr) rfl rfl (by decide) (List.mem_of_getElem? (i := 1) rfl) rfl rfl dX10_root_1 ?_
  refine j_iload_n hX 1 dX10_root_4 rfl ?_
  refine j_callV2 hX 1 (c_at l g kr kra nk 16 kf xi (by omega) (by omega)) gX10_root_X7_at (by decide +kernel) rfl ⟨rfl, rfl⟩ ⟨Nat.le_of_ble_eq_true rfl, Nat.le_of_ble_eq_true rfl⟩ 7 1 rfl rfl [1, 2] [0] 3 rfl (by decide) (fun jj : Unit => [oB so 10 [.ref tpr, .ref khr, .ref sdr, .ref tdr, .ref kr, .ref sgr, .ref srr, .ref ldr, .ref sp, .ref hh, .ref ch, .ref te, .ref ft, .ref pt], oB kr 7 [.ref kra, .int (nI nk)], bA g kra 16 kf]) (fun _ => rfl) (by decide) [so, kr, kra] rfl (fun _ => rfl) (fun _ => rfl) [oB so 10 [.ref tpr, .ref khr, .ref sdr, .ref tdr, .ref kr, .ref sgr, .ref srr, .ref ldr, .ref sp, .ref hh, .ref ch, .ref te, .ref ft, .ref pt]] rfl (fun _ => rfl) rfl [] rfl (Nat.le_of_ble_eq_true rfl) ⟨Nat.le_refl _, Nat.le_refl _⟩ dX10_root_5 ?_
  intro _ hu_1
  refine j_w [oB so 10 [.ref tpr, .ref khr, .ref sdr, .ref tdr, .ref kr, .ref sgr, .ref srr, .ref ldr, .ref sp, .ref hh, .ref ch, .ref te, .ref ft, .ref pt], oB kr 7 [.ref kra, .int (nI nk)], bA g kra 16 kf] rfl ?_
  refine j_st [.int (rAt kf nk xi)] rfl ?_
  exact hret () trivial 8 _ .ireturn dX10_root_8 rfl

set_option maxHeartbeats 4000000 in
set_option maxRecDepth 100000 in
/-- X10_signed -/
theorem c_signed (l : Launch) (g : jG) (so : Nat) (tpr : Nat) (khr : Nat) (sdr : Nat) (tdr : Nat) (kr : Nat) (sgr : Nat) (srr : Nat) (ldr : Nat) (sp : Nat) (hh : Nat) (ch : Nat) (te : Nat) (ft : Nat) (pt : Nat) (sga : Nat) (nsg : Nat) (sgf : Nat → Int32) (xi : Int32) (hn : nsg ≤ 1680) : jC l g yX10_signed wsX10_signed ({ frames := 1, cells := 0, slots := 0, locals := 21 } : Room) [.ref so, .int xi] [oB so 10 [.ref tpr, .ref khr, .ref sdr, .ref tdr, .ref kr, .ref sgr, .ref srr, .ref ldr, .ref sp, .ref hh, .ref ch, .ref te, .ref ft, .ref pt], oB sgr 7 [.ref sga, .int (nI nsg)], bA g sga 1680 sgf] (fun jj : Unit => some (.int (rAt sgf nsg xi))) (fun jj : Unit => True) (fun jj : Unit => [oB so 10 [.ref tpr, .ref khr, .ref sdr, .ref tdr, .ref kr, .ref sgr, .ref srr, .ref ldr, .ref sp, .ref hh, .ref ch, .ref te, .ref ft, .ref pt], oB sgr 7 [.ref sga, .int (nI nsg)], bA g sga 1680 sgf]) := by
  refine jC.of (cc := cX10_signed) (own := RX10) (maxL := 2) (ret := (some .int)) (by decide +kernel) rfl rfl (Nat.le_of_ble_eq_true rfl) (fun u hu => ⟨_, rfl, rfl⟩) ?_
  intro p e s m below meth c A Q hX hret
  have in10 : ∀ w ∈ wsX100, w ∈ wsX10_signed := (fun w h => List.mem_cons_of_mem _ (List.mem_append_left _ (List.mem_append_right _ h)))
  refine j_aload_n hX 0 dX10_signed_0 rfl ?_
  refine j_get hX in10 10 0 5 (v := .ref sgr) rfl rfl (by decide) (List.mem_of_getElem? (i := 1) rfl) rfl rfl dX10_signed_1 ?_
  refine j_iload_n hX 1 dX10_signed_4 rfl ?_
  refine j_callV2 hX 1 (c_at l g sgr sga nsg 1680 sgf xi (by omega) (by omega)) gX10_signed_X7_at (by decide +kernel) rfl ⟨rfl, rfl⟩ ⟨Nat.le_of_ble_eq_true rfl, Nat.le_of_ble_eq_true rfl⟩ 7 1 rfl rfl [1, 2] [0] 3 rfl (by decide) (fun jj : Unit => [oB so 10 [.ref tpr, .ref khr, .ref sdr, .ref tdr, .ref kr, .ref sgr, .ref srr, .ref ldr, .ref sp, .ref hh, .ref ch, .ref te, .ref ft, .ref pt], oB sgr 7 [.ref sga, .int (nI nsg)], bA g sga 1680 sgf]) (fun _ => rfl) (by decide) [so, sgr, sga] rfl (fun _ => rfl) (fun _ => rfl) [oB so 10 [.ref tpr, .ref khr, .ref sdr, .ref tdr, .ref kr, .ref sgr, .ref srr, .ref ldr, .ref sp, .ref hh, .ref ch, .ref te, .ref ft, .ref pt]] rfl (fun _ => rfl) rfl [] rfl (Nat.le_of_ble_eq_true rfl) ⟨Nat.le_refl _, Nat.le_refl _⟩ dX10_signed_5 ?_
  intro _ hu_1
  refine j_w [oB so 10 [.ref tpr, .ref khr, .ref sdr, .ref tdr, .ref kr, .ref sgr, .ref srr, .ref ldr, .ref sp, .ref hh, .ref ch, .ref te, .ref ft, .ref pt], oB sgr 7 [.ref sga, .int (nI nsg)], bA g sga 1680 sgf] rfl ?_
  refine j_st [.int (rAt sgf nsg xi)] rfl ?_
  exact hret () trivial 8 _ .ireturn dX10_signed_8 rfl

set_option maxHeartbeats 4000000 in
set_option maxRecDepth 100000 in
/-- X10_ledTo -/
theorem c_ledTo (l : Launch) (g : jG) (so : Nat) (tpr : Nat) (khr : Nat) (sdr : Nat) (tdr : Nat) (kr : Nat) (sgr : Nat) (srr : Nat) (ldr : Nat) (sp : Nat) (hh : Nat) (ch : Nat) (te : Nat) (ft : Nat) (pt : Nat) (lda : Nat) (nld : Nat) (ldf : Nat → Int32) (xi : Int32) (hn : nld ≤ 16) : jC l g yX10_ledTo wsX10_ledTo ({ frames := 1, cells := 0, slots := 0, locals := 21 } : Room) [.ref so, .int xi] [oB so 10 [.ref tpr, .ref khr, .ref sdr, .ref tdr, .ref kr, .ref sgr, .ref srr, .ref ldr, .ref sp, .ref hh, .ref ch, .ref te, .ref ft, .ref pt], oB ldr 7 [.ref lda, .int (nI nld)], bA g lda 16 ldf] (fun jj : Unit => some (.int (rAt ldf nld xi))) (fun jj : Unit => True) (fun jj : Unit => [oB so 10 [.ref tpr, .ref khr, .ref sdr, .ref tdr, .ref kr, .ref sgr, .ref srr, .ref ldr, .ref sp, .ref hh, .ref ch, .ref te, .ref ft, .ref pt], oB ldr 7 [.ref lda, .int (nI nld)], bA g lda 16 ldf]) := by
  refine jC.of (cc := cX10_ledTo) (own := RX10) (maxL := 2) (ret := (some .int)) (by decide +kernel) rfl rfl (Nat.le_of_ble_eq_true rfl) (fun u hu => ⟨_, rfl, rfl⟩) ?_
  intro p e s m below meth c A Q hX hret
  have in10 : ∀ w ∈ wsX100, w ∈ wsX10_ledTo := (fun w h => List.mem_cons_of_mem _ (List.mem_append_left _ (List.mem_append_right _ h)))
  refine j_aload_n hX 0 dX10_ledTo_0 rfl ?_
  refine j_get hX in10 10 0 7 (v := .ref ldr) rfl rfl (by decide) (List.mem_of_getElem? (i := 1) rfl) rfl rfl dX10_ledTo_1 ?_
  refine j_iload_n hX 1 dX10_ledTo_4 rfl ?_
  refine j_callV2 hX 1 (c_at l g ldr lda nld 16 ldf xi (by omega) (by omega)) gX10_ledTo_X7_at (by decide +kernel) rfl ⟨rfl, rfl⟩ ⟨Nat.le_of_ble_eq_true rfl, Nat.le_of_ble_eq_true rfl⟩ 7 1 rfl rfl [1, 2] [0] 3 rfl (by decide) (fun jj : Unit => [oB so 10 [.ref tpr, .ref khr, .ref sdr, .ref tdr, .ref kr, .ref sgr, .ref srr, .ref ldr, .ref sp, .ref hh, .ref ch, .ref te, .ref ft, .ref pt], oB ldr 7 [.ref lda, .int (nI nld)], bA g lda 16 ldf]) (fun _ => rfl) (by decide) [so, ldr, lda] rfl (fun _ => rfl) (fun _ => rfl) [oB so 10 [.ref tpr, .ref khr, .ref sdr, .ref tdr, .ref kr, .ref sgr, .ref srr, .ref ldr, .ref sp, .ref hh, .ref ch, .ref te, .ref ft, .ref pt]] rfl (fun _ => rfl) rfl [] rfl (Nat.le_of_ble_eq_true rfl) ⟨Nat.le_refl _, Nat.le_refl _⟩ dX10_ledTo_5 ?_
  intro _ hu_1
  refine j_w [oB so 10 [.ref tpr, .ref khr, .ref sdr, .ref tdr, .ref kr, .ref sgr, .ref srr, .ref ldr, .ref sp, .ref hh, .ref ch, .ref te, .ref ft, .ref pt], oB ldr 7 [.ref lda, .int (nI nld)], bA g lda 16 ldf] rfl ?_
  refine j_st [.int (rAt ldf nld xi)] rfl ?_
  exact hret () trivial 8 _ .ireturn dX10_ledTo_8 rfl

set_option maxHeartbeats 4000000 in
set_option maxRecDepth 100000 in
/-- index -/
theorem c_index (l : Launch) (g : jG) (so : Nat) (tpr : Nat) (khr : Nat) (sdr : Nat) (tdr : Nat) (kr : Nat) (sgr : Nat) (srr : Nat) (ldr : Nat) (sp : Nat) (hh : Nat) (ch : Nat) (te : Nat) (ft : Nat) (pt : Nat) (fnd : Nat) (mid : Nat) (fna : Nat) (nfd : Nat) (fdf : Nat → Int32) (xi : Int32) (hn : nfd ≤ 8) : jC l g yX10_index wsX10_index ({ frames := 1, cells := 0, slots := 0, locals := 21 } : Room) [.ref so, .int xi] [oB so 10 [.ref tpr, .ref khr, .ref sdr, .ref tdr, .ref kr, .ref sgr, .ref srr, .ref ldr, .ref sp, .ref hh, .ref ch, .ref te, .ref ft, .ref pt], oB pt 6 [.ref fnd, .ref mid, .ref sp, .ref sdr, .ref hh], oB fnd 7 [.ref fna, .int (nI nfd)], bA g fna 8 fdf] (fun jj : Unit => some (.int (rAt fdf nfd xi))) (fun jj : Unit => True) (fun jj : Unit => [oB so 10 [.ref tpr, .ref khr, .ref sdr, .ref tdr, .ref kr, .ref sgr, .ref srr, .ref ldr, .ref sp, .ref hh, .ref ch, .ref te, .ref ft, .ref pt], oB pt 6 [.ref fnd, .ref mid, .ref sp, .ref sdr, .ref hh], oB fnd 7 [.ref fna, .int (nI nfd)], bA g fna 8 fdf]) := by
  refine jC.of (cc := cX10_index) (own := RX10) (maxL := 2) (ret := (some .int)) (by decide +kernel) rfl rfl (Nat.le_of_ble_eq_true rfl) (fun u hu => ⟨_, rfl, rfl⟩) ?_
  intro p e s m below meth c A Q hX hret
  have in6 : ∀ w ∈ wsX60, w ∈ wsX10_index := (fun w h => List.mem_cons_of_mem _ (List.mem_append_left _ (List.mem_append_right _ h)))
  have in10 : ∀ w ∈ wsX100, w ∈ wsX10_index := (fun w h => List.mem_cons_of_mem _ (List.mem_append_left _ (List.mem_append_left _ (List.mem_append_right _ h))))
  refine j_aload_n hX 0 dX10_index_0 rfl ?_
  refine j_get hX in10 10 0 13 (v := .ref pt) rfl rfl (by decide) (List.mem_of_getElem? (i := 1) rfl) rfl rfl dX10_index_1 ?_
  refine j_get hX in6 6 1 0 (v := .ref fnd) rfl rfl (by decide) (List.mem_of_getElem? (i := 2) rfl) rfl rfl dX10_index_4 ?_
  refine j_iload_n hX 1 dX10_index_7 rfl ?_
  refine j_callV2 hX 1 (c_at l g fnd fna nfd 8 fdf xi (by omega) (by omega)) gX10_index_X7_at (by decide +kernel) rfl ⟨rfl, rfl⟩ ⟨Nat.le_of_ble_eq_true rfl, Nat.le_of_ble_eq_true rfl⟩ 7 2 rfl rfl [2, 3] [0, 1] 4 rfl (by decide) (fun jj : Unit => [oB so 10 [.ref tpr, .ref khr, .ref sdr, .ref tdr, .ref kr, .ref sgr, .ref srr, .ref ldr, .ref sp, .ref hh, .ref ch, .ref te, .ref ft, .ref pt], oB pt 6 [.ref fnd, .ref mid, .ref sp, .ref sdr, .ref hh], oB fnd 7 [.ref fna, .int (nI nfd)], bA g fna 8 fdf]) (fun _ => rfl) (by decide) [so, pt, fnd, fna] rfl (fun _ => rfl) (fun _ => rfl) [oB so 10 [.ref tpr, .ref khr, .ref sdr, .ref tdr, .ref kr, .ref sgr, .ref srr, .ref ldr, .ref sp, .ref hh, .ref ch, .ref te, .ref ft, .ref pt], oB pt 6 [.ref fnd, .ref mid, .ref sp, .ref sdr, .ref hh]] rfl (fun _ => rfl) rfl [] rfl (Nat.le_of_ble_eq_true rfl) ⟨Nat.le_refl _, Nat.le_refl _⟩ dX10_index_8 ?_
  intro _ hu_1
  refine j_w [oB so 10 [.ref tpr, .ref khr, .ref sdr, .ref tdr, .ref kr, .ref sgr, .ref srr, .ref ldr, .ref sp, .ref hh, .ref ch, .ref te, .ref ft, .ref pt], oB pt 6 [.ref fnd, .ref mid, .ref sp, .ref sdr, .ref hh], oB fnd 7 [.ref fna, .int (nI nfd)], bA g fna 8 fdf] rfl ?_
  refine j_st [.int (rAt fdf nfd xi)] rfl ?_
  exact hret () trivial 11 _ .ireturn dX10_index_11 rfl

set_option maxHeartbeats 4000000 in
set_option maxRecDepth 100000 in
/-- hash -/
theorem c_hashT (l : Launch) (g : jG) (so : Nat) (tpr : Nat) (khr : Nat) (sdr : Nat) (tdr : Nat) (kr : Nat) (sgr : Nat) (srr : Nat) (ldr : Nat) (sp : Nat) (hh : Nat) (ch : Nat) (te : Nat) (ft : Nat) (pt : Nat) (inr : Nat) (outr : Nat) (zo : Nat) (on : Nat) (oly : Int32) (otr : Int32) (ina : Nat) (ni : Nat) (fi : Nat → Int32) (sa : Nat) (wa : Nat) (S0 : Nat → Int32) (w0 : Nat → Int32) (aa : Nat) (ba : Nat) (A0 : Nat → Int64) (B0 : Nat → Int64) (tpa : Nat) (ntp : Nat) (tpf : Nat → Int32) (kha : Nat) (nkh : Nat) (khf : Nat → Int32) (fm : Nat) (hfm : fm < 2) (hni0 : ni ≤ 768) (hntp : ntp ≤ 600) (hTpB : isB tpf) (hnkh : nkh ≤ 32) : jC l g yX10_hash wsX10_hash ({ frames := 3, cells := 0, slots := 0, locals := 86 } : Room) [.ref so, .int (nI fm)] [oB so 10 [.ref tpr, .ref khr, .ref sdr, .ref tdr, .ref kr, .ref sgr, .ref srr, .ref ldr, .ref sp, .ref hh, .ref ch, .ref te, .ref ft, .ref pt], oB hh 5 [.ref inr, .ref outr, .ref zo, .ref on, .ref sp, .ref sdr, .int oly, .int otr], oB inr 7 [.ref ina, .int (nI ni)], bA g ina 768 fi, oB zo 4 [.ref sa, .ref wa], iA g sa 8 S0, iA g wa 64 w0, oB on 3 [.ref aa, .ref ba], lA g aa 25 A0, lA g ba 25 B0, oB tpr 7 [.ref tpa, .int (nI ntp)], bA g tpa 600 tpf, oB khr 7 [.ref kha, .int (nI nkh)], bA g kha 32 khf] (fun jj : (Nat → Int32) × (Nat → Int32) × (Nat → Int64) × (Nat → Int64) × Nat × (Nat → Int32) × (Nat → Int32) => some (.int (nI 32))) (fun jj : (Nat → Int32) × (Nat → Int32) × (Nat → Int64) × (Nat → Int64) × Nat × (Nat → Int32) × (Nat → Int32) => jj.2.2.2.2.1 ≤ 768 ∧ jj.2.2.2.2.2.2 = putL khf 0 (HH fm (slice tpf 0 ntp))) (fun jj : (Nat → Int32) × (Nat → Int32) × (Nat → Int64) × (Nat → Int64) × Nat × (Nat → Int32) × (Nat → Int32) => [oB so 10 [.ref tpr, .ref khr, .ref sdr, .ref tdr, .ref kr, .ref sgr, .ref srr, .ref ldr, .ref sp, .ref hh, .ref ch, .ref te, .ref ft, .ref pt], oB hh 5 [.ref inr, .ref outr, .ref zo, .ref on, .ref sp, .ref sdr, .int oly, .int otr], oB inr 7 [.ref ina, .int (nI jj.2.2.2.2.1)], bA g ina 768 jj.2.2.2.2.2.1, oB zo 4 [.ref sa, .ref wa], iA g sa 8 jj.1, iA g wa 64 jj.2.1, oB on 3 [.ref aa, .ref ba], lA g aa 25 jj.2.2.1, lA g ba 25 jj.2.2.2.1, oB tpr 7 [.ref tpa, .int (nI ntp)], bA g tpa 600 tpf, oB khr 7 [.ref kha, .int (nI 32)], bA g kha 32 jj.2.2.2.2.2.2]) := by
  refine jC.of (cc := cX10_hash) (own := RX10) (maxL := 2) (ret := (some .int)) (by decide +kernel) rfl rfl (Nat.le_of_ble_eq_true rfl) (fun u hu => ⟨_, rfl, rfl⟩) ?_
  intro p e s m below meth c A Q hX hret
  have in5 : ∀ w ∈ wsX50, w ∈ wsX10_hash := (fun w h => List.mem_cons_of_mem _ (List.mem_append_left _ (List.mem_append_left _ (List.mem_append_left _ (List.mem_append_right _ h)))))
  have in7 : ∀ w ∈ wsX70, w ∈ wsX10_hash := (fun w h => List.mem_cons_of_mem _ (List.mem_append_left _ (List.mem_append_left _ (List.mem_append_right _ h))))
  have in10 : ∀ w ∈ wsX100, w ∈ wsX10_hash := (fun w h => List.mem_cons_of_mem _ (List.mem_append_left _ (List.mem_append_left _ (List.mem_append_left _ (List.mem_append_left _ (List.mem_append_right _ h))))))
  by_cases h0 : fm = 0
  · skip
    refine j_iload_n hX 1 dX10_hash_0 rfl ?_
    refine j_if_eqN hX fm 12 dX10_hash_1 (by decide) (by omega) (fun b_1 => ?_) (fun b_1 => absurd b_1 (by omega))
    refine j_aload_n hX 0 dX10_hash_12 rfl ?_
    refine j_get hX in10 10 0 9 (v := .ref hh) rfl rfl (by decide) (List.mem_of_getElem? (i := 1) rfl) rfl rfl dX10_hash_13 ?_
    refine j_get hX in5 5 1 0 (v := .ref inr) rfl rfl (by decide) (List.mem_of_getElem? (i := 2) rfl) rfl rfl dX10_hash_16 ?_
    refine j_callV2 hX 0 (c_clear l g inr ina (nI ni) ) gX10_hash_X7_clear (by decide +kernel) rfl ⟨rfl, rfl⟩ ⟨Nat.le_of_ble_eq_true rfl, Nat.le_of_ble_eq_true rfl⟩ 7 2 rfl rfl [2] [0, 1, 3, 4, 5, 6, 7, 8, 9, 10, 11, 12, 13] 14 rfl (by decide) (fun jj : Unit => [oB so 10 [.ref tpr, .ref khr, .ref sdr, .ref tdr, .ref kr, .ref sgr, .ref srr, .ref ldr, .ref sp, .ref hh, .ref ch, .ref te, .ref ft, .ref pt], oB hh 5 [.ref inr, .ref outr, .ref zo, .ref on, .ref sp, .ref sdr, .int oly, .int otr], oB inr 7 [.ref ina, .int (nI 0)], bA g ina 768 fi, oB zo 4 [.ref sa, .ref wa], iA g sa 8 S0, iA g wa 64 w0, oB on 3 [.ref aa, .ref ba], lA g aa 25 A0, lA g ba 25 B0, oB tpr 7 [.ref tpa, .int (nI ntp)], bA g tpa 600 tpf, oB khr 7 [.ref kha, .int (nI nkh)], bA g kha 32 khf]) (fun _ => rfl) (by decide) [so, hh, inr, ina, zo, sa, wa, on, aa, ba, tpr, tpa, khr, kha] rfl (fun _ => rfl) (fun _ => rfl) [oB so 10 [.ref tpr, .ref khr, .ref sdr, .ref tdr, .ref kr, .ref sgr, .ref srr, .ref ldr, .ref sp, .ref hh, .ref ch, .ref te, .ref ft, .ref pt], oB hh 5 [.ref inr, .ref outr, .ref zo, .ref on, .ref sp, .ref sdr, .int oly, .int otr], bA g ina 768 fi, oB zo 4 [.ref sa, .ref wa], iA g sa 8 S0, iA g wa 64 w0, oB on 3 [.ref aa, .ref ba], lA g aa 25 A0, lA g ba 25 B0, oB tpr 7 [.ref tpa, .int (nI ntp)], bA g tpa 600 tpf, oB khr 7 [.ref kha, .int (nI nkh)], bA g kha 32 khf] rfl (fun _ => rfl) rfl [] rfl (Nat.le_of_ble_eq_true rfl) ⟨Nat.le_refl _, Nat.le_refl _⟩ dX10_hash_19 ?_
    intro _ hu_1
    refine j_w [oB so 10 [.ref tpr, .ref khr, .ref sdr, .ref tdr, .ref kr, .ref sgr, .ref srr, .ref ldr, .ref sp, .ref hh, .ref ch, .ref te, .ref ft, .ref pt], oB hh 5 [.ref inr, .ref outr, .ref zo, .ref on, .ref sp, .ref sdr, .int oly, .int otr], oB inr 7 [.ref ina, .int (nI 0)], bA g ina 768 fi, oB zo 4 [.ref sa, .ref wa], iA g sa 8 S0, iA g wa 64 w0, oB on 3 [.ref aa, .ref ba], lA g aa 25 A0, lA g ba 25 B0, oB tpr 7 [.ref tpa, .int (nI ntp)], bA g tpa 600 tpf, oB khr 7 [.ref kha, .int (nI nkh)], bA g kha 32 khf] rfl ?_
    refine j_st [] rfl ?_
    refine j_aload_n hX 0 dX10_hash_22 rfl ?_
    refine j_pc 23 rfl ?_
    refine j_get hX in10 10 0 9 (v := .ref hh) rfl rfl (by decide) (List.mem_of_getElem? (i := 1) rfl) rfl rfl dX10_hash_23 ?_
    refine j_get hX in5 5 1 0 (v := .ref inr) rfl rfl (by decide) (List.mem_of_getElem? (i := 2) rfl) rfl rfl dX10_hash_26 ?_
    refine j_aload_n hX 0 dX10_hash_29 rfl ?_
    refine j_get hX in10 10 0 0 (v := .ref tpr) rfl rfl (by decide) (List.mem_of_getElem? (i := 3) rfl) rfl rfl dX10_hash_30 ?_
    refine j_callV2 hX 1 (c_addAll l g inr ina 0 768 fi tpr tpa ntp 600 tpf (by omega) (by omega) (by omega) (by omega) hTpB (by omega)) gX10_hash_X7_addAll (by decide +kernel) rfl ⟨rfl, rfl⟩ ⟨Nat.le_of_ble_eq_true rfl, Nat.le_of_ble_eq_true rfl⟩ 7 2 rfl rfl [2, 3, 10, 11] [0, 1, 4, 5, 6, 7, 8, 9, 12, 13] 14 rfl (by decide) (fun jj : (Nat → Int32) => [oB so 10 [.ref tpr, .ref khr, .ref sdr, .ref tdr, .ref kr, .ref sgr, .ref srr, .ref ldr, .ref sp, .ref hh, .ref ch, .ref te, .ref ft, .ref pt], oB hh 5 [.ref inr, .ref outr, .ref zo, .ref on, .ref sp, .ref sdr, .int oly, .int otr], oB inr 7 [.ref ina, .int (nI (0 + ntp))], bA g ina 768 jj, oB zo 4 [.ref sa, .ref wa], iA g sa 8 S0, iA g wa 64 w0, oB on 3 [.ref aa, .ref ba], lA g aa 25 A0, lA g ba 25 B0, oB tpr 7 [.ref tpa, .int (nI ntp)], bA g tpa 600 tpf, oB khr 7 [.ref kha, .int (nI nkh)], bA g kha 32 khf]) (fun _ => rfl) (by decide) [so, hh, inr, ina, zo, sa, wa, on, aa, ba, tpr, tpa, khr, kha] rfl (fun _ => rfl) (fun _ => rfl) [oB so 10 [.ref tpr, .ref khr, .ref sdr, .ref tdr, .ref kr, .ref sgr, .ref srr, .ref ldr, .ref sp, .ref hh, .ref ch, .ref te, .ref ft, .ref pt], oB hh 5 [.ref inr, .ref outr, .ref zo, .ref on, .ref sp, .ref sdr, .int oly, .int otr], oB zo 4 [.ref sa, .ref wa], iA g sa 8 S0, iA g wa 64 w0, oB on 3 [.ref aa, .ref ba], lA g aa 25 A0, lA g ba 25 B0, oB khr 7 [.ref kha, .int (nI nkh)], bA g kha 32 khf] rfl (fun _ => rfl) rfl [] rfl (Nat.le_of_ble_eq_true rfl) ⟨Nat.le_refl _, Nat.le_refl _⟩ dX10_hash_33 ?_
    intro F1 hF1
    try dsimp only at hF1
    refine j_w [oB so 10 [.ref tpr, .ref khr, .ref sdr, .ref tdr, .ref kr, .ref sgr, .ref srr, .ref ldr, .ref sp, .ref hh, .ref ch, .ref te, .ref ft, .ref pt], oB hh 5 [.ref inr, .ref outr, .ref zo, .ref on, .ref sp, .ref sdr, .int oly, .int otr], oB inr 7 [.ref ina, .int (nI (0 + ntp))], bA g ina 768 F1, oB zo 4 [.ref sa, .ref wa], iA g sa 8 S0, iA g wa 64 w0, oB on 3 [.ref aa, .ref ba], lA g aa 25 A0, lA g ba 25 B0, oB tpr 7 [.ref tpa, .int (nI ntp)], bA g tpa 600 tpf, oB khr 7 [.ref kha, .int (nI nkh)], bA g kha 32 khf] rfl ?_
    refine j_st [] rfl ?_
    refine j_aload_n hX 0 dX10_hash_36 rfl ?_
    refine j_get hX in10 10 0 9 (v := .ref hh) rfl rfl (by decide) (List.mem_of_getElem? (i := 1) rfl) rfl rfl dX10_hash_37 ?_
    refine j_iload_n hX 1 dX10_hash_40 rfl ?_
    refine j_pc 41 rfl ?_
    refine j_callV2 hX 1 (c_ofForm0x l g hh inr outr zo on sp sdr oly otr fm h0 (by omega)) gX10_hash_X5_ofForm (by decide +kernel) rfl ⟨rfl, rfl⟩ ⟨Nat.le_of_ble_eq_true rfl, Nat.le_of_ble_eq_true rfl⟩ 5 1 rfl rfl [1] [0, 2, 3, 4, 5, 6, 7, 8, 9, 10, 11, 12, 13] 14 rfl (by decide) (fun jj : Unit => [oB so 10 [.ref tpr, .ref khr, .ref sdr, .ref tdr, .ref kr, .ref sgr, .ref srr, .ref ldr, .ref sp, .ref hh, .ref ch, .ref te, .ref ft, .ref pt], oB hh 5 [.ref inr, .ref outr, .ref zo, .ref on, .ref sp, .ref sdr, .int oly, .int otr], oB inr 7 [.ref ina, .int (nI (0 + ntp))], bA g ina 768 F1, oB zo 4 [.ref sa, .ref wa], iA g sa 8 S0, iA g wa 64 w0, oB on 3 [.ref aa, .ref ba], lA g aa 25 A0, lA g ba 25 B0, oB tpr 7 [.ref tpa, .int (nI ntp)], bA g tpa 600 tpf, oB khr 7 [.ref kha, .int (nI nkh)], bA g kha 32 khf]) (fun _ => rfl) (by decide) [so, hh, inr, ina, zo, sa, wa, on, aa, ba, tpr, tpa, khr, kha] rfl (fun _ => rfl) (fun _ => rfl) [oB so 10 [.ref tpr, .ref khr, .ref sdr, .ref tdr, .ref kr, .ref sgr, .ref srr, .ref ldr, .ref sp, .ref hh, .ref ch, .ref te, .ref ft, .ref pt], oB inr 7 [.ref ina, .int (nI (0 + ntp))], bA g ina 768 F1, oB zo 4 [.ref sa, .ref wa], iA g sa 8 S0, iA g wa 64 w0, oB on 3 [.ref aa, .ref ba], lA g aa 25 A0, lA g ba 25 B0, oB tpr 7 [.ref tpa, .int (nI ntp)], bA g tpa 600 tpf, oB khr 7 [.ref kha, .int (nI nkh)], bA g kha 32 khf] rfl (fun _ => rfl) rfl [] rfl (Nat.le_of_ble_eq_true rfl) ⟨Nat.le_refl _, Nat.le_refl _⟩ dX10_hash_41 ?_
    intro _ hu_2
    refine j_w [oB so 10 [.ref tpr, .ref khr, .ref sdr, .ref tdr, .ref kr, .ref sgr, .ref srr, .ref ldr, .ref sp, .ref hh, .ref ch, .ref te, .ref ft, .ref pt], oB hh 5 [.ref inr, .ref outr, .ref zo, .ref on, .ref sp, .ref sdr, .int oly, .int otr], oB inr 7 [.ref ina, .int (nI (0 + ntp))], bA g ina 768 F1, oB zo 4 [.ref sa, .ref wa], iA g sa 8 S0, iA g wa 64 w0, oB on 3 [.ref aa, .ref ba], lA g aa 25 A0, lA g ba 25 B0, oB tpr 7 [.ref tpa, .int (nI ntp)], bA g tpa 600 tpf, oB khr 7 [.ref kha, .int (nI nkh)], bA g kha 32 khf] rfl ?_
    refine j_st [.ref zo] rfl ?_
    refine j_aload_n hX 0 dX10_hash_44 rfl ?_
    refine j_get hX in10 10 0 9 (v := .ref hh) rfl rfl (by decide) (List.mem_of_getElem? (i := 1) rfl) rfl rfl dX10_hash_45 ?_
    refine j_get hX in5 5 1 0 (v := .ref inr) rfl rfl (by decide) (List.mem_of_getElem? (i := 2) rfl) rfl rfl dX10_hash_48 ?_
    refine j_aload_n hX 0 dX10_hash_51 rfl ?_
    refine j_get hX in10 10 0 1 (v := .ref khr) rfl rfl (by decide) (List.mem_of_getElem? (i := 4) rfl) rfl rfl dX10_hash_52 ?_
    refine j_callA2 hX 2 (c_digest0 l g zo sa wa S0 w0 inr ina (0 + ntp) 768 F1 khr kha nkh khf (by omega) (by omega) (by omega)) gX10_hash_X4_digest_u113X4 rfl (by decide +kernel) rfl ⟨rfl, rfl⟩ ⟨Nat.le_of_ble_eq_true rfl, Nat.le_of_ble_eq_true rfl⟩ 4 4 rfl rfl [4, 5, 6, 2, 3, 12, 13] [0, 1, 7, 8, 9, 10, 11] 14 rfl (by decide) (fun jj : (Nat → Int32) × (Nat → Int32) × Nat × (Nat → Int32) × (Nat → Int32) => [oB so 10 [.ref tpr, .ref khr, .ref sdr, .ref tdr, .ref kr, .ref sgr, .ref srr, .ref ldr, .ref sp, .ref hh, .ref ch, .ref te, .ref ft, .ref pt], oB hh 5 [.ref inr, .ref outr, .ref zo, .ref on, .ref sp, .ref sdr, .int oly, .int otr], oB inr 7 [.ref ina, .int (nI jj.2.2.1)], bA g ina 768 jj.2.2.2.1, oB zo 4 [.ref sa, .ref wa], iA g sa 8 jj.1, iA g wa 64 jj.2.1, oB on 3 [.ref aa, .ref ba], lA g aa 25 A0, lA g ba 25 B0, oB tpr 7 [.ref tpa, .int (nI ntp)], bA g tpa 600 tpf, oB khr 7 [.ref kha, .int (nI 32)], bA g kha 32 jj.2.2.2.2]) (fun _ => rfl) (by decide) [so, hh, inr, ina, zo, sa, wa, on, aa, ba, tpr, tpa, khr, kha] rfl (fun _ => rfl) (fun _ => rfl) [oB so 10 [.ref tpr, .ref khr, .ref sdr, .ref tdr, .ref kr, .ref sgr, .ref srr, .ref ldr, .ref sp, .ref hh, .ref ch, .ref te, .ref ft, .ref pt], oB hh 5 [.ref inr, .ref outr, .ref zo, .ref on, .ref sp, .ref sdr, .int oly, .int otr], oB on 3 [.ref aa, .ref ba], lA g aa 25 A0, lA g ba 25 B0, oB tpr 7 [.ref tpa, .int (nI ntp)], bA g tpa 600 tpf] rfl (fun _ => rfl) rfl [] rfl (Nat.le_of_ble_eq_true rfl) ⟨Nat.le_refl _, Nat.le_refl _⟩ dX10_hash_55 ?_
    rintro ⟨S5, w5, nl5, G5, FO5⟩ hW
    try dsimp only at hW
    refine j_w [oB so 10 [.ref tpr, .ref khr, .ref sdr, .ref tdr, .ref kr, .ref sgr, .ref srr, .ref ldr, .ref sp, .ref hh, .ref ch, .ref te, .ref ft, .ref pt], oB hh 5 [.ref inr, .ref outr, .ref zo, .ref on, .ref sp, .ref sdr, .int oly, .int otr], oB inr 7 [.ref ina, .int (nI nl5)], bA g ina 768 G5, oB zo 4 [.ref sa, .ref wa], iA g sa 8 S5, iA g wa 64 w5, oB on 3 [.ref aa, .ref ba], lA g aa 25 A0, lA g ba 25 B0, oB tpr 7 [.ref tpa, .int (nI ntp)], bA g tpa 600 tpf, oB khr 7 [.ref kha, .int (nI 32)], bA g kha 32 FO5] rfl ?_
    refine j_st [] rfl ?_
    rw [hF1, slice_put (by first | (simp only [slice_length]; omega) | simp only [slice_length])] at hW
    refine j_aload_n hX 0 dX10_hash_58 rfl ?_
    refine j_pc 59 rfl ?_
    refine j_get hX in10 10 0 1 (v := .ref khr) rfl rfl (by decide) (List.mem_of_getElem? (i := 4) rfl) rfl rfl dX10_hash_59 ?_
    refine j_get hX in7 7 12 1 (v := .int (nI 32)) rfl rfl (by decide) (List.mem_of_getElem? (i := 5) rfl) rfl rfl dX10_hash_62 ?_
    exact hret (S5, w5, A0, B0, nl5, G5, FO5) (by dsimp only; rw [HH, if_pos h0]; exact hW) 65 _ .ireturn dX10_hash_65 rfl
  · skip
    refine j_iload_n hX 1 dX10_hash_0 rfl ?_
    refine j_if_eqN hX fm 12 dX10_hash_1 (by decide) (by omega) (fun b_1 => absurd b_1 (by omega)) (fun b_1 => ?_)
    refine j_iload_n hX 1 dX10_hash_4 rfl ?_
    refine j_iconst hX (1) dX10_hash_5 (by decide) ?_
    refine j_icmp_eqN hX fm 1 12 dX10_hash_6 (by decide) (by omega) (by omega) (fun b_6 => ?_) (fun b_6 => absurd b_6 (by omega))
    refine j_pc 12 rfl ?_
    refine j_aload_n hX 0 dX10_hash_12 rfl ?_
    refine j_get hX in10 10 0 9 (v := .ref hh) rfl rfl (by decide) (List.mem_of_getElem? (i := 1) rfl) rfl rfl dX10_hash_13 ?_
    refine j_get hX in5 5 1 0 (v := .ref inr) rfl rfl (by decide) (List.mem_of_getElem? (i := 2) rfl) rfl rfl dX10_hash_16 ?_
    refine j_callV2 hX 0 (c_clear l g inr ina (nI ni) ) gX10_hash_X7_clear (by decide +kernel) rfl ⟨rfl, rfl⟩ ⟨Nat.le_of_ble_eq_true rfl, Nat.le_of_ble_eq_true rfl⟩ 7 2 rfl rfl [2] [0, 1, 3, 4, 5, 6, 7, 8, 9, 10, 11, 12, 13] 14 rfl (by decide) (fun jj : Unit => [oB so 10 [.ref tpr, .ref khr, .ref sdr, .ref tdr, .ref kr, .ref sgr, .ref srr, .ref ldr, .ref sp, .ref hh, .ref ch, .ref te, .ref ft, .ref pt], oB hh 5 [.ref inr, .ref outr, .ref zo, .ref on, .ref sp, .ref sdr, .int oly, .int otr], oB inr 7 [.ref ina, .int (nI 0)], bA g ina 768 fi, oB zo 4 [.ref sa, .ref wa], iA g sa 8 S0, iA g wa 64 w0, oB on 3 [.ref aa, .ref ba], lA g aa 25 A0, lA g ba 25 B0, oB tpr 7 [.ref tpa, .int (nI ntp)], bA g tpa 600 tpf, oB khr 7 [.ref kha, .int (nI nkh)], bA g kha 32 khf]) (fun _ => rfl) (by decide) [so, hh, inr, ina, zo, sa, wa, on, aa, ba, tpr, tpa, khr, kha] rfl (fun _ => rfl) (fun _ => rfl) [oB so 10 [.ref tpr, .ref khr, .ref sdr, .ref tdr, .ref kr, .ref sgr, .ref srr, .ref ldr, .ref sp, .ref hh, .ref ch, .ref te, .ref ft, .ref pt], oB hh 5 [.ref inr, .ref outr, .ref zo, .ref on, .ref sp, .ref sdr, .int oly, .int otr], bA g ina 768 fi, oB zo 4 [.ref sa, .ref wa], iA g sa 8 S0, iA g wa 64 w0, oB on 3 [.ref aa, .ref ba], lA g aa 25 A0, lA g ba 25 B0, oB tpr 7 [.ref tpa, .int (nI ntp)], bA g tpa 600 tpf, oB khr 7 [.ref kha, .int (nI nkh)], bA g kha 32 khf] rfl (fun _ => rfl) rfl [] rfl (Nat.le_of_ble_eq_true rfl) ⟨Nat.le_refl _, Nat.le_refl _⟩ dX10_hash_19 ?_
    intro _ hu_3
    refine j_w [oB so 10 [.ref tpr, .ref khr, .ref sdr, .ref tdr, .ref kr, .ref sgr, .ref srr, .ref ldr, .ref sp, .ref hh, .ref ch, .ref te, .ref ft, .ref pt], oB hh 5 [.ref inr, .ref outr, .ref zo, .ref on, .ref sp, .ref sdr, .int oly, .int otr], oB inr 7 [.ref ina, .int (nI 0)], bA g ina 768 fi, oB zo 4 [.ref sa, .ref wa], iA g sa 8 S0, iA g wa 64 w0, oB on 3 [.ref aa, .ref ba], lA g aa 25 A0, lA g ba 25 B0, oB tpr 7 [.ref tpa, .int (nI ntp)], bA g tpa 600 tpf, oB khr 7 [.ref kha, .int (nI nkh)], bA g kha 32 khf] rfl ?_
    refine j_st [] rfl ?_
    refine j_aload_n hX 0 dX10_hash_22 rfl ?_
    refine j_get hX in10 10 0 9 (v := .ref hh) rfl rfl (by decide) (List.mem_of_getElem? (i := 1) rfl) rfl rfl dX10_hash_23 ?_
    refine j_get hX in5 5 1 0 (v := .ref inr) rfl rfl (by decide) (List.mem_of_getElem? (i := 2) rfl) rfl rfl dX10_hash_26 ?_
    refine j_aload_n hX 0 dX10_hash_29 rfl ?_
    refine j_pc 30 rfl ?_
    refine j_get hX in10 10 0 0 (v := .ref tpr) rfl rfl (by decide) (List.mem_of_getElem? (i := 3) rfl) rfl rfl dX10_hash_30 ?_
    refine j_callV2 hX 1 (c_addAll l g inr ina 0 768 fi tpr tpa ntp 600 tpf (by omega) (by omega) (by omega) (by omega) hTpB (by omega)) gX10_hash_X7_addAll (by decide +kernel) rfl ⟨rfl, rfl⟩ ⟨Nat.le_of_ble_eq_true rfl, Nat.le_of_ble_eq_true rfl⟩ 7 2 rfl rfl [2, 3, 10, 11] [0, 1, 4, 5, 6, 7, 8, 9, 12, 13] 14 rfl (by decide) (fun jj : (Nat → Int32) => [oB so 10 [.ref tpr, .ref khr, .ref sdr, .ref tdr, .ref kr, .ref sgr, .ref srr, .ref ldr, .ref sp, .ref hh, .ref ch, .ref te, .ref ft, .ref pt], oB hh 5 [.ref inr, .ref outr, .ref zo, .ref on, .ref sp, .ref sdr, .int oly, .int otr], oB inr 7 [.ref ina, .int (nI (0 + ntp))], bA g ina 768 jj, oB zo 4 [.ref sa, .ref wa], iA g sa 8 S0, iA g wa 64 w0, oB on 3 [.ref aa, .ref ba], lA g aa 25 A0, lA g ba 25 B0, oB tpr 7 [.ref tpa, .int (nI ntp)], bA g tpa 600 tpf, oB khr 7 [.ref kha, .int (nI nkh)], bA g kha 32 khf]) (fun _ => rfl) (by decide) [so, hh, inr, ina, zo, sa, wa, on, aa, ba, tpr, tpa, khr, kha] rfl (fun _ => rfl) (fun _ => rfl) [oB so 10 [.ref tpr, .ref khr, .ref sdr, .ref tdr, .ref kr, .ref sgr, .ref srr, .ref ldr, .ref sp, .ref hh, .ref ch, .ref te, .ref ft, .ref pt], oB hh 5 [.ref inr, .ref outr, .ref zo, .ref on, .ref sp, .ref sdr, .int oly, .int otr], oB zo 4 [.ref sa, .ref wa], iA g sa 8 S0, iA g wa 64 w0, oB on 3 [.ref aa, .ref ba], lA g aa 25 A0, lA g ba 25 B0, oB khr 7 [.ref kha, .int (nI nkh)], bA g kha 32 khf] rfl (fun _ => rfl) rfl [] rfl (Nat.le_of_ble_eq_true rfl) ⟨Nat.le_refl _, Nat.le_refl _⟩ dX10_hash_33 ?_
    intro F1 hF1
    try dsimp only at hF1
    refine j_w [oB so 10 [.ref tpr, .ref khr, .ref sdr, .ref tdr, .ref kr, .ref sgr, .ref srr, .ref ldr, .ref sp, .ref hh, .ref ch, .ref te, .ref ft, .ref pt], oB hh 5 [.ref inr, .ref outr, .ref zo, .ref on, .ref sp, .ref sdr, .int oly, .int otr], oB inr 7 [.ref ina, .int (nI (0 + ntp))], bA g ina 768 F1, oB zo 4 [.ref sa, .ref wa], iA g sa 8 S0, iA g wa 64 w0, oB on 3 [.ref aa, .ref ba], lA g aa 25 A0, lA g ba 25 B0, oB tpr 7 [.ref tpa, .int (nI ntp)], bA g tpa 600 tpf, oB khr 7 [.ref kha, .int (nI nkh)], bA g kha 32 khf] rfl ?_
    refine j_st [] rfl ?_
    refine j_aload_n hX 0 dX10_hash_36 rfl ?_
    refine j_get hX in10 10 0 9 (v := .ref hh) rfl rfl (by decide) (List.mem_of_getElem? (i := 1) rfl) rfl rfl dX10_hash_37 ?_
    refine j_iload_n hX 1 dX10_hash_40 rfl ?_
    refine j_callV2 hX 1 (c_ofForm1x l g hh inr outr zo on sp sdr oly otr fm h0 (by omega)) gX10_hash_X5_ofForm (by decide +kernel) rfl ⟨rfl, rfl⟩ ⟨Nat.le_of_ble_eq_true rfl, Nat.le_of_ble_eq_true rfl⟩ 5 1 rfl rfl [1] [0, 2, 3, 4, 5, 6, 7, 8, 9, 10, 11, 12, 13] 14 rfl (by decide) (fun jj : Unit => [oB so 10 [.ref tpr, .ref khr, .ref sdr, .ref tdr, .ref kr, .ref sgr, .ref srr, .ref ldr, .ref sp, .ref hh, .ref ch, .ref te, .ref ft, .ref pt], oB hh 5 [.ref inr, .ref outr, .ref zo, .ref on, .ref sp, .ref sdr, .int oly, .int otr], oB inr 7 [.ref ina, .int (nI (0 + ntp))], bA g ina 768 F1, oB zo 4 [.ref sa, .ref wa], iA g sa 8 S0, iA g wa 64 w0, oB on 3 [.ref aa, .ref ba], lA g aa 25 A0, lA g ba 25 B0, oB tpr 7 [.ref tpa, .int (nI ntp)], bA g tpa 600 tpf, oB khr 7 [.ref kha, .int (nI nkh)], bA g kha 32 khf]) (fun _ => rfl) (by decide) [so, hh, inr, ina, zo, sa, wa, on, aa, ba, tpr, tpa, khr, kha] rfl (fun _ => rfl) (fun _ => rfl) [oB so 10 [.ref tpr, .ref khr, .ref sdr, .ref tdr, .ref kr, .ref sgr, .ref srr, .ref ldr, .ref sp, .ref hh, .ref ch, .ref te, .ref ft, .ref pt], oB inr 7 [.ref ina, .int (nI (0 + ntp))], bA g ina 768 F1, oB zo 4 [.ref sa, .ref wa], iA g sa 8 S0, iA g wa 64 w0, oB on 3 [.ref aa, .ref ba], lA g aa 25 A0, lA g ba 25 B0, oB tpr 7 [.ref tpa, .int (nI ntp)], bA g tpa 600 tpf, oB khr 7 [.ref kha, .int (nI nkh)], bA g kha 32 khf] rfl (fun _ => rfl) rfl [] rfl (Nat.le_of_ble_eq_true rfl) ⟨Nat.le_refl _, Nat.le_refl _⟩ dX10_hash_41 ?_
    intro _ hu_4
    refine j_w [oB so 10 [.ref tpr, .ref khr, .ref sdr, .ref tdr, .ref kr, .ref sgr, .ref srr, .ref ldr, .ref sp, .ref hh, .ref ch, .ref te, .ref ft, .ref pt], oB hh 5 [.ref inr, .ref outr, .ref zo, .ref on, .ref sp, .ref sdr, .int oly, .int otr], oB inr 7 [.ref ina, .int (nI (0 + ntp))], bA g ina 768 F1, oB zo 4 [.ref sa, .ref wa], iA g sa 8 S0, iA g wa 64 w0, oB on 3 [.ref aa, .ref ba], lA g aa 25 A0, lA g ba 25 B0, oB tpr 7 [.ref tpa, .int (nI ntp)], bA g tpa 600 tpf, oB khr 7 [.ref kha, .int (nI nkh)], bA g kha 32 khf] rfl ?_
    refine j_st [.ref on] rfl ?_
    refine j_aload_n hX 0 dX10_hash_44 rfl ?_
    refine j_get hX in10 10 0 9 (v := .ref hh) rfl rfl (by decide) (List.mem_of_getElem? (i := 1) rfl) rfl rfl dX10_hash_45 ?_
    refine j_pc 48 rfl ?_
    refine j_get hX in5 5 1 0 (v := .ref inr) rfl rfl (by decide) (List.mem_of_getElem? (i := 2) rfl) rfl rfl dX10_hash_48 ?_
    refine j_aload_n hX 0 dX10_hash_51 rfl ?_
    refine j_get hX in10 10 0 1 (v := .ref khr) rfl rfl (by decide) (List.mem_of_getElem? (i := 4) rfl) rfl rfl dX10_hash_52 ?_
    refine j_callA2 hX 2 (c_digest1 l g on aa ba A0 B0 inr ina (0 + ntp) 768 F1 khr kha nkh khf (by omega) (by omega) (by omega)) gX10_hash_X3_digest_u113X3 rfl (by decide +kernel) rfl ⟨rfl, rfl⟩ ⟨Nat.le_of_ble_eq_true rfl, Nat.le_of_ble_eq_true rfl⟩ 3 7 rfl rfl [7, 8, 9, 2, 3, 12, 13] [0, 1, 4, 5, 6, 10, 11] 14 rfl (by decide) (fun jj : (Nat → Int64) × (Nat → Int64) × Nat × (Nat → Int32) × (Nat → Int32) => [oB so 10 [.ref tpr, .ref khr, .ref sdr, .ref tdr, .ref kr, .ref sgr, .ref srr, .ref ldr, .ref sp, .ref hh, .ref ch, .ref te, .ref ft, .ref pt], oB hh 5 [.ref inr, .ref outr, .ref zo, .ref on, .ref sp, .ref sdr, .int oly, .int otr], oB inr 7 [.ref ina, .int (nI jj.2.2.1)], bA g ina 768 jj.2.2.2.1, oB zo 4 [.ref sa, .ref wa], iA g sa 8 S0, iA g wa 64 w0, oB on 3 [.ref aa, .ref ba], lA g aa 25 jj.1, lA g ba 25 jj.2.1, oB tpr 7 [.ref tpa, .int (nI ntp)], bA g tpa 600 tpf, oB khr 7 [.ref kha, .int (nI 32)], bA g kha 32 jj.2.2.2.2]) (fun _ => rfl) (by decide) [so, hh, inr, ina, zo, sa, wa, on, aa, ba, tpr, tpa, khr, kha] rfl (fun _ => rfl) (fun _ => rfl) [oB so 10 [.ref tpr, .ref khr, .ref sdr, .ref tdr, .ref kr, .ref sgr, .ref srr, .ref ldr, .ref sp, .ref hh, .ref ch, .ref te, .ref ft, .ref pt], oB hh 5 [.ref inr, .ref outr, .ref zo, .ref on, .ref sp, .ref sdr, .int oly, .int otr], oB zo 4 [.ref sa, .ref wa], iA g sa 8 S0, iA g wa 64 w0, oB tpr 7 [.ref tpa, .int (nI ntp)], bA g tpa 600 tpf] rfl (fun _ => rfl) rfl [] rfl (Nat.le_of_ble_eq_true rfl) ⟨Nat.le_refl _, Nat.le_refl _⟩ dX10_hash_55 ?_
    rintro ⟨A5, B5, nl5, G5, FO5⟩ hW
    try dsimp only at hW
    refine j_w [oB so 10 [.ref tpr, .ref khr, .ref sdr, .ref tdr, .ref kr, .ref sgr, .ref srr, .ref ldr, .ref sp, .ref hh, .ref ch, .ref te, .ref ft, .ref pt], oB hh 5 [.ref inr, .ref outr, .ref zo, .ref on, .ref sp, .ref sdr, .int oly, .int otr], oB inr 7 [.ref ina, .int (nI nl5)], bA g ina 768 G5, oB zo 4 [.ref sa, .ref wa], iA g sa 8 S0, iA g wa 64 w0, oB on 3 [.ref aa, .ref ba], lA g aa 25 A5, lA g ba 25 B5, oB tpr 7 [.ref tpa, .int (nI ntp)], bA g tpa 600 tpf, oB khr 7 [.ref kha, .int (nI 32)], bA g kha 32 FO5] rfl ?_
    refine j_st [] rfl ?_
    rw [hF1, slice_put (by first | (simp only [slice_length]; omega) | simp only [slice_length])] at hW
    refine j_aload_n hX 0 dX10_hash_58 rfl ?_
    refine j_get hX in10 10 0 1 (v := .ref khr) rfl rfl (by decide) (List.mem_of_getElem? (i := 4) rfl) rfl rfl dX10_hash_59 ?_
    refine j_get hX in7 7 12 1 (v := .int (nI 32)) rfl rfl (by decide) (List.mem_of_getElem? (i := 5) rfl) rfl rfl dX10_hash_62 ?_
    exact hret (S0, w0, A5, B5, nl5, G5, FO5) (by dsimp only; rw [HH, if_neg h0]; exact hW) 65 _ .ireturn dX10_hash_65 rfl

set_option maxHeartbeats 4000000 in
set_option maxRecDepth 100000 in
/-- hash: outside -/
theorem c_hashF (l : Launch) (g : jG) (so : Nat) (tpr : Nat) (khr : Nat) (sdr : Nat) (tdr : Nat) (kr : Nat) (sgr : Nat) (srr : Nat) (ldr : Nat) (sp : Nat) (hh : Nat) (ch : Nat) (te : Nat) (ft : Nat) (pt : Nat) (xf : Int32) (h0 : ¬ xf = 0) (h1 : ¬ xf = 1) : jC l g yX10_hash wsX10_hash ({ frames := 3, cells := 0, slots := 0, locals := 86 } : Room) [.ref so, .int xf] [oB so 10 [.ref tpr, .ref khr, .ref sdr, .ref tdr, .ref kr, .ref sgr, .ref srr, .ref ldr, .ref sp, .ref hh, .ref ch, .ref te, .ref ft, .ref pt]] (fun jj : Unit => some (.int (-2))) (fun jj : Unit => True) (fun jj : Unit => [oB so 10 [.ref tpr, .ref khr, .ref sdr, .ref tdr, .ref kr, .ref sgr, .ref srr, .ref ldr, .ref sp, .ref hh, .ref ch, .ref te, .ref ft, .ref pt]]) := by
  refine jC.of (cc := cX10_hash) (own := RX10) (maxL := 2) (ret := (some .int)) (by decide +kernel) rfl rfl (Nat.le_of_ble_eq_true rfl) (fun u hu => ⟨_, rfl, rfl⟩) ?_
  intro p e s m below meth c A Q hX hret
  refine j_iload_n hX 1 dX10_hash_0 rfl ?_
  refine j_if_eq hX 12 dX10_hash_1 (by decide) (fun b_1 => absurd b_1 h0) (fun b_1 => ?_)
  refine j_iload_n hX 1 dX10_hash_4 rfl ?_
  refine j_iconst hX (1) dX10_hash_5 (by decide) ?_
  refine j_icmp_eq hX 12 dX10_hash_6 (by decide) (fun b_6 => absurd b_6 h1) (fun b_6 => ?_)
  refine j_bipush hX (-2) dX10_hash_9 (by decide) ?_
  exact hret () trivial 11 _ .ireturn dX10_hash_11 rfl

set_option maxHeartbeats 4000000 in
set_option maxRecDepth 100000 in
/-- shape -/
theorem c_shapeT (l : Launch) (g : jG) (so : Nat) (tpr : Nat) (khr : Nat) (sdr : Nat) (tdr : Nat) (kr : Nat) (sgr : Nat) (srr : Nat) (ldr : Nat) (sp : Nat) (hh : Nat) (ch : Nat) (te : Nat) (ft : Nat) (pt : Nat) (ofm : Nat) (onn : Nat) (oht : Nat) (olys : Nat) (ofa : Nat) (omk : Nat) (fm : Nat) (nn : Nat) (ht : Nat) (lys : Nat) (fa : Nat) (mk : Nat) (kra : Nat) (nk : Nat) (kf : Nat → Int32) (sga : Nat) (nsg : Nat) (sgf : Nat → Int32) (lda : Nat) (nld : Nat) (ldf : Nat → Int32) (fnd : Nat) (mid : Nat) (fna : Nat) (nfd : Nat) (fdf : Nat → Int32) (lvr : Nat) (kna : Nat) (dga : Nat) (enr : Nat) (kn : Nat → Int32) (hfm : fm < 2) (hnn4 : nn = 4 ∨ nn = 8 ∨ nn = 12 ∨ nn = 16) (hht : 1 ≤ ht ∧ ht ≤ 2) (hlys : 1 ≤ lys ∧ lys ≤ 2) (hfa : 1 ≤ fa ∧ fa ≤ 4) (hmk : 1 ≤ mk ∧ mk ≤ 6) : jC l g yX10_shape wsX10_shape ({ frames := 2, cells := 0, slots := 0, locals := 47 } : Room) [.ref so, .int (nI fm), .int (nI nn), .int (nI ht), .int (nI lys), .int (nI fa), .int (nI mk)] [oB so 10 [.ref tpr, .ref khr, .ref sdr, .ref tdr, .ref kr, .ref sgr, .ref srr, .ref ldr, .ref sp, .ref hh, .ref ch, .ref te, .ref ft, .ref pt], oB sp 8 [.int (nI ofm), .int (nI onn), .int (nI oht), .int (nI olys), .int (nI ofa), .int (nI omk)], oB kr 7 [.ref kra, .int (nI nk)], bA g kra 16 kf, oB sgr 7 [.ref sga, .int (nI nsg)], bA g sga 1680 sgf, oB ldr 7 [.ref lda, .int (nI nld)], bA g lda 16 ldf, oB pt 6 [.ref fnd, .ref mid, .ref sp, .ref sdr, .ref hh], oB fnd 7 [.ref fna, .int (nI nfd)], bA g fna 8 fdf, oB ch 0 [.ref lvr, .ref kna, .ref dga, .ref enr, .ref sp, .ref hh], zA g kna 32 kn] (fun jj : (Nat → Int32) => some (.int (nI (sgS nn ht lys fa mk)))) (fun jj : (Nat → Int32) => ∀ i, i < 32 → jj i = 0) (fun jj : (Nat → Int32) => [oB so 10 [.ref tpr, .ref khr, .ref sdr, .ref tdr, .ref kr, .ref sgr, .ref srr, .ref ldr, .ref sp, .ref hh, .ref ch, .ref te, .ref ft, .ref pt], oB sp 8 [.int (nI fm), .int (nI nn), .int (nI ht), .int (nI lys), .int (nI fa), .int (nI mk)], oB kr 7 [.ref kra, .int (nI 0)], bA g kra 16 kf, oB sgr 7 [.ref sga, .int (nI 0)], bA g sga 1680 sgf, oB ldr 7 [.ref lda, .int (nI 0)], bA g lda 16 ldf, oB pt 6 [.ref fnd, .ref mid, .ref sp, .ref sdr, .ref hh], oB fnd 7 [.ref fna, .int (nI 0)], bA g fna 8 fdf, oB ch 0 [.ref lvr, .ref kna, .ref dga, .ref enr, .ref sp, .ref hh], zA g kna 32 jj]) := by
  refine jC.of (cc := cX10_shape) (own := RX10) (maxL := 7) (ret := (some .int)) (by decide +kernel) rfl rfl (Nat.le_of_ble_eq_true rfl) (fun u hu => ⟨_, rfl, rfl⟩) ?_
  intro p e s m below meth c A Q hX hret
  have in6 : ∀ w ∈ wsX60, w ∈ wsX10_shape := (fun w h => List.mem_cons_of_mem _ (List.mem_append_left _ (List.mem_append_left _ (List.mem_append_left _ (List.mem_append_right _ h)))))
  have in10 : ∀ w ∈ wsX100, w ∈ wsX10_shape := (fun w h => List.mem_cons_of_mem _ (List.mem_append_left _ (List.mem_append_left _ (List.mem_append_left _ (List.mem_append_left _ (List.mem_append_right _ h))))))
  refine j_iload_n hX 1 dX10_shape_0 rfl ?_
  refine j_iload_n hX 2 dX10_shape_1 rfl ?_
  refine j_iload_n hX 3 dX10_shape_2 rfl ?_
  refine j_iload hX 4 dX10_shape_3 rfl ?_
  refine j_iload hX 5 dX10_shape_5 rfl ?_
  refine j_iload hX 6 dX10_shape_7 rfl ?_
  refine j_callS2 hX 6 (c_fitsT l g fm nn ht lys fa mk (by omega) (by omega) (by omega) (by omega) (by omega) (by omega)) gX10_shape_X8_fits (by decide +kernel) rfl ⟨rfl, rfl⟩ ⟨Nat.le_of_ble_eq_true rfl, Nat.le_of_ble_eq_true rfl⟩ [] [0, 1, 2, 3, 4, 5, 6, 7, 8, 9, 10, 11, 12] 13 rfl (by decide) (fun jj : Unit => [oB so 10 [.ref tpr, .ref khr, .ref sdr, .ref tdr, .ref kr, .ref sgr, .ref srr, .ref ldr, .ref sp, .ref hh, .ref ch, .ref te, .ref ft, .ref pt], oB sp 8 [.int (nI ofm), .int (nI onn), .int (nI oht), .int (nI olys), .int (nI ofa), .int (nI omk)], oB kr 7 [.ref kra, .int (nI nk)], bA g kra 16 kf, oB sgr 7 [.ref sga, .int (nI nsg)], bA g sga 1680 sgf, oB ldr 7 [.ref lda, .int (nI nld)], bA g lda 16 ldf, oB pt 6 [.ref fnd, .ref mid, .ref sp, .ref sdr, .ref hh], oB fnd 7 [.ref fna, .int (nI nfd)], bA g fna 8 fdf, oB ch 0 [.ref lvr, .ref kna, .ref dga, .ref enr, .ref sp, .ref hh], zA g kna 32 kn]) (fun _ => rfl) (by decide) [so, sp, kr, kra, sgr, sga, ldr, lda, pt, fnd, fna, ch, kna] rfl (fun _ => rfl) (fun _ => rfl) [oB so 10 [.ref tpr, .ref khr, .ref sdr, .ref tdr, .ref kr, .ref sgr, .ref srr, .ref ldr, .ref sp, .ref hh, .ref ch, .ref te, .ref ft, .ref pt], oB sp 8 [.int (nI ofm), .int (nI onn), .int (nI oht), .int (nI olys), .int (nI ofa), .int (nI omk)], oB kr 7 [.ref kra, .int (nI nk)], bA g kra 16 kf, oB sgr 7 [.ref sga, .int (nI nsg)], bA g sga 1680 sgf, oB ldr 7 [.ref lda, .int (nI nld)], bA g lda 16 ldf, oB pt 6 [.ref fnd, .ref mid, .ref sp, .ref sdr, .ref hh], oB fnd 7 [.ref fna, .int (nI nfd)], bA g fna 8 fdf, oB ch 0 [.ref lvr, .ref kna, .ref dga, .ref enr, .ref sp, .ref hh], zA g kna 32 kn] rfl (fun _ => rfl) rfl [] rfl (Nat.le_of_ble_eq_true rfl) ⟨Nat.le_refl _, Nat.le_refl _⟩ dX10_shape_9 ?_
  intro _ hu_1
  refine j_w [oB so 10 [.ref tpr, .ref khr, .ref sdr, .ref tdr, .ref kr, .ref sgr, .ref srr, .ref ldr, .ref sp, .ref hh, .ref ch, .ref te, .ref ft, .ref pt], oB sp 8 [.int (nI ofm), .int (nI onn), .int (nI oht), .int (nI olys), .int (nI ofa), .int (nI omk)], oB kr 7 [.ref kra, .int (nI nk)], bA g kra 16 kf, oB sgr 7 [.ref sga, .int (nI nsg)], bA g sga 1680 sgf, oB ldr 7 [.ref lda, .int (nI nld)], bA g lda 16 ldf, oB pt 6 [.ref fnd, .ref mid, .ref sp, .ref sdr, .ref hh], oB fnd 7 [.ref fna, .int (nI nfd)], bA g fna 8 fdf, oB ch 0 [.ref lvr, .ref kna, .ref dga, .ref enr, .ref sp, .ref hh], zA g kna 32 kn] rfl ?_
  refine j_st [.int (nI 1)] rfl ?_
  refine j_pc 12 rfl ?_
  refine j_if_neN hX 1 18 dX10_shape_12 (by decide) (by omega) (fun b_12 => ?_) (fun b_12 => absurd b_12 (by omega))
  refine j_aload_n hX 0 dX10_shape_18 rfl ?_
  refine j_get hX in10 10 0 8 (v := .ref sp) rfl rfl (by decide) (List.mem_of_getElem? (i := 1) rfl) rfl rfl dX10_shape_19 ?_
  refine j_iload_n hX 1 dX10_shape_22 rfl ?_
  refine j_iload_n hX 2 dX10_shape_23 rfl ?_
  refine j_iload_n hX 3 dX10_shape_24 rfl ?_
  refine j_iload hX 4 dX10_shape_25 rfl ?_
  refine j_iload hX 5 dX10_shape_27 rfl ?_
  refine j_pc 29 rfl ?_
  refine j_iload hX 6 dX10_shape_29 rfl ?_
  refine j_callV2 hX 6 (c_become l g sp (nI ofm) (nI onn) (nI oht) (nI olys) (nI ofa) (nI omk) fm nn ht lys fa mk ) gX10_shape_X8_become (by decide +kernel) rfl ⟨rfl, rfl⟩ ⟨Nat.le_of_ble_eq_true rfl, Nat.le_of_ble_eq_true rfl⟩ 8 1 rfl rfl [1] [0, 2, 3, 4, 5, 6, 7, 8, 9, 10, 11, 12] 13 rfl (by decide) (fun jj : Unit => [oB so 10 [.ref tpr, .ref khr, .ref sdr, .ref tdr, .ref kr, .ref sgr, .ref srr, .ref ldr, .ref sp, .ref hh, .ref ch, .ref te, .ref ft, .ref pt], oB sp 8 [.int (nI fm), .int (nI nn), .int (nI ht), .int (nI lys), .int (nI fa), .int (nI mk)], oB kr 7 [.ref kra, .int (nI nk)], bA g kra 16 kf, oB sgr 7 [.ref sga, .int (nI nsg)], bA g sga 1680 sgf, oB ldr 7 [.ref lda, .int (nI nld)], bA g lda 16 ldf, oB pt 6 [.ref fnd, .ref mid, .ref sp, .ref sdr, .ref hh], oB fnd 7 [.ref fna, .int (nI nfd)], bA g fna 8 fdf, oB ch 0 [.ref lvr, .ref kna, .ref dga, .ref enr, .ref sp, .ref hh], zA g kna 32 kn]) (fun _ => rfl) (by decide) [so, sp, kr, kra, sgr, sga, ldr, lda, pt, fnd, fna, ch, kna] rfl (fun _ => rfl) (fun _ => rfl) [oB so 10 [.ref tpr, .ref khr, .ref sdr, .ref tdr, .ref kr, .ref sgr, .ref srr, .ref ldr, .ref sp, .ref hh, .ref ch, .ref te, .ref ft, .ref pt], oB kr 7 [.ref kra, .int (nI nk)], bA g kra 16 kf, oB sgr 7 [.ref sga, .int (nI nsg)], bA g sga 1680 sgf, oB ldr 7 [.ref lda, .int (nI nld)], bA g lda 16 ldf, oB pt 6 [.ref fnd, .ref mid, .ref sp, .ref sdr, .ref hh], oB fnd 7 [.ref fna, .int (nI nfd)], bA g fna 8 fdf, oB ch 0 [.ref lvr, .ref kna, .ref dga, .ref enr, .ref sp, .ref hh], zA g kna 32 kn] rfl (fun _ => rfl) rfl [] rfl (Nat.le_of_ble_eq_true rfl) ⟨Nat.le_refl _, Nat.le_refl _⟩ dX10_shape_31 ?_
  intro _ hu_2
  refine j_w [oB so 10 [.ref tpr, .ref khr, .ref sdr, .ref tdr, .ref kr, .ref sgr, .ref srr, .ref ldr, .ref sp, .ref hh, .ref ch, .ref te, .ref ft, .ref pt], oB sp 8 [.int (nI fm), .int (nI nn), .int (nI ht), .int (nI lys), .int (nI fa), .int (nI mk)], oB kr 7 [.ref kra, .int (nI nk)], bA g kra 16 kf, oB sgr 7 [.ref sga, .int (nI nsg)], bA g sga 1680 sgf, oB ldr 7 [.ref lda, .int (nI nld)], bA g lda 16 ldf, oB pt 6 [.ref fnd, .ref mid, .ref sp, .ref sdr, .ref hh], oB fnd 7 [.ref fna, .int (nI nfd)], bA g fna 8 fdf, oB ch 0 [.ref lvr, .ref kna, .ref dga, .ref enr, .ref sp, .ref hh], zA g kna 32 kn] rfl ?_
  refine j_st [] rfl ?_
  refine j_aload_n hX 0 dX10_shape_34 rfl ?_
  refine j_get hX in10 10 0 4 (v := .ref kr) rfl rfl (by decide) (List.mem_of_getElem? (i := 2) rfl) rfl rfl dX10_shape_35 ?_
  refine j_callV2 hX 0 (c_clear l g kr kra (nI nk) ) gX10_shape_X7_clear (by decide +kernel) rfl ⟨rfl, rfl⟩ ⟨Nat.le_of_ble_eq_true rfl, Nat.le_of_ble_eq_true rfl⟩ 7 2 rfl rfl [2] [0, 1, 3, 4, 5, 6, 7, 8, 9, 10, 11, 12] 13 rfl (by decide) (fun jj : Unit => [oB so 10 [.ref tpr, .ref khr, .ref sdr, .ref tdr, .ref kr, .ref sgr, .ref srr, .ref ldr, .ref sp, .ref hh, .ref ch, .ref te, .ref ft, .ref pt], oB sp 8 [.int (nI fm), .int (nI nn), .int (nI ht), .int (nI lys), .int (nI fa), .int (nI mk)], oB kr 7 [.ref kra, .int (nI 0)], bA g kra 16 kf, oB sgr 7 [.ref sga, .int (nI nsg)], bA g sga 1680 sgf, oB ldr 7 [.ref lda, .int (nI nld)], bA g lda 16 ldf, oB pt 6 [.ref fnd, .ref mid, .ref sp, .ref sdr, .ref hh], oB fnd 7 [.ref fna, .int (nI nfd)], bA g fna 8 fdf, oB ch 0 [.ref lvr, .ref kna, .ref dga, .ref enr, .ref sp, .ref hh], zA g kna 32 kn]) (fun _ => rfl) (by decide) [so, sp, kr, kra, sgr, sga, ldr, lda, pt, fnd, fna, ch, kna] rfl (fun _ => rfl) (fun _ => rfl) [oB so 10 [.ref tpr, .ref khr, .ref sdr, .ref tdr, .ref kr, .ref sgr, .ref srr, .ref ldr, .ref sp, .ref hh, .ref ch, .ref te, .ref ft, .ref pt], oB sp 8 [.int (nI fm), .int (nI nn), .int (nI ht), .int (nI lys), .int (nI fa), .int (nI mk)], bA g kra 16 kf, oB sgr 7 [.ref sga, .int (nI nsg)], bA g sga 1680 sgf, oB ldr 7 [.ref lda, .int (nI nld)], bA g lda 16 ldf, oB pt 6 [.ref fnd, .ref mid, .ref sp, .ref sdr, .ref hh], oB fnd 7 [.ref fna, .int (nI nfd)], bA g fna 8 fdf, oB ch 0 [.ref lvr, .ref kna, .ref dga, .ref enr, .ref sp, .ref hh], zA g kna 32 kn] rfl (fun _ => rfl) rfl [] rfl (Nat.le_of_ble_eq_true rfl) ⟨Nat.le_refl _, Nat.le_refl _⟩ dX10_shape_38 ?_
  intro _ hu_3
  refine j_w [oB so 10 [.ref tpr, .ref khr, .ref sdr, .ref tdr, .ref kr, .ref sgr, .ref srr, .ref ldr, .ref sp, .ref hh, .ref ch, .ref te, .ref ft, .ref pt], oB sp 8 [.int (nI fm), .int (nI nn), .int (nI ht), .int (nI lys), .int (nI fa), .int (nI mk)], oB kr 7 [.ref kra, .int (nI 0)], bA g kra 16 kf, oB sgr 7 [.ref sga, .int (nI nsg)], bA g sga 1680 sgf, oB ldr 7 [.ref lda, .int (nI nld)], bA g lda 16 ldf, oB pt 6 [.ref fnd, .ref mid, .ref sp, .ref sdr, .ref hh], oB fnd 7 [.ref fna, .int (nI nfd)], bA g fna 8 fdf, oB ch 0 [.ref lvr, .ref kna, .ref dga, .ref enr, .ref sp, .ref hh], zA g kna 32 kn] rfl ?_
  refine j_st [] rfl ?_
  refine j_aload_n hX 0 dX10_shape_41 rfl ?_
  refine j_get hX in10 10 0 5 (v := .ref sgr) rfl rfl (by decide) (List.mem_of_getElem? (i := 3) rfl) rfl rfl dX10_shape_42 ?_
  refine j_callV2 hX 0 (c_clear l g sgr sga (nI nsg) ) gX10_shape_X7_clear (by decide +kernel) rfl ⟨rfl, rfl⟩ ⟨Nat.le_of_ble_eq_true rfl, Nat.le_of_ble_eq_true rfl⟩ 7 4 rfl rfl [4] [0, 1, 2, 3, 5, 6, 7, 8, 9, 10, 11, 12] 13 rfl (by decide) (fun jj : Unit => [oB so 10 [.ref tpr, .ref khr, .ref sdr, .ref tdr, .ref kr, .ref sgr, .ref srr, .ref ldr, .ref sp, .ref hh, .ref ch, .ref te, .ref ft, .ref pt], oB sp 8 [.int (nI fm), .int (nI nn), .int (nI ht), .int (nI lys), .int (nI fa), .int (nI mk)], oB kr 7 [.ref kra, .int (nI 0)], bA g kra 16 kf, oB sgr 7 [.ref sga, .int (nI 0)], bA g sga 1680 sgf, oB ldr 7 [.ref lda, .int (nI nld)], bA g lda 16 ldf, oB pt 6 [.ref fnd, .ref mid, .ref sp, .ref sdr, .ref hh], oB fnd 7 [.ref fna, .int (nI nfd)], bA g fna 8 fdf, oB ch 0 [.ref lvr, .ref kna, .ref dga, .ref enr, .ref sp, .ref hh], zA g kna 32 kn]) (fun _ => rfl) (by decide) [so, sp, kr, kra, sgr, sga, ldr, lda, pt, fnd, fna, ch, kna] rfl (fun _ => rfl) (fun _ => rfl) [oB so 10 [.ref tpr, .ref khr, .ref sdr, .ref tdr, .ref kr, .ref sgr, .ref srr, .ref ldr, .ref sp, .ref hh, .ref ch, .ref te, .ref ft, .ref pt], oB sp 8 [.int (nI fm), .int (nI nn), .int (nI ht), .int (nI lys), .int (nI fa), .int (nI mk)], oB kr 7 [.ref kra, .int (nI 0)], bA g kra 16 kf, bA g sga 1680 sgf, oB ldr 7 [.ref lda, .int (nI nld)], bA g lda 16 ldf, oB pt 6 [.ref fnd, .ref mid, .ref sp, .ref sdr, .ref hh], oB fnd 7 [.ref fna, .int (nI nfd)], bA g fna 8 fdf, oB ch 0 [.ref lvr, .ref kna, .ref dga, .ref enr, .ref sp, .ref hh], zA g kna 32 kn] rfl (fun _ => rfl) rfl [] rfl (Nat.le_of_ble_eq_true rfl) ⟨Nat.le_refl _, Nat.le_refl _⟩ dX10_shape_45 ?_
  intro _ hu_4
  refine j_w [oB so 10 [.ref tpr, .ref khr, .ref sdr, .ref tdr, .ref kr, .ref sgr, .ref srr, .ref ldr, .ref sp, .ref hh, .ref ch, .ref te, .ref ft, .ref pt], oB sp 8 [.int (nI fm), .int (nI nn), .int (nI ht), .int (nI lys), .int (nI fa), .int (nI mk)], oB kr 7 [.ref kra, .int (nI 0)], bA g kra 16 kf, oB sgr 7 [.ref sga, .int (nI 0)], bA g sga 1680 sgf, oB ldr 7 [.ref lda, .int (nI nld)], bA g lda 16 ldf, oB pt 6 [.ref fnd, .ref mid, .ref sp, .ref sdr, .ref hh], oB fnd 7 [.ref fna, .int (nI nfd)], bA g fna 8 fdf, oB ch 0 [.ref lvr, .ref kna, .ref dga, .ref enr, .ref sp, .ref hh], zA g kna 32 kn] rfl ?_
  refine j_st [] rfl ?_
  refine j_pc 48 rfl ?_
  refine j_aload_n hX 0 dX10_shape_48 rfl ?_
  refine j_get hX in10 10 0 7 (v := .ref ldr) rfl rfl (by decide) (List.mem_of_getElem? (i := 4) rfl) rfl rfl dX10_shape_49 ?_
  refine j_callV2 hX 0 (c_clear l g ldr lda (nI nld) ) gX10_shape_X7_clear (by decide +kernel) rfl ⟨rfl, rfl⟩ ⟨Nat.le_of_ble_eq_true rfl, Nat.le_of_ble_eq_true rfl⟩ 7 6 rfl rfl [6] [0, 1, 2, 3, 4, 5, 7, 8, 9, 10, 11, 12] 13 rfl (by decide) (fun jj : Unit => [oB so 10 [.ref tpr, .ref khr, .ref sdr, .ref tdr, .ref kr, .ref sgr, .ref srr, .ref ldr, .ref sp, .ref hh, .ref ch, .ref te, .ref ft, .ref pt], oB sp 8 [.int (nI fm), .int (nI nn), .int (nI ht), .int (nI lys), .int (nI fa), .int (nI mk)], oB kr 7 [.ref kra, .int (nI 0)], bA g kra 16 kf, oB sgr 7 [.ref sga, .int (nI 0)], bA g sga 1680 sgf, oB ldr 7 [.ref lda, .int (nI 0)], bA g lda 16 ldf, oB pt 6 [.ref fnd, .ref mid, .ref sp, .ref sdr, .ref hh], oB fnd 7 [.ref fna, .int (nI nfd)], bA g fna 8 fdf, oB ch 0 [.ref lvr, .ref kna, .ref dga, .ref enr, .ref sp, .ref hh], zA g kna 32 kn]) (fun _ => rfl) (by decide) [so, sp, kr, kra, sgr, sga, ldr, lda, pt, fnd, fna, ch, kna] rfl (fun _ => rfl) (fun _ => rfl) [oB so 10 [.ref tpr, .ref khr, .ref sdr, .ref tdr, .ref kr, .ref sgr, .ref srr, .ref ldr, .ref sp, .ref hh, .ref ch, .ref te, .ref ft, .ref pt], oB sp 8 [.int (nI fm), .int (nI nn), .int (nI ht), .int (nI lys), .int (nI fa), .int (nI mk)], oB kr 7 [.ref kra, .int (nI 0)], bA g kra 16 kf, oB sgr 7 [.ref sga, .int (nI 0)], bA g sga 1680 sgf, bA g lda 16 ldf, oB pt 6 [.ref fnd, .ref mid, .ref sp, .ref sdr, .ref hh], oB fnd 7 [.ref fna, .int (nI nfd)], bA g fna 8 fdf, oB ch 0 [.ref lvr, .ref kna, .ref dga, .ref enr, .ref sp, .ref hh], zA g kna 32 kn] rfl (fun _ => rfl) rfl [] rfl (Nat.le_of_ble_eq_true rfl) ⟨Nat.le_refl _, Nat.le_refl _⟩ dX10_shape_52 ?_
  intro _ hu_5
  refine j_w [oB so 10 [.ref tpr, .ref khr, .ref sdr, .ref tdr, .ref kr, .ref sgr, .ref srr, .ref ldr, .ref sp, .ref hh, .ref ch, .ref te, .ref ft, .ref pt], oB sp 8 [.int (nI fm), .int (nI nn), .int (nI ht), .int (nI lys), .int (nI fa), .int (nI mk)], oB kr 7 [.ref kra, .int (nI 0)], bA g kra 16 kf, oB sgr 7 [.ref sga, .int (nI 0)], bA g sga 1680 sgf, oB ldr 7 [.ref lda, .int (nI 0)], bA g lda 16 ldf, oB pt 6 [.ref fnd, .ref mid, .ref sp, .ref sdr, .ref hh], oB fnd 7 [.ref fna, .int (nI nfd)], bA g fna 8 fdf, oB ch 0 [.ref lvr, .ref kna, .ref dga, .ref enr, .ref sp, .ref hh], zA g kna 32 kn] rfl ?_
  refine j_st [] rfl ?_
  refine j_aload_n hX 0 dX10_shape_55 rfl ?_
  refine j_get hX in10 10 0 13 (v := .ref pt) rfl rfl (by decide) (List.mem_of_getElem? (i := 5) rfl) rfl rfl dX10_shape_56 ?_
  refine j_get hX in6 6 8 0 (v := .ref fnd) rfl rfl (by decide) (List.mem_of_getElem? (i := 6) rfl) rfl rfl dX10_shape_59 ?_
  refine j_callV2 hX 0 (c_clear l g fnd fna (nI nfd) ) gX10_shape_X7_clear (by decide +kernel) rfl ⟨rfl, rfl⟩ ⟨Nat.le_of_ble_eq_true rfl, Nat.le_of_ble_eq_true rfl⟩ 7 9 rfl rfl [9] [0, 1, 2, 3, 4, 5, 6, 7, 8, 10, 11, 12] 13 rfl (by decide) (fun jj : Unit => [oB so 10 [.ref tpr, .ref khr, .ref sdr, .ref tdr, .ref kr, .ref sgr, .ref srr, .ref ldr, .ref sp, .ref hh, .ref ch, .ref te, .ref ft, .ref pt], oB sp 8 [.int (nI fm), .int (nI nn), .int (nI ht), .int (nI lys), .int (nI fa), .int (nI mk)], oB kr 7 [.ref kra, .int (nI 0)], bA g kra 16 kf, oB sgr 7 [.ref sga, .int (nI 0)], bA g sga 1680 sgf, oB ldr 7 [.ref lda, .int (nI 0)], bA g lda 16 ldf, oB pt 6 [.ref fnd, .ref mid, .ref sp, .ref sdr, .ref hh], oB fnd 7 [.ref fna, .int (nI 0)], bA g fna 8 fdf, oB ch 0 [.ref lvr, .ref kna, .ref dga, .ref enr, .ref sp, .ref hh], zA g kna 32 kn]) (fun _ => rfl) (by decide) [so, sp, kr, kra, sgr, sga, ldr, lda, pt, fnd, fna, ch, kna] rfl (fun _ => rfl) (fun _ => rfl) [oB so 10 [.ref tpr, .ref khr, .ref sdr, .ref tdr, .ref kr, .ref sgr, .ref srr, .ref ldr, .ref sp, .ref hh, .ref ch, .ref te, .ref ft, .ref pt], oB sp 8 [.int (nI fm), .int (nI nn), .int (nI ht), .int (nI lys), .int (nI fa), .int (nI mk)], oB kr 7 [.ref kra, .int (nI 0)], bA g kra 16 kf, oB sgr 7 [.ref sga, .int (nI 0)], bA g sga 1680 sgf, oB ldr 7 [.ref lda, .int (nI 0)], bA g lda 16 ldf, oB pt 6 [.ref fnd, .ref mid, .ref sp, .ref sdr, .ref hh], bA g fna 8 fdf, oB ch 0 [.ref lvr, .ref kna, .ref dga, .ref enr, .ref sp, .ref hh], zA g kna 32 kn] rfl (fun _ => rfl) rfl [] rfl (Nat.le_of_ble_eq_true rfl) ⟨Nat.le_refl _, Nat.le_refl _⟩ dX10_shape_62 ?_
  intro _ hu_6
  refine j_w [oB so 10 [.ref tpr, .ref khr, .ref sdr, .ref tdr, .ref kr, .ref sgr, .ref srr, .ref ldr, .ref sp, .ref hh, .ref ch, .ref te, .ref ft, .ref pt], oB sp 8 [.int (nI fm), .int (nI nn), .int (nI ht), .int (nI lys), .int (nI fa), .int (nI mk)], oB kr 7 [.ref kra, .int (nI 0)], bA g kra 16 kf, oB sgr 7 [.ref sga, .int (nI 0)], bA g sga 1680 sgf, oB ldr 7 [.ref lda, .int (nI 0)], bA g lda 16 ldf, oB pt 6 [.ref fnd, .ref mid, .ref sp, .ref sdr, .ref hh], oB fnd 7 [.ref fna, .int (nI 0)], bA g fna 8 fdf, oB ch 0 [.ref lvr, .ref kna, .ref dga, .ref enr, .ref sp, .ref hh], zA g kna 32 kn] rfl ?_
  refine j_st [] rfl ?_
  refine j_aload_n hX 0 dX10_shape_65 rfl ?_
  refine j_pc 66 rfl ?_
  refine j_get hX in10 10 0 10 (v := .ref ch) rfl rfl (by decide) (List.mem_of_getElem? (i := 7) rfl) rfl rfl dX10_shape_66 ?_
  refine j_callV2 hX 0 (c_forget l g ch lvr kna dga enr sp hh kn ) gX10_shape_X0_forgetLeaves (by decide +kernel) rfl ⟨rfl, rfl⟩ ⟨Nat.le_of_ble_eq_true rfl, Nat.le_of_ble_eq_true rfl⟩ 0 11 rfl rfl [11, 12] [0, 1, 2, 3, 4, 5, 6, 7, 8, 9, 10] 13 rfl (by decide) (fun jj : (Nat → Int32) => [oB so 10 [.ref tpr, .ref khr, .ref sdr, .ref tdr, .ref kr, .ref sgr, .ref srr, .ref ldr, .ref sp, .ref hh, .ref ch, .ref te, .ref ft, .ref pt], oB sp 8 [.int (nI fm), .int (nI nn), .int (nI ht), .int (nI lys), .int (nI fa), .int (nI mk)], oB kr 7 [.ref kra, .int (nI 0)], bA g kra 16 kf, oB sgr 7 [.ref sga, .int (nI 0)], bA g sga 1680 sgf, oB ldr 7 [.ref lda, .int (nI 0)], bA g lda 16 ldf, oB pt 6 [.ref fnd, .ref mid, .ref sp, .ref sdr, .ref hh], oB fnd 7 [.ref fna, .int (nI 0)], bA g fna 8 fdf, oB ch 0 [.ref lvr, .ref kna, .ref dga, .ref enr, .ref sp, .ref hh], zA g kna 32 jj]) (fun _ => rfl) (by decide) [so, sp, kr, kra, sgr, sga, ldr, lda, pt, fnd, fna, ch, kna] rfl (fun _ => rfl) (fun _ => rfl) [oB so 10 [.ref tpr, .ref khr, .ref sdr, .ref tdr, .ref kr, .ref sgr, .ref srr, .ref ldr, .ref sp, .ref hh, .ref ch, .ref te, .ref ft, .ref pt], oB sp 8 [.int (nI fm), .int (nI nn), .int (nI ht), .int (nI lys), .int (nI fa), .int (nI mk)], oB kr 7 [.ref kra, .int (nI 0)], bA g kra 16 kf, oB sgr 7 [.ref sga, .int (nI 0)], bA g sga 1680 sgf, oB ldr 7 [.ref lda, .int (nI 0)], bA g lda 16 ldf, oB pt 6 [.ref fnd, .ref mid, .ref sp, .ref sdr, .ref hh], oB fnd 7 [.ref fna, .int (nI 0)], bA g fna 8 fdf] rfl (fun _ => rfl) rfl [] rfl (Nat.le_of_ble_eq_true rfl) ⟨Nat.le_refl _, Nat.le_refl _⟩ dX10_shape_69 ?_
  intro K9 hK
  try dsimp only at hK
  refine j_w [oB so 10 [.ref tpr, .ref khr, .ref sdr, .ref tdr, .ref kr, .ref sgr, .ref srr, .ref ldr, .ref sp, .ref hh, .ref ch, .ref te, .ref ft, .ref pt], oB sp 8 [.int (nI fm), .int (nI nn), .int (nI ht), .int (nI lys), .int (nI fa), .int (nI mk)], oB kr 7 [.ref kra, .int (nI 0)], bA g kra 16 kf, oB sgr 7 [.ref sga, .int (nI 0)], bA g sga 1680 sgf, oB ldr 7 [.ref lda, .int (nI 0)], bA g lda 16 ldf, oB pt 6 [.ref fnd, .ref mid, .ref sp, .ref sdr, .ref hh], oB fnd 7 [.ref fna, .int (nI 0)], bA g fna 8 fdf, oB ch 0 [.ref lvr, .ref kna, .ref dga, .ref enr, .ref sp, .ref hh], zA g kna 32 K9] rfl ?_
  refine j_st [] rfl ?_
  refine j_aload_n hX 0 dX10_shape_72 rfl ?_
  refine j_get hX in10 10 0 8 (v := .ref sp) rfl rfl (by decide) (List.mem_of_getElem? (i := 1) rfl) rfl rfl dX10_shape_73 ?_
  refine j_callV2 hX 0 (c_size l g sp fm nn ht lys fa mk (by omega)) gX10_shape_X8_size (by decide +kernel) rfl ⟨rfl, rfl⟩ ⟨Nat.le_of_ble_eq_true rfl, Nat.le_of_ble_eq_true rfl⟩ 8 1 rfl rfl [1] [0, 2, 3, 4, 5, 6, 7, 8, 9, 10, 11, 12] 13 rfl (by decide) (fun jj : Unit => [oB so 10 [.ref tpr, .ref khr, .ref sdr, .ref tdr, .ref kr, .ref sgr, .ref srr, .ref ldr, .ref sp, .ref hh, .ref ch, .ref te, .ref ft, .ref pt], oB sp 8 [.int (nI fm), .int (nI nn), .int (nI ht), .int (nI lys), .int (nI fa), .int (nI mk)], oB kr 7 [.ref kra, .int (nI 0)], bA g kra 16 kf, oB sgr 7 [.ref sga, .int (nI 0)], bA g sga 1680 sgf, oB ldr 7 [.ref lda, .int (nI 0)], bA g lda 16 ldf, oB pt 6 [.ref fnd, .ref mid, .ref sp, .ref sdr, .ref hh], oB fnd 7 [.ref fna, .int (nI 0)], bA g fna 8 fdf, oB ch 0 [.ref lvr, .ref kna, .ref dga, .ref enr, .ref sp, .ref hh], zA g kna 32 K9]) (fun _ => rfl) (by decide) [so, sp, kr, kra, sgr, sga, ldr, lda, pt, fnd, fna, ch, kna] rfl (fun _ => rfl) (fun _ => rfl) [oB so 10 [.ref tpr, .ref khr, .ref sdr, .ref tdr, .ref kr, .ref sgr, .ref srr, .ref ldr, .ref sp, .ref hh, .ref ch, .ref te, .ref ft, .ref pt], oB kr 7 [.ref kra, .int (nI 0)], bA g kra 16 kf, oB sgr 7 [.ref sga, .int (nI 0)], bA g sga 1680 sgf, oB ldr 7 [.ref lda, .int (nI 0)], bA g lda 16 ldf, oB pt 6 [.ref fnd, .ref mid, .ref sp, .ref sdr, .ref hh], oB fnd 7 [.ref fna, .int (nI 0)], bA g fna 8 fdf, oB ch 0 [.ref lvr, .ref kna, .ref dga, .ref enr, .ref sp, .ref hh], zA g kna 32 K9] rfl (fun _ => rfl) rfl [] rfl (Nat.le_of_ble_eq_true rfl) ⟨Nat.le_refl _, Nat.le_refl _⟩ dX10_shape_76 ?_
  intro _ hu_7
  refine j_w [oB so 10 [.ref tpr, .ref khr, .ref sdr, .ref tdr, .ref kr, .ref sgr, .ref srr, .ref ldr, .ref sp, .ref hh, .ref ch, .ref te, .ref ft, .ref pt], oB sp 8 [.int (nI fm), .int (nI nn), .int (nI ht), .int (nI lys), .int (nI fa), .int (nI mk)], oB kr 7 [.ref kra, .int (nI 0)], bA g kra 16 kf, oB sgr 7 [.ref sga, .int (nI 0)], bA g sga 1680 sgf, oB ldr 7 [.ref lda, .int (nI 0)], bA g lda 16 ldf, oB pt 6 [.ref fnd, .ref mid, .ref sp, .ref sdr, .ref hh], oB fnd 7 [.ref fna, .int (nI 0)], bA g fna 8 fdf, oB ch 0 [.ref lvr, .ref kna, .ref dga, .ref enr, .ref sp, .ref hh], zA g kna 32 K9] rfl ?_
  refine j_st [.int (nI (sgS nn ht lys fa mk))] rfl ?_
  exact hret K9 hK 79 _ .ireturn dX10_shape_79 rfl

set_option maxHeartbeats 4000000 in
set_option maxRecDepth 100000 in
/-- shape: outside -/
theorem c_shapeF (l : Launch) (g : jG) (so : Nat) (tpr : Nat) (khr : Nat) (sdr : Nat) (tdr : Nat) (kr : Nat) (sgr : Nat) (srr : Nat) (ldr : Nat) (sp : Nat) (hh : Nat) (ch : Nat) (te : Nat) (ft : Nat) (pt : Nat) (x0 : Int32) (x1 : Int32) (x2 : Int32) (x3 : Int32) (x4 : Int32) (x5 : Int32) (hF : ¬ fitP x0 x1 x2 x3 x4 x5) : jC l g yX10_shape wsX10_shape ({ frames := 2, cells := 0, slots := 0, locals := 47 } : Room) [.ref so, .int x0, .int x1, .int x2, .int x3, .int x4, .int x5] [oB so 10 [.ref tpr, .ref khr, .ref sdr, .ref tdr, .ref kr, .ref sgr, .ref srr, .ref ldr, .ref sp, .ref hh, .ref ch, .ref te, .ref ft, .ref pt]] (fun jj : Unit => some (.int (-2))) (fun jj : Unit => True) (fun jj : Unit => [oB so 10 [.ref tpr, .ref khr, .ref sdr, .ref tdr, .ref kr, .ref sgr, .ref srr, .ref ldr, .ref sp, .ref hh, .ref ch, .ref te, .ref ft, .ref pt]]) := by
  refine jC.of (cc := cX10_shape) (own := RX10) (maxL := 7) (ret := (some .int)) (by decide +kernel) rfl rfl (Nat.le_of_ble_eq_true rfl) (fun u hu => ⟨_, rfl, rfl⟩) ?_
  intro p e s m below meth c A Q hX hret
  refine j_iload_n hX 1 dX10_shape_0 rfl ?_
  refine j_iload_n hX 2 dX10_shape_1 rfl ?_
  refine j_iload_n hX 3 dX10_shape_2 rfl ?_
  refine j_iload hX 4 dX10_shape_3 rfl ?_
  refine j_iload hX 5 dX10_shape_5 rfl ?_
  refine j_iload hX 6 dX10_shape_7 rfl ?_
  refine j_callS2 hX 6 (c_fitsF l g x0 x1 x2 x3 x4 x5 hF) gX10_shape_X8_fits (by decide +kernel) rfl ⟨rfl, rfl⟩ ⟨Nat.le_of_ble_eq_true rfl, Nat.le_of_ble_eq_true rfl⟩ [] [0] 1 rfl (by decide) (fun jj : Unit => [oB so 10 [.ref tpr, .ref khr, .ref sdr, .ref tdr, .ref kr, .ref sgr, .ref srr, .ref ldr, .ref sp, .ref hh, .ref ch, .ref te, .ref ft, .ref pt]]) (fun _ => rfl) (by decide) [so] rfl (fun _ => rfl) (fun _ => rfl) [oB so 10 [.ref tpr, .ref khr, .ref sdr, .ref tdr, .ref kr, .ref sgr, .ref srr, .ref ldr, .ref sp, .ref hh, .ref ch, .ref te, .ref ft, .ref pt]] rfl (fun _ => rfl) rfl [] rfl (Nat.le_of_ble_eq_true rfl) ⟨Nat.le_refl _, Nat.le_refl _⟩ dX10_shape_9 ?_
  intro _ hu_1
  refine j_w [oB so 10 [.ref tpr, .ref khr, .ref sdr, .ref tdr, .ref kr, .ref sgr, .ref srr, .ref ldr, .ref sp, .ref hh, .ref ch, .ref te, .ref ft, .ref pt]] rfl ?_
  refine j_st [.int (nI 0)] rfl ?_
  refine j_pc 12 rfl ?_
  refine j_if_neN hX 0 18 dX10_shape_12 (by decide) (by omega) (fun b_12 => absurd b_12 (by omega)) (fun b_12 => ?_)
  refine j_bipush hX (-2) dX10_shape_15 (by decide) ?_
  exact hret () trivial 17 _ .ireturn dX10_shape_17 rfl

set_option maxHeartbeats 4000000 in
set_option maxRecDepth 100000 in
/-- holdTold -/
theorem c_holdTold (l : Launch) (g : jG) (so : Nat) (tpr : Nat) (khr : Nat) (sdr : Nat) (tdr : Nat) (kr : Nat) (sgr : Nat) (srr : Nat) (ldr : Nat) (sp : Nat) (hh : Nat) (ch : Nat) (te : Nat) (ft : Nat) (pt : Nat) (tda : Nat) (ntd : Nat) (tdf : Nat → Int32) (xh : Int64) (xw : Int64) (hn : ntd ≤ 16) : jC l g yX10_holdTold wsX10_holdTold ({ frames := 1, cells := 0, slots := 0, locals := 24 } : Room) [.ref so, .long xh, .long xw] [oB so 10 [.ref tpr, .ref khr, .ref sdr, .ref tdr, .ref kr, .ref sgr, .ref srr, .ref ldr, .ref sp, .ref hh, .ref ch, .ref te, .ref ft, .ref pt], oB tdr 7 [.ref tda, .int (nI ntd)], bA g tda 16 tdf] (fun jj : (Nat → Int32) => none) (fun jj : (Nat → Int32) => jj = putL tdf 0 (Zl xh 8 ++ Zl xw 8)) (fun jj : (Nat → Int32) => [oB so 10 [.ref tpr, .ref khr, .ref sdr, .ref tdr, .ref kr, .ref sgr, .ref srr, .ref ldr, .ref sp, .ref hh, .ref ch, .ref te, .ref ft, .ref pt], oB tdr 7 [.ref tda, .int (nI 16)], bA g tda 16 jj]) := by
  refine jC.of (cc := cX10_holdTold) (own := RX10) (maxL := 5) (ret := none) (by decide +kernel) rfl rfl (Nat.le_of_ble_eq_true rfl) (fun u hu => rfl) ?_
  intro p e s m below meth c A Q hX hret
  have in10 : ∀ w ∈ wsX100, w ∈ wsX10_holdTold := (fun w h => List.mem_cons_of_mem _ (List.mem_append_left _ (List.mem_append_right _ h)))
  refine j_aload_n hX 0 dX10_holdTold_0 rfl ?_
  refine j_get hX in10 10 0 3 (v := .ref tdr) rfl rfl (by decide) (List.mem_of_getElem? (i := 1) rfl) rfl rfl dX10_holdTold_1 ?_
  refine j_callV2 hX 0 (c_clear l g tdr tda (nI ntd) ) gX10_holdTold_X7_clear (by decide +kernel) rfl ⟨rfl, rfl⟩ ⟨Nat.le_of_ble_eq_true rfl, Nat.le_of_ble_eq_true rfl⟩ 7 1 rfl rfl [1] [0, 2] 3 rfl (by decide) (fun jj : Unit => [oB so 10 [.ref tpr, .ref khr, .ref sdr, .ref tdr, .ref kr, .ref sgr, .ref srr, .ref ldr, .ref sp, .ref hh, .ref ch, .ref te, .ref ft, .ref pt], oB tdr 7 [.ref tda, .int (nI 0)], bA g tda 16 tdf]) (fun _ => rfl) (by decide) [so, tdr, tda] rfl (fun _ => rfl) (fun _ => rfl) [oB so 10 [.ref tpr, .ref khr, .ref sdr, .ref tdr, .ref kr, .ref sgr, .ref srr, .ref ldr, .ref sp, .ref hh, .ref ch, .ref te, .ref ft, .ref pt], bA g tda 16 tdf] rfl (fun _ => rfl) rfl [] rfl (Nat.le_of_ble_eq_true rfl) ⟨Nat.le_refl _, Nat.le_refl _⟩ dX10_holdTold_4 ?_
  intro _ hu_1
  refine j_w [oB so 10 [.ref tpr, .ref khr, .ref sdr, .ref tdr, .ref kr, .ref sgr, .ref srr, .ref ldr, .ref sp, .ref hh, .ref ch, .ref te, .ref ft, .ref pt], oB tdr 7 [.ref tda, .int (nI 0)], bA g tda 16 tdf] rfl ?_
  refine j_st [] rfl ?_
  refine j_aload_n hX 0 dX10_holdTold_7 rfl ?_
  refine j_get hX in10 10 0 3 (v := .ref tdr) rfl rfl (by decide) (List.mem_of_getElem? (i := 1) rfl) rfl rfl dX10_holdTold_8 ?_
  refine j_lload_n hX 1 dX10_holdTold_11 rfl ?_
  refine j_bipush hX (8) dX10_holdTold_12 (by decide) ?_
  refine j_pc 14 rfl ?_
  refine j_callV2 hX 2 (c_addNumber l g tdr tda 0 16 tdf xh 8 (by omega) (by omega) (by omega)) gX10_holdTold_X7_addNumber (by decide +kernel) rfl ⟨rfl, rfl⟩ ⟨Nat.le_of_ble_eq_true rfl, Nat.le_of_ble_eq_true rfl⟩ 7 1 rfl rfl [1, 2] [0] 3 rfl (by decide) (fun jj : (Nat → Int32) => [oB so 10 [.ref tpr, .ref khr, .ref sdr, .ref tdr, .ref kr, .ref sgr, .ref srr, .ref ldr, .ref sp, .ref hh, .ref ch, .ref te, .ref ft, .ref pt], oB tdr 7 [.ref tda, .int (nI (0 + 8))], bA g tda 16 jj]) (fun _ => rfl) (by decide) [so, tdr, tda] rfl (fun _ => rfl) (fun _ => rfl) [oB so 10 [.ref tpr, .ref khr, .ref sdr, .ref tdr, .ref kr, .ref sgr, .ref srr, .ref ldr, .ref sp, .ref hh, .ref ch, .ref te, .ref ft, .ref pt]] rfl (fun _ => rfl) rfl [] rfl (Nat.le_of_ble_eq_true rfl) ⟨Nat.le_refl _, Nat.le_refl _⟩ dX10_holdTold_14 ?_
  intro F1 hF1
  try dsimp only at hF1
  refine j_w [oB so 10 [.ref tpr, .ref khr, .ref sdr, .ref tdr, .ref kr, .ref sgr, .ref srr, .ref ldr, .ref sp, .ref hh, .ref ch, .ref te, .ref ft, .ref pt], oB tdr 7 [.ref tda, .int (nI (0 + 8))], bA g tda 16 F1] rfl ?_
  refine j_st [] rfl ?_
  refine j_aload_n hX 0 dX10_holdTold_17 rfl ?_
  refine j_get hX in10 10 0 3 (v := .ref tdr) rfl rfl (by decide) (List.mem_of_getElem? (i := 1) rfl) rfl rfl dX10_holdTold_18 ?_
  refine j_lload_n hX 2 dX10_holdTold_21 rfl ?_
  refine j_bipush hX (8) dX10_holdTold_22 (by decide) ?_
  refine j_callV2 hX 2 (c_addNumber l g tdr tda (0 + 8) 16 F1 xw 8 (by omega) (by omega) (by omega)) gX10_holdTold_X7_addNumber (by decide +kernel) rfl ⟨rfl, rfl⟩ ⟨Nat.le_of_ble_eq_true rfl, Nat.le_of_ble_eq_true rfl⟩ 7 1 rfl rfl [1, 2] [0] 3 rfl (by decide) (fun jj : (Nat → Int32) => [oB so 10 [.ref tpr, .ref khr, .ref sdr, .ref tdr, .ref kr, .ref sgr, .ref srr, .ref ldr, .ref sp, .ref hh, .ref ch, .ref te, .ref ft, .ref pt], oB tdr 7 [.ref tda, .int (nI ((0 + 8) + 8))], bA g tda 16 jj]) (fun _ => rfl) (by decide) [so, tdr, tda] rfl (fun _ => rfl) (fun _ => rfl) [oB so 10 [.ref tpr, .ref khr, .ref sdr, .ref tdr, .ref kr, .ref sgr, .ref srr, .ref ldr, .ref sp, .ref hh, .ref ch, .ref te, .ref ft, .ref pt]] rfl (fun _ => rfl) rfl [] rfl (Nat.le_of_ble_eq_true rfl) ⟨Nat.le_refl _, Nat.le_refl _⟩ dX10_holdTold_24 ?_
  intro F2 hF2
  try dsimp only at hF2
  refine j_w [oB so 10 [.ref tpr, .ref khr, .ref sdr, .ref tdr, .ref kr, .ref sgr, .ref srr, .ref ldr, .ref sp, .ref hh, .ref ch, .ref te, .ref ft, .ref pt], oB tdr 7 [.ref tda, .int (nI ((0 + 8) + 8))], bA g tda 16 F2] rfl ?_
  refine j_st [] rfl ?_
  rw [hF1, putL_app' (by first | (simp only [List.length_append, Zl_length]; omega) | simp only [List.length_append, Zl_length])] at hF2
  refine j_w [oB so 10 [.ref tpr, .ref khr, .ref sdr, .ref tdr, .ref kr, .ref sgr, .ref srr, .ref ldr, .ref sp, .ref hh, .ref ch, .ref te, .ref ft, .ref pt], oB tdr 7 [.ref tda, .int (nI 16)], bA g tda 16 F2] rfl ?_
  exact hret F2 hF2 27 _ .return_ dX10_holdTold_27 rfl

set_option maxHeartbeats 4000000 in
set_option maxRecDepth 100000 in
/-- seed -/
theorem c_seedT (l : Launch) (g : jG) (so : Nat) (tpr : Nat) (khr : Nat) (sdr : Nat) (tdr : Nat) (kr : Nat) (sgr : Nat) (srr : Nat) (ldr : Nat) (sp : Nat) (hh : Nat) (ch : Nat) (te : Nat) (ft : Nat) (pt : Nat) (sda : Nat) (sd : Nat → Int32) (tda : Nat) (ntd : Nat) (tdf : Nat → Int32) (kra : Nat) (nk : Nat) (kf : Nat → Int32) (lvr : Nat) (kna : Nat) (dga : Nat) (enr : Nat) (kn : Nat → Int32) (w : Nat) (xh : Int64) (xw : Int64) (hw : w < 3) (hntd : ntd ≤ 16) (hDB : isB tdf) : jC l g yX10_seed wsX10_seed ({ frames := 2, cells := 0, slots := 0, locals := 65 } : Room) [.ref so, .int (nI w), .long xh, .long xw] [oB so 10 [.ref tpr, .ref khr, .ref sdr, .ref tdr, .ref kr, .ref sgr, .ref srr, .ref ldr, .ref sp, .ref hh, .ref ch, .ref te, .ref ft, .ref pt], oB sdr 7 [.ref sda, .int (nI 48)], bA g sda 48 sd, oB tdr 7 [.ref tda, .int (nI ntd)], bA g tda 16 tdf, oB kr 7 [.ref kra, .int (nI nk)], bA g kra 16 kf, oB ch 0 [.ref lvr, .ref kna, .ref dga, .ref enr, .ref sp, .ref hh], zA g kna 32 kn] (fun jj : (Nat → Int32) × (Nat → Int32) × (Nat → Int32) => some (.int (nI 1))) (fun jj : (Nat → Int32) × (Nat → Int32) × (Nat → Int32) => jj.1 = putL sd (16 * w) (Zl xh 8 ++ Zl xw 8) ∧ isB jj.2.1 ∧ ∀ i, i < 32 → jj.2.2 i = 0) (fun jj : (Nat → Int32) × (Nat → Int32) × (Nat → Int32) => [oB so 10 [.ref tpr, .ref khr, .ref sdr, .ref tdr, .ref kr, .ref sgr, .ref srr, .ref ldr, .ref sp, .ref hh, .ref ch, .ref te, .ref ft, .ref pt], oB sdr 7 [.ref sda, .int (nI 48)], bA g sda 48 jj.1, oB tdr 7 [.ref tda, .int (nI 16)], bA g tda 16 jj.2.1, oB kr 7 [.ref kra, .int (nI 0)], bA g kra 16 kf, oB ch 0 [.ref lvr, .ref kna, .ref dga, .ref enr, .ref sp, .ref hh], zA g kna 32 jj.2.2]) := by
  refine jC.of (cc := cX10_seed) (own := RX10) (maxL := 6) (ret := (some .int)) (by decide +kernel) rfl rfl (Nat.le_of_ble_eq_true rfl) (fun u hu => ⟨_, rfl, rfl⟩) ?_
  intro p e s m below meth c A Q hX hret
  have in10 : ∀ w ∈ wsX100, w ∈ wsX10_seed := (fun w h => List.mem_cons_of_mem _ (List.mem_append_left _ (List.mem_append_left _ (List.mem_append_right _ h))))
  refine j_iload_n hX 1 dX10_seed_0 rfl ?_
  refine j_if_ltN hX w 9 dX10_seed_1 (by decide) (by omega) (fun b_1 => absurd b_1 not_false) (fun b_1 => ?_)
  refine j_iload_n hX 1 dX10_seed_4 rfl ?_
  refine j_iconst hX (3) dX10_seed_5 (by decide) ?_
  refine j_icmp_ltN hX w 3 12 dX10_seed_6 (by decide) (by omega) (by omega) (fun b_6 => ?_) (fun b_6 => absurd b_6 (by omega))
  refine j_aload_n hX 0 dX10_seed_12 rfl ?_
  refine j_lload_n hX 2 dX10_seed_13 rfl ?_
  refine j_pc 14 rfl ?_
  refine j_lload hX 3 dX10_seed_14 rfl ?_
  refine j_callV2 hX 2 (c_holdTold l g so tpr khr sdr tdr kr sgr srr ldr sp hh ch te ft pt tda ntd tdf xh xw (by omega)) gX10_seed_X10_holdTold (by decide +kernel) rfl ⟨rfl, rfl⟩ ⟨Nat.le_of_ble_eq_true rfl, Nat.le_of_ble_eq_true rfl⟩ 10 0 rfl rfl [0, 3, 4] [1, 2, 5, 6, 7, 8] 9 rfl (by decide) (fun jj : (Nat → Int32) => [oB so 10 [.ref tpr, .ref khr, .ref sdr, .ref tdr, .ref kr, .ref sgr, .ref srr, .ref ldr, .ref sp, .ref hh, .ref ch, .ref te, .ref ft, .ref pt], oB sdr 7 [.ref sda, .int (nI 48)], bA g sda 48 sd, oB tdr 7 [.ref tda, .int (nI 16)], bA g tda 16 jj, oB kr 7 [.ref kra, .int (nI nk)], bA g kra 16 kf, oB ch 0 [.ref lvr, .ref kna, .ref dga, .ref enr, .ref sp, .ref hh], zA g kna 32 kn]) (fun _ => rfl) (by decide) [so, sdr, sda, tdr, tda, kr, kra, ch, kna] rfl (fun _ => rfl) (fun _ => rfl) [oB sdr 7 [.ref sda, .int (nI 48)], bA g sda 48 sd, oB kr 7 [.ref kra, .int (nI nk)], bA g kra 16 kf, oB ch 0 [.ref lvr, .ref kna, .ref dga, .ref enr, .ref sp, .ref hh], zA g kna 32 kn] rfl (fun _ => rfl) rfl [] rfl (Nat.le_of_ble_eq_true rfl) ⟨Nat.le_refl _, Nat.le_refl _⟩ dX10_seed_16 ?_
  intro TD9 hT
  try dsimp only at hT
  refine j_w [oB so 10 [.ref tpr, .ref khr, .ref sdr, .ref tdr, .ref kr, .ref sgr, .ref srr, .ref ldr, .ref sp, .ref hh, .ref ch, .ref te, .ref ft, .ref pt], oB sdr 7 [.ref sda, .int (nI 48)], bA g sda 48 sd, oB tdr 7 [.ref tda, .int (nI 16)], bA g tda 16 TD9, oB kr 7 [.ref kra, .int (nI nk)], bA g kra 16 kf, oB ch 0 [.ref lvr, .ref kna, .ref dga, .ref enr, .ref sp, .ref hh], zA g kna 32 kn] rfl ?_
  refine j_st [] rfl ?_
  have hTB9 : isB TD9 := by rw [hT]; exact putL_B hDB (isBL_app (Zl_B _ _) (Zl_B _ _))
  refine j_aload_n hX 0 dX10_seed_19 rfl ?_
  refine j_get hX in10 10 0 2 (v := .ref sdr) rfl rfl (by decide) (List.mem_of_getElem? (i := 1) rfl) rfl rfl dX10_seed_20 ?_
  refine j_iload_n hX 1 dX10_seed_23 rfl ?_
  refine j_bipush hX (16) dX10_seed_24 (by decide) ?_
  refine j_imulN hX w 16 dX10_seed_26 ?_
  refine j_aload_n hX 0 dX10_seed_27 rfl ?_
  refine j_pc 28 rfl ?_
  refine j_get hX in10 10 0 3 (v := .ref tdr) rfl rfl (by decide) (List.mem_of_getElem? (i := 2) rfl) rfl rfl dX10_seed_28 ?_
  refine j_iconst hX (0) dX10_seed_31 (by decide) ?_
  refine j_bipush hX (16) dX10_seed_32 (by decide) ?_
  refine j_callV2 hX 4 (c_lay l g sdr sda 48 48 sd tdr tda 16 16 TD9 (w * 16) 0 16 (by omega) (by omega) (by omega) (by omega) hTB9 (by omega) (by omega) (by omega)) gX10_seed_X7_lay (by decide +kernel) rfl ⟨rfl, rfl⟩ ⟨Nat.le_of_ble_eq_true rfl, Nat.le_of_ble_eq_true rfl⟩ 7 1 rfl rfl [1, 2, 3, 4] [0, 5, 6, 7, 8] 9 rfl (by decide) (fun jj : (Nat → Int32) => [oB so 10 [.ref tpr, .ref khr, .ref sdr, .ref tdr, .ref kr, .ref sgr, .ref srr, .ref ldr, .ref sp, .ref hh, .ref ch, .ref te, .ref ft, .ref pt], oB sdr 7 [.ref sda, .int (nI (max 48 ((w * 16) + 16)))], bA g sda 48 jj, oB tdr 7 [.ref tda, .int (nI 16)], bA g tda 16 TD9, oB kr 7 [.ref kra, .int (nI nk)], bA g kra 16 kf, oB ch 0 [.ref lvr, .ref kna, .ref dga, .ref enr, .ref sp, .ref hh], zA g kna 32 kn]) (fun _ => rfl) (by decide) [so, sdr, sda, tdr, tda, kr, kra, ch, kna] rfl (fun _ => rfl) (fun _ => rfl) [oB so 10 [.ref tpr, .ref khr, .ref sdr, .ref tdr, .ref kr, .ref sgr, .ref srr, .ref ldr, .ref sp, .ref hh, .ref ch, .ref te, .ref ft, .ref pt], oB kr 7 [.ref kra, .int (nI nk)], bA g kra 16 kf, oB ch 0 [.ref lvr, .ref kna, .ref dga, .ref enr, .ref sp, .ref hh], zA g kna 32 kn] rfl (fun _ => rfl) rfl [] rfl (Nat.le_of_ble_eq_true rfl) ⟨Nat.le_refl _, Nat.le_refl _⟩ dX10_seed_34 ?_
  intro SD9 hS
  try dsimp only at hS
  refine j_w [oB so 10 [.ref tpr, .ref khr, .ref sdr, .ref tdr, .ref kr, .ref sgr, .ref srr, .ref ldr, .ref sp, .ref hh, .ref ch, .ref te, .ref ft, .ref pt], oB sdr 7 [.ref sda, .int (nI (max 48 ((w * 16) + 16)))], bA g sda 48 SD9, oB tdr 7 [.ref tda, .int (nI 16)], bA g tda 16 TD9, oB kr 7 [.ref kra, .int (nI nk)], bA g kra 16 kf, oB ch 0 [.ref lvr, .ref kna, .ref dga, .ref enr, .ref sp, .ref hh], zA g kna 32 kn] rfl ?_
  refine j_st [] rfl ?_
  rw [hT, slice_put (by first | (simp only [List.length_append, Zl_length]; omega) | simp only [List.length_append, Zl_length]), Nat.mul_comm] at hS
  refine j_w [oB so 10 [.ref tpr, .ref khr, .ref sdr, .ref tdr, .ref kr, .ref sgr, .ref srr, .ref ldr, .ref sp, .ref hh, .ref ch, .ref te, .ref ft, .ref pt], oB sdr 7 [.ref sda, .int (nI 48)], bA g sda 48 SD9, oB tdr 7 [.ref tda, .int (nI 16)], bA g tda 16 TD9, oB kr 7 [.ref kra, .int (nI nk)], bA g kra 16 kf, oB ch 0 [.ref lvr, .ref kna, .ref dga, .ref enr, .ref sp, .ref hh], zA g kna 32 kn] (by rw [show max 48 (w * 16 + 16) = 48 by omega]) ?_
  refine j_aload_n hX 0 dX10_seed_37 rfl ?_
  refine j_get hX in10 10 0 4 (v := .ref kr) rfl rfl (by decide) (List.mem_of_getElem? (i := 3) rfl) rfl rfl dX10_seed_38 ?_
  refine j_callV2 hX 0 (c_clear l g kr kra (nI nk) ) gX10_seed_X7_clear (by decide +kernel) rfl ⟨rfl, rfl⟩ ⟨Nat.le_of_ble_eq_true rfl, Nat.le_of_ble_eq_true rfl⟩ 7 5 rfl rfl [5] [0, 1, 2, 3, 4, 6, 7, 8] 9 rfl (by decide) (fun jj : Unit => [oB so 10 [.ref tpr, .ref khr, .ref sdr, .ref tdr, .ref kr, .ref sgr, .ref srr, .ref ldr, .ref sp, .ref hh, .ref ch, .ref te, .ref ft, .ref pt], oB sdr 7 [.ref sda, .int (nI 48)], bA g sda 48 SD9, oB tdr 7 [.ref tda, .int (nI 16)], bA g tda 16 TD9, oB kr 7 [.ref kra, .int (nI 0)], bA g kra 16 kf, oB ch 0 [.ref lvr, .ref kna, .ref dga, .ref enr, .ref sp, .ref hh], zA g kna 32 kn]) (fun _ => rfl) (by decide) [so, sdr, sda, tdr, tda, kr, kra, ch, kna] rfl (fun _ => rfl) (fun _ => rfl) [oB so 10 [.ref tpr, .ref khr, .ref sdr, .ref tdr, .ref kr, .ref sgr, .ref srr, .ref ldr, .ref sp, .ref hh, .ref ch, .ref te, .ref ft, .ref pt], oB sdr 7 [.ref sda, .int (nI 48)], bA g sda 48 SD9, oB tdr 7 [.ref tda, .int (nI 16)], bA g tda 16 TD9, bA g kra 16 kf, oB ch 0 [.ref lvr, .ref kna, .ref dga, .ref enr, .ref sp, .ref hh], zA g kna 32 kn] rfl (fun _ => rfl) rfl [] rfl (Nat.le_of_ble_eq_true rfl) ⟨Nat.le_refl _, Nat.le_refl _⟩ dX10_seed_41 ?_
  intro _ hu_1
  refine j_w [oB so 10 [.ref tpr, .ref khr, .ref sdr, .ref tdr, .ref kr, .ref sgr, .ref srr, .ref ldr, .ref sp, .ref hh, .ref ch, .ref te, .ref ft, .ref pt], oB sdr 7 [.ref sda, .int (nI 48)], bA g sda 48 SD9, oB tdr 7 [.ref tda, .int (nI 16)], bA g tda 16 TD9, oB kr 7 [.ref kra, .int (nI 0)], bA g kra 16 kf, oB ch 0 [.ref lvr, .ref kna, .ref dga, .ref enr, .ref sp, .ref hh], zA g kna 32 kn] rfl ?_
  refine j_st [] rfl ?_
  refine j_aload_n hX 0 dX10_seed_44 rfl ?_
  refine j_pc 45 rfl ?_
  refine j_get hX in10 10 0 10 (v := .ref ch) rfl rfl (by decide) (List.mem_of_getElem? (i := 4) rfl) rfl rfl dX10_seed_45 ?_
  refine j_callV2 hX 0 (c_forget l g ch lvr kna dga enr sp hh kn ) gX10_seed_X0_forgetLeaves (by decide +kernel) rfl ⟨rfl, rfl⟩ ⟨Nat.le_of_ble_eq_true rfl, Nat.le_of_ble_eq_true rfl⟩ 0 7 rfl rfl [7, 8] [0, 1, 2, 3, 4, 5, 6] 9 rfl (by decide) (fun jj : (Nat → Int32) => [oB so 10 [.ref tpr, .ref khr, .ref sdr, .ref tdr, .ref kr, .ref sgr, .ref srr, .ref ldr, .ref sp, .ref hh, .ref ch, .ref te, .ref ft, .ref pt], oB sdr 7 [.ref sda, .int (nI 48)], bA g sda 48 SD9, oB tdr 7 [.ref tda, .int (nI 16)], bA g tda 16 TD9, oB kr 7 [.ref kra, .int (nI 0)], bA g kra 16 kf, oB ch 0 [.ref lvr, .ref kna, .ref dga, .ref enr, .ref sp, .ref hh], zA g kna 32 jj]) (fun _ => rfl) (by decide) [so, sdr, sda, tdr, tda, kr, kra, ch, kna] rfl (fun _ => rfl) (fun _ => rfl) [oB so 10 [.ref tpr, .ref khr, .ref sdr, .ref tdr, .ref kr, .ref sgr, .ref srr, .ref ldr, .ref sp, .ref hh, .ref ch, .ref te, .ref ft, .ref pt], oB sdr 7 [.ref sda, .int (nI 48)], bA g sda 48 SD9, oB tdr 7 [.ref tda, .int (nI 16)], bA g tda 16 TD9, oB kr 7 [.ref kra, .int (nI 0)], bA g kra 16 kf] rfl (fun _ => rfl) rfl [] rfl (Nat.le_of_ble_eq_true rfl) ⟨Nat.le_refl _, Nat.le_refl _⟩ dX10_seed_48 ?_
  intro K9 hK
  try dsimp only at hK
  refine j_w [oB so 10 [.ref tpr, .ref khr, .ref sdr, .ref tdr, .ref kr, .ref sgr, .ref srr, .ref ldr, .ref sp, .ref hh, .ref ch, .ref te, .ref ft, .ref pt], oB sdr 7 [.ref sda, .int (nI 48)], bA g sda 48 SD9, oB tdr 7 [.ref tda, .int (nI 16)], bA g tda 16 TD9, oB kr 7 [.ref kra, .int (nI 0)], bA g kra 16 kf, oB ch 0 [.ref lvr, .ref kna, .ref dga, .ref enr, .ref sp, .ref hh], zA g kna 32 K9] rfl ?_
  refine j_st [] rfl ?_
  refine j_iconst hX (1) dX10_seed_51 (by decide) ?_
  exact hret (SD9, TD9, K9) (by dsimp only; exact ⟨hS, hTB9, hK⟩) 52 _ .ireturn dX10_seed_52 rfl

set_option maxHeartbeats 4000000 in
set_option maxRecDepth 100000 in
/-- seed: outside -/
theorem c_seedF (l : Launch) (g : jG) (so : Nat) (tpr : Nat) (khr : Nat) (sdr : Nat) (tdr : Nat) (kr : Nat) (sgr : Nat) (srr : Nat) (ldr : Nat) (sp : Nat) (hh : Nat) (ch : Nat) (te : Nat) (ft : Nat) (pt : Nat) (xk : Int32) (xh : Int64) (xw : Int64) (hF : xk < 0 ∨ 3 ≤ xk) : jC l g yX10_seed wsX10_seed ({ frames := 2, cells := 0, slots := 0, locals := 65 } : Room) [.ref so, .int xk, .long xh, .long xw] [oB so 10 [.ref tpr, .ref khr, .ref sdr, .ref tdr, .ref kr, .ref sgr, .ref srr, .ref ldr, .ref sp, .ref hh, .ref ch, .ref te, .ref ft, .ref pt]] (fun jj : Unit => some (.int (-2))) (fun jj : Unit => True) (fun jj : Unit => [oB so 10 [.ref tpr, .ref khr, .ref sdr, .ref tdr, .ref kr, .ref sgr, .ref srr, .ref ldr, .ref sp, .ref hh, .ref ch, .ref te, .ref ft, .ref pt]]) := by
  refine jC.of (cc := cX10_seed) (own := RX10) (maxL := 6) (ret := (some .int)) (by decide +kernel) rfl rfl (Nat.le_of_ble_eq_true rfl) (fun u hu => ⟨_, rfl, rfl⟩) ?_
  intro p e s m below meth c A Q hX hret
  refine j_iload_n hX 1 dX10_seed_0 rfl ?_
  refine j_if_lt hX 9 dX10_seed_1 (by decide) (fun b_1 => ?_) (fun b_1 => ?_)
  · skip
    refine j_bipush hX (-2) dX10_seed_9 (by decide) ?_
    exact hret () trivial 11 _ .ireturn dX10_seed_11 rfl
  · skip
    refine j_iload_n hX 1 dX10_seed_4 rfl ?_
    refine j_iconst hX (3) dX10_seed_5 (by decide) ?_
    refine j_icmp_lt hX 12 dX10_seed_6 (by decide) (fun b_6 => absurd b_6 (by rcases hF with h | h; exact absurd h b_1; exact Int32.not_lt.mpr h)) (fun b_6 => ?_)
    refine j_pc 9 rfl ?_
    refine j_bipush hX (-2) dX10_seed_9 (by decide) ?_
    exact hret () trivial 11 _ .ireturn dX10_seed_11 rfl

set_option maxHeartbeats 4000000 in
set_option maxRecDepth 100000 in
/-- hasKey -/
theorem c_hasKeyT (l : Launch) (g : jG) (so : Nat) (tpr : Nat) (khr : Nat) (sdr : Nat) (tdr : Nat) (kr : Nat) (sgr : Nat) (srr : Nat) (ldr : Nat) (sp : Nat) (hh : Nat) (ch : Nat) (te : Nat) (ft : Nat) (pt : Nat) (kra : Nat) (nk : Nat) (kf : Nat → Int32) (hk : 0 < nk) (hk2 : nk ≤ 16) : jC l g yX10_hasKey wsX10_hasKey ({ frames := 0, cells := 0, slots := 0, locals := 0 } : Room) [.ref so] [oB so 10 [.ref tpr, .ref khr, .ref sdr, .ref tdr, .ref kr, .ref sgr, .ref srr, .ref ldr, .ref sp, .ref hh, .ref ch, .ref te, .ref ft, .ref pt], oB kr 7 [.ref kra, .int (nI nk)], bA g kra 16 kf] (fun jj : Unit => some (.int (nI 1))) (fun jj : Unit => True) (fun jj : Unit => [oB so 10 [.ref tpr, .ref khr, .ref sdr, .ref tdr, .ref kr, .ref sgr, .ref srr, .ref ldr, .ref sp, .ref hh, .ref ch, .ref te, .ref ft, .ref pt], oB kr 7 [.ref kra, .int (nI nk)], bA g kra 16 kf]) := by
  refine jC.of (cc := cX10_hasKey) (own := RX10) (maxL := 1) (ret := (some .boolean)) (by decide +kernel) rfl rfl (Nat.le_of_ble_eq_true rfl) (fun u hu => ⟨_, rfl, by decide⟩) ?_
  intro p e s m below meth c A Q hX hret
  have in7 : ∀ w ∈ wsX70, w ∈ wsX10_hasKey := (fun w h => List.mem_cons_of_mem _ (List.mem_append_right _ h))
  have in10 : ∀ w ∈ wsX100, w ∈ wsX10_hasKey := (fun w h => List.mem_cons_of_mem _ (List.mem_append_left _ (List.mem_append_right _ h)))
  refine j_aload_n hX 0 dX10_hasKey_0 rfl ?_
  refine j_get hX in10 10 0 4 (v := .ref kr) rfl rfl (by decide) (List.mem_of_getElem? (i := 1) rfl) rfl rfl dX10_hasKey_1 ?_
  refine j_get hX in7 7 1 1 (v := .int (nI nk)) rfl rfl (by decide) (List.mem_of_getElem? (i := 2) rfl) rfl rfl dX10_hasKey_4 ?_
  refine j_if_leN hX nk 14 dX10_hasKey_7 (by decide) (by omega) (fun b_7 => absurd b_7 (by omega)) (fun b_7 => ?_)
  refine j_iconst hX (1) dX10_hasKey_10 (by decide) ?_
  refine j_goto hX 15 dX10_hasKey_11 (by decide) ?_
  exact hret () trivial 15 _ .ireturn dX10_hasKey_15 rfl

set_option maxHeartbeats 4000000 in
set_option maxRecDepth 100000 in
/-- hasKey -/
theorem c_hasKeyF (l : Launch) (g : jG) (so : Nat) (tpr : Nat) (khr : Nat) (sdr : Nat) (tdr : Nat) (kr : Nat) (sgr : Nat) (srr : Nat) (ldr : Nat) (sp : Nat) (hh : Nat) (ch : Nat) (te : Nat) (ft : Nat) (pt : Nat) (kra : Nat) (nk : Nat) (kf : Nat → Int32) (hk : nk = 0) : jC l g yX10_hasKey wsX10_hasKey ({ frames := 0, cells := 0, slots := 0, locals := 0 } : Room) [.ref so] [oB so 10 [.ref tpr, .ref khr, .ref sdr, .ref tdr, .ref kr, .ref sgr, .ref srr, .ref ldr, .ref sp, .ref hh, .ref ch, .ref te, .ref ft, .ref pt], oB kr 7 [.ref kra, .int (nI nk)], bA g kra 16 kf] (fun jj : Unit => some (.int (nI 0))) (fun jj : Unit => True) (fun jj : Unit => [oB so 10 [.ref tpr, .ref khr, .ref sdr, .ref tdr, .ref kr, .ref sgr, .ref srr, .ref ldr, .ref sp, .ref hh, .ref ch, .ref te, .ref ft, .ref pt], oB kr 7 [.ref kra, .int (nI nk)], bA g kra 16 kf]) := by
  refine jC.of (cc := cX10_hasKey) (own := RX10) (maxL := 1) (ret := (some .boolean)) (by decide +kernel) rfl rfl (Nat.le_of_ble_eq_true rfl) (fun u hu => ⟨_, rfl, by decide⟩) ?_
  intro p e s m below meth c A Q hX hret
  have in7 : ∀ w ∈ wsX70, w ∈ wsX10_hasKey := (fun w h => List.mem_cons_of_mem _ (List.mem_append_right _ h))
  have in10 : ∀ w ∈ wsX100, w ∈ wsX10_hasKey := (fun w h => List.mem_cons_of_mem _ (List.mem_append_left _ (List.mem_append_right _ h)))
  refine j_aload_n hX 0 dX10_hasKey_0 rfl ?_
  refine j_get hX in10 10 0 4 (v := .ref kr) rfl rfl (by decide) (List.mem_of_getElem? (i := 1) rfl) rfl rfl dX10_hasKey_1 ?_
  refine j_get hX in7 7 1 1 (v := .int (nI nk)) rfl rfl (by decide) (List.mem_of_getElem? (i := 2) rfl) rfl rfl dX10_hasKey_4 ?_
  refine j_if_leN hX nk 14 dX10_hasKey_7 (by decide) (by omega) (fun b_7 => ?_) (fun b_7 => absurd b_7 (by omega))
  refine j_iconst hX (0) dX10_hasKey_14 (by decide) ?_
  exact hret () trivial 15 _ .ireturn dX10_hasKey_15 rfl

set_option maxHeartbeats 4000000 in
set_option maxRecDepth 100000 in
/-- alter -/
theorem c_alterT (l : Launch) (g : jG) (so : Nat) (tpr : Nat) (khr : Nat) (sdr : Nat) (tdr : Nat) (kr : Nat) (sgr : Nat) (srr : Nat) (ldr : Nat) (sp : Nat) (hh : Nat) (ch : Nat) (te : Nat) (ft : Nat) (pt : Nat) (sga : Nat) (nsg : Nat) (sgf : Nat → Int32) (j : Nat) (q : Nat) (hn : nsg ≤ 1680) (hj : j < nsg) (hq : q < 256) : jC l g yX10_alter wsX10_alter ({ frames := 1, cells := 0, slots := 0, locals := 22 } : Room) [.ref so, .int (nI j), .int (nI q)] [oB so 10 [.ref tpr, .ref khr, .ref sdr, .ref tdr, .ref kr, .ref sgr, .ref srr, .ref ldr, .ref sp, .ref hh, .ref ch, .ref te, .ref ft, .ref pt], oB sgr 7 [.ref sga, .int (nI nsg)], bA g sga 1680 sgf] (fun jj : (Nat → Int32) => some (.int (sgf j &&& 255))) (fun jj : (Nat → Int32) => jj = upd sgf j (i8 (nI q))) (fun jj : (Nat → Int32) => [oB so 10 [.ref tpr, .ref khr, .ref sdr, .ref tdr, .ref kr, .ref sgr, .ref srr, .ref ldr, .ref sp, .ref hh, .ref ch, .ref te, .ref ft, .ref pt], oB sgr 7 [.ref sga, .int (nI nsg)], bA g sga 1680 jj]) := by
  refine jC.of (cc := cX10_alter) (own := RX10) (maxL := 4) (ret := (some .int)) (by decide +kernel) rfl rfl (Nat.le_of_ble_eq_true rfl) (fun u hu => ⟨_, rfl, rfl⟩) ?_
  intro p e s m below meth c A Q hX hret
  have in10 : ∀ w ∈ wsX100, w ∈ wsX10_alter := (fun w h => List.mem_cons_of_mem _ (List.mem_append_left _ (List.mem_append_right _ h)))
  refine j_aload_n hX 0 dX10_alter_0 rfl ?_
  refine j_get hX in10 10 0 5 (v := .ref sgr) rfl rfl (by decide) (List.mem_of_getElem? (i := 1) rfl) rfl rfl dX10_alter_1 ?_
  refine j_iload_n hX 1 dX10_alter_4 rfl ?_
  refine j_callV2 hX 1 (c_at l g sgr sga nsg 1680 sgf (nI j) (by omega) (by omega)) gX10_alter_X7_at (by decide +kernel) rfl ⟨rfl, rfl⟩ ⟨Nat.le_of_ble_eq_true rfl, Nat.le_of_ble_eq_true rfl⟩ 7 1 rfl rfl [1, 2] [0] 3 rfl (by decide) (fun jj : Unit => [oB so 10 [.ref tpr, .ref khr, .ref sdr, .ref tdr, .ref kr, .ref sgr, .ref srr, .ref ldr, .ref sp, .ref hh, .ref ch, .ref te, .ref ft, .ref pt], oB sgr 7 [.ref sga, .int (nI nsg)], bA g sga 1680 sgf]) (fun _ => rfl) (by decide) [so, sgr, sga] rfl (fun _ => rfl) (fun _ => rfl) [oB so 10 [.ref tpr, .ref khr, .ref sdr, .ref tdr, .ref kr, .ref sgr, .ref srr, .ref ldr, .ref sp, .ref hh, .ref ch, .ref te, .ref ft, .ref pt]] rfl (fun _ => rfl) rfl [] rfl (Nat.le_of_ble_eq_true rfl) ⟨Nat.le_refl _, Nat.le_refl _⟩ dX10_alter_5 ?_
  intro _ hu_1
  refine j_w [oB so 10 [.ref tpr, .ref khr, .ref sdr, .ref tdr, .ref kr, .ref sgr, .ref srr, .ref ldr, .ref sp, .ref hh, .ref ch, .ref te, .ref ft, .ref pt], oB sgr 7 [.ref sga, .int (nI nsg)], bA g sga 1680 sgf] rfl ?_
  refine j_st [.int (rAt sgf nsg (nI j))] rfl ?_
  refine j_topeq _ (sgf j &&& 255) (rAt_in hj (by omega)) ?_
  refine j_istore_n hX 3 [(3, .int (sgf j &&& 255)), (0, .ref so), (1, .int (nI j)), (2, .int (nI q))] dX10_alter_8 rfl (by decide) rfl ?_
  refine j_iload_n hX 0 dX10_alter_9 rfl ?_
  refine j_bipush hX (-9) dX10_alter_10 (by decide) ?_
  refine j_pc 12 rfl ?_
  refine j_icmp_eq hX 26 dX10_alter_12 (by decide) (fun b_12 => absurd b_12 (and255_ne _)) (fun b_12 => ?_)
  refine j_iload_n hX 3 dX10_alter_15 rfl ?_
  refine j_if_ltN hX q 26 dX10_alter_16 (by decide) (by omega) (fun b_16 => absurd b_16 not_false) (fun b_16 => ?_)
  refine j_iload_n hX 3 dX10_alter_19 rfl ?_
  refine j_sipush hX (255) dX10_alter_20 (by decide) ?_
  refine j_icmp_leN hX q 255 29 dX10_alter_23 (by decide) (by omega) (by omega) (fun b_23 => ?_) (fun b_23 => absurd b_23 (by omega))
  refine j_aload_n hX 1 dX10_alter_29 rfl ?_
  refine j_get hX in10 10 0 5 (v := .ref sgr) rfl rfl (by decide) (List.mem_of_getElem? (i := 1) rfl) rfl rfl dX10_alter_30 ?_
  refine j_pc 33 rfl ?_
  refine j_iload_n hX 2 dX10_alter_33 rfl ?_
  refine j_iload_n hX 3 dX10_alter_34 rfl ?_
  refine j_callV2 hX 2 (c_put l g sgr sga nsg 1680 sgf j (nI q) (by omega) (by omega) (by omega)) gX10_alter_X7_put (by decide +kernel) rfl ⟨rfl, rfl⟩ ⟨Nat.le_of_ble_eq_true rfl, Nat.le_of_ble_eq_true rfl⟩ 7 1 rfl rfl [1, 2] [0] 3 rfl (by decide) (fun jj : (Nat → Int32) => [oB so 10 [.ref tpr, .ref khr, .ref sdr, .ref tdr, .ref kr, .ref sgr, .ref srr, .ref ldr, .ref sp, .ref hh, .ref ch, .ref te, .ref ft, .ref pt], oB sgr 7 [.ref sga, .int (nI nsg)], bA g sga 1680 jj]) (fun _ => rfl) (by decide) [so, sgr, sga] rfl (fun _ => rfl) (fun _ => rfl) [oB so 10 [.ref tpr, .ref khr, .ref sdr, .ref tdr, .ref kr, .ref sgr, .ref srr, .ref ldr, .ref sp, .ref hh, .ref ch, .ref te, .ref ft, .ref pt]] rfl (fun _ => rfl) rfl [] rfl (Nat.le_of_ble_eq_true rfl) ⟨Nat.le_refl _, Nat.le_refl _⟩ dX10_alter_35 ?_
  intro F9 hP
  try dsimp only at hP
  refine j_w [oB so 10 [.ref tpr, .ref khr, .ref sdr, .ref tdr, .ref kr, .ref sgr, .ref srr, .ref ldr, .ref sp, .ref hh, .ref ch, .ref te, .ref ft, .ref pt], oB sgr 7 [.ref sga, .int (nI nsg)], bA g sga 1680 F9] rfl ?_
  refine j_st [] rfl ?_
  refine j_iload_n hX 0 dX10_alter_38 rfl ?_
  exact hret F9 hP 39 _ .ireturn dX10_alter_39 rfl

set_option maxHeartbeats 4000000 in
set_option maxRecDepth 100000 in
/-- alter: outside -/
theorem c_alterF (l : Launch) (g : jG) (so : Nat) (tpr : Nat) (khr : Nat) (sdr : Nat) (tdr : Nat) (kr : Nat) (sgr : Nat) (srr : Nat) (ldr : Nat) (sp : Nat) (hh : Nat) (ch : Nat) (te : Nat) (ft : Nat) (pt : Nat) (sga : Nat) (nsg : Nat) (sgf : Nat → Int32) (xi : Int32) (xb : Int32) (hn : nsg ≤ 1680) (hF : (xi < 0 ∨ nI nsg ≤ xi) ∨ (xb < 0 ∨ 255 < xb)) : jC l g yX10_alter wsX10_alter ({ frames := 1, cells := 0, slots := 0, locals := 22 } : Room) [.ref so, .int xi, .int xb] [oB so 10 [.ref tpr, .ref khr, .ref sdr, .ref tdr, .ref kr, .ref sgr, .ref srr, .ref ldr, .ref sp, .ref hh, .ref ch, .ref te, .ref ft, .ref pt], oB sgr 7 [.ref sga, .int (nI nsg)], bA g sga 1680 sgf] (fun jj : Unit => some (.int (-2))) (fun jj : Unit => True) (fun jj : Unit => [oB so 10 [.ref tpr, .ref khr, .ref sdr, .ref tdr, .ref kr, .ref sgr, .ref srr, .ref ldr, .ref sp, .ref hh, .ref ch, .ref te, .ref ft, .ref pt], oB sgr 7 [.ref sga, .int (nI nsg)], bA g sga 1680 sgf]) := by
  refine jC.of (cc := cX10_alter) (own := RX10) (maxL := 4) (ret := (some .int)) (by decide +kernel) rfl rfl (Nat.le_of_ble_eq_true rfl) (fun u hu => ⟨_, rfl, rfl⟩) ?_
  intro p e s m below meth c A Q hX hret
  have in10 : ∀ w ∈ wsX100, w ∈ wsX10_alter := (fun w h => List.mem_cons_of_mem _ (List.mem_append_left _ (List.mem_append_right _ h)))
  refine j_aload_n hX 0 dX10_alter_0 rfl ?_
  refine j_get hX in10 10 0 5 (v := .ref sgr) rfl rfl (by decide) (List.mem_of_getElem? (i := 1) rfl) rfl rfl dX10_alter_1 ?_
  refine j_iload_n hX 1 dX10_alter_4 rfl ?_
  refine j_callV2 hX 1 (c_at l g sgr sga nsg 1680 sgf xi (by omega) (by omega)) gX10_alter_X7_at (by decide +kernel) rfl ⟨rfl, rfl⟩ ⟨Nat.le_of_ble_eq_true rfl, Nat.le_of_ble_eq_true rfl⟩ 7 1 rfl rfl [1, 2] [0] 3 rfl (by decide) (fun jj : Unit => [oB so 10 [.ref tpr, .ref khr, .ref sdr, .ref tdr, .ref kr, .ref sgr, .ref srr, .ref ldr, .ref sp, .ref hh, .ref ch, .ref te, .ref ft, .ref pt], oB sgr 7 [.ref sga, .int (nI nsg)], bA g sga 1680 sgf]) (fun _ => rfl) (by decide) [so, sgr, sga] rfl (fun _ => rfl) (fun _ => rfl) [oB so 10 [.ref tpr, .ref khr, .ref sdr, .ref tdr, .ref kr, .ref sgr, .ref srr, .ref ldr, .ref sp, .ref hh, .ref ch, .ref te, .ref ft, .ref pt]] rfl (fun _ => rfl) rfl [] rfl (Nat.le_of_ble_eq_true rfl) ⟨Nat.le_refl _, Nat.le_refl _⟩ dX10_alter_5 ?_
  intro _ hu_1
  refine j_w [oB so 10 [.ref tpr, .ref khr, .ref sdr, .ref tdr, .ref kr, .ref sgr, .ref srr, .ref ldr, .ref sp, .ref hh, .ref ch, .ref te, .ref ft, .ref pt], oB sgr 7 [.ref sga, .int (nI nsg)], bA g sga 1680 sgf] rfl ?_
  refine j_st [.int (rAt sgf nsg xi)] rfl ?_
  refine j_istore_n hX 3 [(3, .int (rAt sgf nsg xi)), (0, .ref so), (1, .int xi), (2, .int xb)] dX10_alter_8 rfl (by decide) rfl ?_
  refine j_iload_n hX 0 dX10_alter_9 rfl ?_
  refine j_bipush hX (-9) dX10_alter_10 (by decide) ?_
  refine j_pc 12 rfl ?_
  refine j_icmp_eq hX 26 dX10_alter_12 (by decide) (fun b_12 => ?_) (fun b_12 => ?_)
  · skip
    refine j_bipush hX (-2) dX10_alter_26 (by decide) ?_
    exact hret () trivial 28 _ .ireturn dX10_alter_28 rfl
  · skip
    refine j_iload_n hX 3 dX10_alter_15 rfl ?_
    refine j_if_lt hX 26 dX10_alter_16 (by decide) (fun b_16 => ?_) (fun b_16 => ?_)
    · skip
      refine j_bipush hX (-2) dX10_alter_26 (by decide) ?_
      exact hret () trivial 28 _ .ireturn dX10_alter_28 rfl
    · skip
      refine j_iload_n hX 3 dX10_alter_19 rfl ?_
      refine j_pc 20 rfl ?_
      refine j_sipush hX (255) dX10_alter_20 (by decide) ?_
      refine j_icmp_le hX 29 dX10_alter_23 (by decide) (fun b_23 => ?_) (fun b_23 => ?_)
      · skip
        exact (by rcases hF with h | h | h; exact absurd (if_pos h) b_12; exact absurd h b_16; exact absurd h (Int32.not_lt.mpr b_23))
      · skip
        refine j_bipush hX (-2) dX10_alter_26 (by decide) ?_
        exact hret () trivial 28 _ .ireturn dX10_alter_28 rfl

set_option maxHeartbeats 4000000 in
set_option maxRecDepth 100000 in
/-- cut -/
theorem c_cutT (l : Launch) (g : jG) (so : Nat) (tpr : Nat) (khr : Nat) (sdr : Nat) (tdr : Nat) (kr : Nat) (sgr : Nat) (srr : Nat) (ldr : Nat) (sp : Nat) (hh : Nat) (ch : Nat) (te : Nat) (ft : Nat) (pt : Nat) (sga : Nat) (nsg : Nat) (sgf : Nat → Int32) (k : Nat) (hn : nsg ≤ 1680) (hk : k ≤ nsg) : jC l g yX10_cut wsX10_cut ({ frames := 0, cells := 0, slots := 0, locals := 0 } : Room) [.ref so, .int (nI k)] [oB so 10 [.ref tpr, .ref khr, .ref sdr, .ref tdr, .ref kr, .ref sgr, .ref srr, .ref ldr, .ref sp, .ref hh, .ref ch, .ref te, .ref ft, .ref pt], oB sgr 7 [.ref sga, .int (nI nsg)], bA g sga 1680 sgf] (fun jj : Unit => some (.int (nI (nsg - k)))) (fun jj : Unit => True) (fun jj : Unit => [oB so 10 [.ref tpr, .ref khr, .ref sdr, .ref tdr, .ref kr, .ref sgr, .ref srr, .ref ldr, .ref sp, .ref hh, .ref ch, .ref te, .ref ft, .ref pt], oB sgr 7 [.ref sga, .int (nI k)], bA g sga 1680 sgf]) := by
  refine jC.of (cc := cX10_cut) (own := RX10) (maxL := 3) (ret := (some .int)) (by decide +kernel) rfl rfl (Nat.le_of_ble_eq_true rfl) (fun u hu => ⟨_, rfl, rfl⟩) ?_
  intro p e s m below meth c A Q hX hret
  have in7 : ∀ w ∈ wsX70, w ∈ wsX10_cut := (fun w h => List.mem_cons_of_mem _ (List.mem_append_right _ h))
  have in10 : ∀ w ∈ wsX100, w ∈ wsX10_cut := (fun w h => List.mem_cons_of_mem _ (List.mem_append_left _ (List.mem_append_right _ h)))
  refine j_iload_n hX 1 dX10_cut_0 rfl ?_
  refine j_if_ltN hX k 15 dX10_cut_1 (by decide) (by omega) (fun b_1 => absurd b_1 not_false) (fun b_1 => ?_)
  refine j_iload_n hX 1 dX10_cut_4 rfl ?_
  refine j_aload_n hX 0 dX10_cut_5 rfl ?_
  refine j_get hX in10 10 0 5 (v := .ref sgr) rfl rfl (by decide) (List.mem_of_getElem? (i := 1) rfl) rfl rfl dX10_cut_6 ?_
  refine j_get hX in7 7 1 1 (v := .int (nI nsg)) rfl rfl (by decide) (List.mem_of_getElem? (i := 2) rfl) rfl rfl dX10_cut_9 ?_
  refine j_icmp_leN hX k nsg 18 dX10_cut_12 (by decide) (by omega) (by omega) (fun b_12 => ?_) (fun b_12 => absurd b_12 (by omega))
  refine j_pc 18 rfl ?_
  refine j_aload_n hX 0 dX10_cut_18 rfl ?_
  refine j_get hX in10 10 0 5 (v := .ref sgr) rfl rfl (by decide) (List.mem_of_getElem? (i := 1) rfl) rfl rfl dX10_cut_19 ?_
  refine j_get hX in7 7 1 1 (v := .int (nI nsg)) rfl rfl (by decide) (List.mem_of_getElem? (i := 2) rfl) rfl rfl dX10_cut_22 ?_
  refine j_iload_n hX 1 dX10_cut_25 rfl ?_
  refine j_isubN hX nsg k (by omega) dX10_cut_26 ?_
  refine j_istore_n hX 2 [(2, .int (nI (nsg - k))), (0, .ref so), (1, .int (nI k))] dX10_cut_27 rfl (by decide) rfl ?_
  refine j_aload_n hX 1 dX10_cut_28 rfl ?_
  refine j_get hX in10 10 0 5 (v := .ref sgr) rfl rfl (by decide) (List.mem_of_getElem? (i := 1) rfl) rfl rfl dX10_cut_29 ?_
  refine j_pc 32 rfl ?_
  refine j_iload_n hX 2 dX10_cut_32 rfl ?_
  refine j_put hX (v := .int (nI k)) (ty := .int) in7 tyX7 tyX7_ok nmX7 7 1 1 rfl rfl (by decide) (List.mem_of_getElem? (i := 2) rfl) rfl rfl rfl rfl rfl (Nat.le_of_ble_eq_true rfl) [oB so 10 [.ref tpr, .ref khr, .ref sdr, .ref tdr, .ref kr, .ref sgr, .ref srr, .ref ldr, .ref sp, .ref hh, .ref ch, .ref te, .ref ft, .ref pt], oB sgr 7 [.ref sga, .int (nI k)], bA g sga 1680 sgf] rfl dX10_cut_33 ?_
  refine j_iload_n hX 0 dX10_cut_36 rfl ?_
  exact hret () trivial 37 _ .ireturn dX10_cut_37 rfl

set_option maxHeartbeats 4000000 in
set_option maxRecDepth 100000 in
/-- cut: outside -/
theorem c_cutF (l : Launch) (g : jG) (so : Nat) (tpr : Nat) (khr : Nat) (sdr : Nat) (tdr : Nat) (kr : Nat) (sgr : Nat) (srr : Nat) (ldr : Nat) (sp : Nat) (hh : Nat) (ch : Nat) (te : Nat) (ft : Nat) (pt : Nat) (sga : Nat) (nsg : Nat) (sgf : Nat → Int32) (xk : Int32) (hn : nsg ≤ 1680) (hF : xk < 0 ∨ nI nsg < xk) : jC l g yX10_cut wsX10_cut ({ frames := 0, cells := 0, slots := 0, locals := 0 } : Room) [.ref so, .int xk] [oB so 10 [.ref tpr, .ref khr, .ref sdr, .ref tdr, .ref kr, .ref sgr, .ref srr, .ref ldr, .ref sp, .ref hh, .ref ch, .ref te, .ref ft, .ref pt], oB sgr 7 [.ref sga, .int (nI nsg)], bA g sga 1680 sgf] (fun jj : Unit => some (.int (-2))) (fun jj : Unit => True) (fun jj : Unit => [oB so 10 [.ref tpr, .ref khr, .ref sdr, .ref tdr, .ref kr, .ref sgr, .ref srr, .ref ldr, .ref sp, .ref hh, .ref ch, .ref te, .ref ft, .ref pt], oB sgr 7 [.ref sga, .int (nI nsg)], bA g sga 1680 sgf]) := by
  refine jC.of (cc := cX10_cut) (own := RX10) (maxL := 3) (ret := (some .int)) (by decide +kernel) rfl rfl (Nat.le_of_ble_eq_true rfl) (fun u hu => ⟨_, rfl, rfl⟩) ?_
  intro p e s m below meth c A Q hX hret
  have in7 : ∀ w ∈ wsX70, w ∈ wsX10_cut := (fun w h => List.mem_cons_of_mem _ (List.mem_append_right _ h))
  have in10 : ∀ w ∈ wsX100, w ∈ wsX10_cut := (fun w h => List.mem_cons_of_mem _ (List.mem_append_left _ (List.mem_append_right _ h)))
  refine j_iload_n hX 1 dX10_cut_0 rfl ?_
  refine j_if_lt hX 15 dX10_cut_1 (by decide) (fun b_1 => ?_) (fun b_1 => ?_)
  · skip
    refine j_bipush hX (-2) dX10_cut_15 (by decide) ?_
    exact hret () trivial 17 _ .ireturn dX10_cut_17 rfl
  · skip
    refine j_iload_n hX 1 dX10_cut_4 rfl ?_
    refine j_aload_n hX 0 dX10_cut_5 rfl ?_
    refine j_get hX in10 10 0 5 (v := .ref sgr) rfl rfl (by decide) (List.mem_of_getElem? (i := 1) rfl) rfl rfl dX10_cut_6 ?_
    refine j_pc 9 rfl ?_
    refine j_get hX in7 7 1 1 (v := .int (nI nsg)) rfl rfl (by decide) (List.mem_of_getElem? (i := 2) rfl) rfl rfl dX10_cut_9 ?_
    refine j_icmp_le hX 18 dX10_cut_12 (by decide) (fun b_12 => absurd b_12 (by rcases hF with h | h; exact absurd h b_1; exact fun hh => absurd h (Int32.not_lt.mpr hh))) (fun b_12 => ?_)
    refine j_bipush hX (-2) dX10_cut_15 (by decide) ?_
    exact hret () trivial 17 _ .ireturn dX10_cut_17 rfl

