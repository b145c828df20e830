/-! the reference's face -/
def feedF (f : Nat → Int32) (n : Nat) (B : Nat → Int32) (q : Nat) : Nat → Int32 := fun j => if n ≤ j ∧ j < n + 20 ∧ (j - n) % 4 < q then B (j - n) else f j
theorem feed_step {f : Nat → Int32} {n q : Nat} {B : Nat → Int32} (hq : q < 4) : upd (upd (upd (upd (upd (feedF f n B q) (n + q) (B q)) (n + q + 4) (B (q + 4))) (n + q + 8) (B (q + 8))) (n + q + 12) (B (q + 12))) (n + q + 16) (B (q + 16)) = feedF f n B (q + 1) := by
  funext j
  have e : ∀ r, j = n + q + r → r % 4 = 0 → r < 20 → feedF f n B (q + 1) j = B (q + r) := by
    intro r h1 h2 h3
    unfold feedF
    rw [if_pos (by omega), show j - n = q + r by omega]
  by_cases h5 : j = n + q + 16
  · rw [e 16 h5 (by decide) (by decide), h5, pk_us]
  rw [pk_un h5]
  by_cases h4 : j = n + q + 12
  · rw [e 12 h4 (by decide) (by decide), h4, pk_us]
  rw [pk_un h4]
  by_cases h3 : j = n + q + 8
  · rw [e 8 h3 (by decide) (by decide), h3, pk_us]
  rw [pk_un h3]
  by_cases h2 : j = n + q + 4
  · rw [e 4 h2 (by decide) (by decide), h2, pk_us]
  rw [pk_un h2]
  by_cases h1 : j = n + q
  · rw [e 0 h1 (by decide) (by decide), h1, pk_us]; rfl
  rw [pk_un h1]
  unfold feedF
  by_cases c : n ≤ j ∧ j < n + 20 ∧ (j - n) % 4 < q
  · rw [if_pos c, if_pos (by omega)]
  · rw [if_neg c, if_neg (by omega)]
theorem feed_step2 {f F : Nat → Int32} {n q : Nat} {B : Nat → Int32} (hF : F = feedF f n B q) (hq : q < 4) : upd (upd (upd (upd (upd F (n + q) (B q)) (n + q + 4) (B (q + 4))) (n + q + 8) (B (q + 8))) (n + q + 12) (B (q + 12))) (n + q + 16) (B (q + 16)) = feedF f n B (q + 1) := by rw [hF]; exact feed_step hq
theorem feed_0 (f : Nat → Int32) (n : Nat) (B : Nat → Int32) : f = feedF f n B 0 := by
  funext j
  unfold feedF
  rw [if_neg (by omega)]
theorem feed_4 (f : Nat → Int32) (n : Nat) (L : List Int32) (hL : L.length = 20) : feedF f n (fun r => L.getD r 0) 4 = putL f n L := by
  funext j
  unfold feedF putL
  by_cases c : n ≤ j ∧ j < n + 20
  · rw [if_pos (by omega), if_pos (by omega)]
  · rw [if_neg (by omega), if_neg (by omega)]
theorem wi_and {x a b : Int32} (h : wiB x a b = true) : a ≤ x ∧ x ≤ b := by
  unfold wiB at h
  rw [Bool.and_eq_true] at h
  exact ⟨of_decide_eq_true h.1, of_decide_eq_true h.2⟩
theorem wi_not {b : Bool} (h : (if b then (1 : Int32) else 0) = 0) : b = false := by cases b with | true => exact absurd h (by decide) | false => rfl
/-- a byte of an array of n, or none -/
theorem rAt_T {f : Nat → Int32} {n : Nat} {x : Int32} (hn : n < 2 ^ 31) (h1 : 1 ≤ n) (h : ¬ (if wiB x 0 (nI (n - 1)) then (1 : Int32) else 0) = 0) : ∃ j : Nat, x = nI j ∧ j < n := by
  obtain ⟨q, e, -, hq⟩ := wi_nat 0 (n - 1) ⟨by decide, by omega⟩ (wi_of h)
  exact ⟨q, e, by omega⟩
theorem rAt_F {f : Nat → Int32} {n : Nat} {x : Int32} (hn : n < 2 ^ 31) (h1 : 1 ≤ n) (h : (if wiB x 0 (nI (n - 1)) then (1 : Int32) else 0) = 0) : rAt f n x = -9 := by
  have h2 := wi_not h
  by_cases c1 : x < 0
  · exact rAt_lo c1
  · by_cases c2 : x < nI n
    · exfalso
      obtain ⟨q, hq, rfl⟩ := nI_of c1
      have h3 := (nI_ltI hq hn).mp c2
      have h4 : wiB (nI q) 0 (nI (n - 1)) = true := by
        unfold wiB
        rw [decide_eq_true (nI_pos' hq), decide_eq_true (nI_le (show q ≤ n - 1 by omega) (by omega))]
        rfl
      rw [h4] at h2
      cases h2
    · exact rAt_hi c2
theorem rAt_0 {f : Nat → Int32} {x : Int32} : rAt f 0 x = -9 := by
  by_cases c1 : x < 0
  · exact rAt_lo c1
  · exact rAt_hi (fun h => c1 h)
theorem four_of {x : Int32} (h1 : x - x / 4 * 4 = 0) (h2 : wiB x 4 16 = true) : x = 4 ∨ x = 8 ∨ x = 12 ∨ x = 16 := by
  obtain ⟨q, rfl, ha, hb⟩ := wi_nat 4 16 ⟨by decide, by decide⟩ h2
  have e : nI q - nI q / nI 4 * nI 4 = nI (q % 4) := pk_rem (by omega) (by decide) (by decide)
  have h3 : nI (q % 4) = nI 0 := e.symm.trans h1
  have h4 := (nI_eq (by omega) (by decide)).mp h3
  rcases (show q = 4 ∨ q = 8 ∨ q = 12 ∨ q = 16 by omega) with rfl | rfl | rfl | rfl
  · exact Or.inl rfl
  · exact Or.inr (Or.inl rfl)
  · exact Or.inr (Or.inr (Or.inl rfl))
  · exact Or.inr (Or.inr (Or.inr rfl))

theorem dX11_feed_0 : decode cX11_feed 0 = .ok (.aload_n 0, 1) := by decide +kernel
theorem dX11_feed_1 : decode cX11_feed 1 = .ok (.getfield 188, 3) := by decide +kernel
theorem dX11_feed_4 : decode cX11_feed 4 = .ok (.bipush 20, 2) := by decide +kernel
theorem dX11_feed_6 : decode cX11_feed 6 = .ok (.iadd, 1) := by decide +kernel
theorem dX11_feed_7 : decode cX11_feed 7 = .ok (.sipush 600, 3) := by decide +kernel
theorem dX11_feed_10 : decode cX11_feed 10 = .ok (.if_icmp .le 6, 3) := by decide +kernel
theorem dX11_feed_13 : decode cX11_feed 13 = .ok (.bipush (-4), 2) := by decide +kernel
theorem dX11_feed_15 : decode cX11_feed 15 = .ok (.ireturn, 1) := by decide +kernel
theorem dX11_feed_16 : decode cX11_feed 16 = .ok (.bipush 24, 2) := by decide +kernel
theorem dX11_feed_18 : decode cX11_feed 18 = .ok (.istore 6, 2) := by decide +kernel
theorem dX11_feed_20 : decode cX11_feed 20 = .ok (.iload 6, 2) := by decide +kernel
theorem dX11_feed_22 : decode cX11_feed 22 = .ok (.ifCond .lt 96, 3) := by decide +kernel
theorem dX11_feed_25 : decode cX11_feed 25 = .ok (.aload_n 0, 1) := by decide +kernel
theorem dX11_feed_26 : decode cX11_feed 26 = .ok (.getfield 188, 3) := by decide +kernel
theorem dX11_feed_29 : decode cX11_feed 29 = .ok (.iconst 3, 1) := by decide +kernel
theorem dX11_feed_30 : decode cX11_feed 30 = .ok (.iadd, 1) := by decide +kernel
theorem dX11_feed_31 : decode cX11_feed 31 = .ok (.iload 6, 2) := by decide +kernel
theorem dX11_feed_33 : decode cX11_feed 33 = .ok (.bipush 8, 2) := by decide +kernel
theorem dX11_feed_35 : decode cX11_feed 35 = .ok (.idiv, 1) := by decide +kernel
theorem dX11_feed_36 : decode cX11_feed 36 = .ok (.isub, 1) := by decide +kernel
theorem dX11_feed_37 : decode cX11_feed 37 = .ok (.istore 7, 2) := by decide +kernel
theorem dX11_feed_39 : decode cX11_feed 39 = .ok (.aload_n 0, 1) := by decide +kernel
theorem dX11_feed_40 : decode cX11_feed 40 = .ok (.getfield 7, 3) := by decide +kernel
theorem dX11_feed_43 : decode cX11_feed 43 = .ok (.iload 7, 2) := by decide +kernel
theorem dX11_feed_45 : decode cX11_feed 45 = .ok (.iload_n 1, 1) := by decide +kernel
theorem dX11_feed_46 : decode cX11_feed 46 = .ok (.iload 6, 2) := by decide +kernel
theorem dX11_feed_48 : decode cX11_feed 48 = .ok (.ishr, 1) := by decide +kernel
theorem dX11_feed_49 : decode cX11_feed 49 = .ok (.i2b, 1) := by decide +kernel
theorem dX11_feed_50 : decode cX11_feed 50 = .ok (.bastore, 1) := by decide +kernel
theorem dX11_feed_51 : decode cX11_feed 51 = .ok (.aload_n 0, 1) := by decide +kernel
theorem dX11_feed_52 : decode cX11_feed 52 = .ok (.getfield 7, 3) := by decide +kernel
theorem dX11_feed_55 : decode cX11_feed 55 = .ok (.iload 7, 2) := by decide +kernel
theorem dX11_feed_57 : decode cX11_feed 57 = .ok (.iconst 4, 1) := by decide +kernel
theorem dX11_feed_58 : decode cX11_feed 58 = .ok (.iadd, 1) := by decide +kernel
theorem dX11_feed_59 : decode cX11_feed 59 = .ok (.iload_n 2, 1) := by decide +kernel
theorem dX11_feed_60 : decode cX11_feed 60 = .ok (.iload 6, 2) := by decide +kernel
theorem dX11_feed_62 : decode cX11_feed 62 = .ok (.ishr, 1) := by decide +kernel
theorem dX11_feed_63 : decode cX11_feed 63 = .ok (.i2b, 1) := by decide +kernel
theorem dX11_feed_64 : decode cX11_feed 64 = .ok (.bastore, 1) := by decide +kernel
theorem dX11_feed_65 : decode cX11_feed 65 = .ok (.aload_n 0, 1) := by decide +kernel
theorem dX11_feed_66 : decode cX11_feed 66 = .ok (.getfield 7, 3) := by decide +kernel
theorem dX11_feed_69 : decode cX11_feed 69 = .ok (.iload 7, 2) := by decide +kernel
theorem dX11_feed_71 : decode cX11_feed 71 = .ok (.bipush 8, 2) := by decide +kernel
theorem dX11_feed_73 : decode cX11_feed 73 = .ok (.iadd, 1) := by decide +kernel
theorem dX11_feed_74 : decode cX11_feed 74 = .ok (.iload_n 3, 1) := by decide +kernel
theorem dX11_feed_75 : decode cX11_feed 75 = .ok (.iload 6, 2) := by decide +kernel
theorem dX11_feed_77 : decode cX11_feed 77 = .ok (.ishr, 1) := by decide +kernel
theorem dX11_feed_78 : decode cX11_feed 78 = .ok (.i2b, 1) := by decide +kernel
theorem dX11_feed_79 : decode cX11_feed 79 = .ok (.bastore, 1) := by decide +kernel
theorem dX11_feed_80 : decode cX11_feed 80 = .ok (.aload_n 0, 1) := by decide +kernel
theorem dX11_feed_81 : decode cX11_feed 81 = .ok (.getfield 7, 3) := by decide +kernel
theorem dX11_feed_84 : decode cX11_feed 84 = .ok (.iload 7, 2) := by decide +kernel
theorem dX11_feed_86 : decode cX11_feed 86 = .ok (.bipush 12, 2) := by decide +kernel
theorem dX11_feed_88 : decode cX11_feed 88 = .ok (.iadd, 1) := by decide +kernel
theorem dX11_feed_89 : decode cX11_feed 89 = .ok (.iload 4, 2) := by decide +kernel
theorem dX11_feed_91 : decode cX11_feed 91 = .ok (.iload 6, 2) := by decide +kernel
theorem dX11_feed_93 : decode cX11_feed 93 = .ok (.ishr, 1) := by decide +kernel
theorem dX11_feed_94 : decode cX11_feed 94 = .ok (.i2b, 1) := by decide +kernel
theorem dX11_feed_95 : decode cX11_feed 95 = .ok (.bastore, 1) := by decide +kernel
theorem dX11_feed_96 : decode cX11_feed 96 = .ok (.aload_n 0, 1) := by decide +kernel
theorem dX11_feed_97 : decode cX11_feed 97 = .ok (.getfield 7, 3) := by decide +kernel
theorem dX11_feed_100 : decode cX11_feed 100 = .ok (.iload 7, 2) := by decide +kernel
theorem dX11_feed_102 : decode cX11_feed 102 = .ok (.bipush 16, 2) := by decide +kernel
theorem dX11_feed_104 : decode cX11_feed 104 = .ok (.iadd, 1) := by decide +kernel
theorem dX11_feed_105 : decode cX11_feed 105 = .ok (.iload 5, 2) := by decide +kernel
theorem dX11_feed_107 : decode cX11_feed 107 = .ok (.iload 6, 2) := by decide +kernel
theorem dX11_feed_109 : decode cX11_feed 109 = .ok (.ishr, 1) := by decide +kernel
theorem dX11_feed_110 : decode cX11_feed 110 = .ok (.i2b, 1) := by decide +kernel
theorem dX11_feed_111 : decode cX11_feed 111 = .ok (.bastore, 1) := by decide +kernel
theorem dX11_feed_112 : decode cX11_feed 112 = .ok (.iinc 6 (-8), 3) := by decide +kernel
theorem dX11_feed_115 : decode cX11_feed 115 = .ok (.goto (-95), 3) := by decide +kernel
theorem dX11_feed_118 : decode cX11_feed 118 = .ok (.aload_n 0, 1) := by decide +kernel
theorem dX11_feed_119 : decode cX11_feed 119 = .ok (.dup, 1) := by decide +kernel
theorem dX11_feed_120 : decode cX11_feed 120 = .ok (.getfield 188, 3) := by decide +kernel
theorem dX11_feed_123 : decode cX11_feed 123 = .ok (.bipush 20, 2) := by decide +kernel
theorem dX11_feed_125 : decode cX11_feed 125 = .ok (.iadd, 1) := by decide +kernel
theorem dX11_feed_126 : decode cX11_feed 126 = .ok (.putfield 188, 3) := by decide +kernel
theorem dX11_feed_129 : decode cX11_feed 129 = .ok (.aload_n 0, 1) := by decide +kernel
theorem dX11_feed_130 : decode cX11_feed 130 = .ok (.getfield 188, 3) := by decide +kernel
theorem dX11_feed_133 : decode cX11_feed 133 = .ok (.ireturn, 1) := by decide +kernel
set_option maxRecDepth 20000 in
theorem ggX11_trim_X11_in : GoodIn wsX11_trim wsX11_in := goodIn_r _ [5] rfl (by decide +kernel)
set_option maxRecDepth 20000 in
theorem gX11_trim_X11_in : GoodIn wsX11_trim (va_wsS RX11 191 yX11_in wsX11_in) := goodIn_app (goodIn_of _ (by decide +kernel)) ggX11_trim_X11_in
theorem dX11_trim_0 : decode cX11_trim 0 = .ok (.iload_n 1, 1) := by decide +kernel
theorem dX11_trim_1 : decode cX11_trim 1 = .ok (.iconst 0, 1) := by decide +kernel
theorem dX11_trim_2 : decode cX11_trim 2 = .ok (.aload_n 0, 1) := by decide +kernel
theorem dX11_trim_3 : decode cX11_trim 3 = .ok (.getfield 188, 3) := by decide +kernel
theorem dX11_trim_6 : decode cX11_trim 6 = .ok (.invokestatic 191, 3) := by decide +kernel
theorem dX11_trim_9 : decode cX11_trim 9 = .ok (.ifCond .ne 6, 3) := by decide +kernel
theorem dX11_trim_12 : decode cX11_trim 12 = .ok (.bipush (-2), 2) := by decide +kernel
theorem dX11_trim_14 : decode cX11_trim 14 = .ok (.ireturn, 1) := by decide +kernel
theorem dX11_trim_15 : decode cX11_trim 15 = .ok (.aload_n 0, 1) := by decide +kernel
theorem dX11_trim_16 : decode cX11_trim 16 = .ok (.iload_n 1, 1) := by decide +kernel
theorem dX11_trim_17 : decode cX11_trim 17 = .ok (.putfield 188, 3) := by decide +kernel
theorem dX11_trim_20 : decode cX11_trim 20 = .ok (.iload_n 1, 1) := by decide +kernel
theorem dX11_trim_21 : decode cX11_trim 21 = .ok (.ireturn, 1) := by decide +kernel
set_option maxRecDepth 20000 in
theorem ggX11_hash_X11_in : GoodIn wsX11_hash wsX11_in := goodIn_r _ [8] rfl (by decide +kernel)
set_option maxRecDepth 20000 in
theorem gX11_hash_X11_in : GoodIn wsX11_hash (va_wsS RX11 191 yX11_in wsX11_in) := goodIn_app (goodIn_of _ (by decide +kernel)) ggX11_hash_X11_in
set_option maxRecDepth 20000 in
theorem ggX11_hash_X11_layTape : GoodIn wsX11_hash wsX11_layTape := goodIn_r _ [12, 13, 14, 15, 16, 17, 7, 18, 19, 1, 61, 62, 63, 64, 65, 66, 67, 68, 69, 70, 71, 72, 73, 74, 75, 76, 77, 78, 79, 80, 81, 82, 83, 84, 85, 86, 87, 88, 89, 90, 91, 92, 93, 94, 95, 96, 97, 98, 99, 100, 101, 102, 103] rfl (by decide +kernel)
set_option maxRecDepth 20000 in
theorem gX11_hash_X11_layTape : GoodIn wsX11_hash (wsV RX11 232 RX11 yX11_layTape wsX11_layTape) := goodIn_app (goodIn_of _ (by decide +kernel)) ggX11_hash_X11_layTape
set_option maxRecDepth 20000 in
theorem ggX11_hash_X11_hashLaid : GoodIn wsX11_hash wsX11_hashLaid := goodIn_r _ [23, 24, 25, 26, 7, 27, 28, 1, 29, 30, 3, 15, 16, 17, 18, 19, 31, 32, 33, 34, 35, 36, 37, 38, 39, 40, 41, 42, 43, 44, 45, 46, 47, 48, 49, 50, 51, 52, 53, 54, 55, 56, 57, 58, 59, 60, 61, 62, 63, 64, 65, 66, 67, 68, 69, 70, 71, 72, 73, 74, 75, 76, 77, 78, 79, 80, 81, 82, 83, 84, 85, 86, 87, 88, 89, 90, 91, 92, 93, 94, 95, 96, 97, 98, 99, 100, 101, 102, 103] rfl (by decide +kernel)
set_option maxRecDepth 20000 in
theorem gX11_hash_X11_hashLaid : GoodIn wsX11_hash (wsV RX11 235 RX11 yX11_hashLaid wsX11_hashLaid) := goodIn_app (goodIn_of _ (by decide +kernel)) ggX11_hash_X11_hashLaid
theorem dX11_hash_0 : decode cX11_hash 0 = .ok (.iload_n 1, 1) := by decide +kernel
theorem dX11_hash_1 : decode cX11_hash 1 = .ok (.iconst 0, 1) := by decide +kernel
theorem dX11_hash_2 : decode cX11_hash 2 = .ok (.iconst 1, 1) := by decide +kernel
theorem dX11_hash_3 : decode cX11_hash 3 = .ok (.invokestatic 191, 3) := by decide +kernel
theorem dX11_hash_6 : decode cX11_hash 6 = .ok (.ifCond .ne 6, 3) := by decide +kernel
theorem dX11_hash_9 : decode cX11_hash 9 = .ok (.bipush (-2), 2) := by decide +kernel
theorem dX11_hash_11 : decode cX11_hash 11 = .ok (.ireturn, 1) := by decide +kernel
theorem dX11_hash_12 : decode cX11_hash 12 = .ok (.aload_n 0, 1) := by decide +kernel
theorem dX11_hash_13 : decode cX11_hash 13 = .ok (.iconst 0, 1) := by decide +kernel
theorem dX11_hash_14 : decode cX11_hash 14 = .ok (.putfield 195, 3) := by decide +kernel
theorem dX11_hash_17 : decode cX11_hash 17 = .ok (.aload_n 0, 1) := by decide +kernel
theorem dX11_hash_18 : decode cX11_hash 18 = .ok (.invokevirtual 232, 3) := by decide +kernel
theorem dX11_hash_21 : decode cX11_hash 21 = .ok (.aload_n 0, 1) := by decide +kernel
theorem dX11_hash_22 : decode cX11_hash 22 = .ok (.iload_n 1, 1) := by decide +kernel
theorem dX11_hash_23 : decode cX11_hash 23 = .ok (.invokevirtual 235, 3) := by decide +kernel
theorem dX11_hash_26 : decode cX11_hash 26 = .ok (.iconst 0, 1) := by decide +kernel
theorem dX11_hash_27 : decode cX11_hash 27 = .ok (.istore_n 2, 1) := by decide +kernel
theorem dX11_hash_28 : decode cX11_hash 28 = .ok (.iload_n 2, 1) := by decide +kernel
theorem dX11_hash_29 : decode cX11_hash 29 = .ok (.bipush 32, 2) := by decide +kernel
theorem dX11_hash_31 : decode cX11_hash 31 = .ok (.if_icmp .ge 21, 3) := by decide +kernel
theorem dX11_hash_34 : decode cX11_hash 34 = .ok (.aload_n 0, 1) := by decide +kernel
theorem dX11_hash_35 : decode cX11_hash 35 = .ok (.getfield 117, 3) := by decide +kernel
theorem dX11_hash_38 : decode cX11_hash 38 = .ok (.iload_n 2, 1) := by decide +kernel
theorem dX11_hash_39 : decode cX11_hash 39 = .ok (.aload_n 0, 1) := by decide +kernel
theorem dX11_hash_40 : decode cX11_hash 40 = .ok (.getfield 16, 3) := by decide +kernel
theorem dX11_hash_43 : decode cX11_hash 43 = .ok (.iload_n 2, 1) := by decide +kernel
theorem dX11_hash_44 : decode cX11_hash 44 = .ok (.baload, 1) := by decide +kernel
theorem dX11_hash_45 : decode cX11_hash 45 = .ok (.bastore, 1) := by decide +kernel
theorem dX11_hash_46 : decode cX11_hash 46 = .ok (.iinc 2 1, 3) := by decide +kernel
theorem dX11_hash_49 : decode cX11_hash 49 = .ok (.goto (-21), 3) := by decide +kernel
theorem dX11_hash_52 : decode cX11_hash 52 = .ok (.aload_n 0, 1) := by decide +kernel
theorem dX11_hash_53 : decode cX11_hash 53 = .ok (.iconst 1, 1) := by decide +kernel
theorem dX11_hash_54 : decode cX11_hash 54 = .ok (.putfield 184, 3) := by decide +kernel
theorem dX11_hash_57 : decode cX11_hash 57 = .ok (.bipush 32, 2) := by decide +kernel
theorem dX11_hash_59 : decode cX11_hash 59 = .ok (.ireturn, 1) := by decide +kernel
set_option maxRecDepth 20000 in
theorem ggX11_hashByte_X11_in : GoodIn wsX11_hashByte wsX11_in := goodIn_r _ [6] rfl (by decide +kernel)
set_option maxRecDepth 20000 in
theorem gX11_hashByte_X11_in : GoodIn wsX11_hashByte (va_wsS RX11 191 yX11_in wsX11_in) := goodIn_app (goodIn_of _ (by decide +kernel)) ggX11_hashByte_X11_in
theorem dX11_hashByte_0 : decode cX11_hashByte 0 = .ok (.aload_n 0, 1) := by decide +kernel
theorem dX11_hashByte_1 : decode cX11_hashByte 1 = .ok (.getfield 184, 3) := by decide +kernel
theorem dX11_hashByte_4 : decode cX11_hashByte 4 = .ok (.ifCond .eq 26, 3) := by decide +kernel
theorem dX11_hashByte_7 : decode cX11_hashByte 7 = .ok (.iload_n 1, 1) := by decide +kernel
theorem dX11_hashByte_8 : decode cX11_hashByte 8 = .ok (.iconst 0, 1) := by decide +kernel
theorem dX11_hashByte_9 : decode cX11_hashByte 9 = .ok (.bipush 31, 2) := by decide +kernel
theorem dX11_hashByte_11 : decode cX11_hashByte 11 = .ok (.invokestatic 191, 3) := by decide +kernel
theorem dX11_hashByte_14 : decode cX11_hashByte 14 = .ok (.ifCond .eq 16, 3) := by decide +kernel
theorem dX11_hashByte_17 : decode cX11_hashByte 17 = .ok (.aload_n 0, 1) := by decide +kernel
theorem dX11_hashByte_18 : decode cX11_hashByte 18 = .ok (.getfield 117, 3) := by decide +kernel
theorem dX11_hashByte_21 : decode cX11_hashByte 21 = .ok (.iload_n 1, 1) := by decide +kernel
theorem dX11_hashByte_22 : decode cX11_hashByte 22 = .ok (.baload, 1) := by decide +kernel
theorem dX11_hashByte_23 : decode cX11_hashByte 23 = .ok (.sipush 255, 3) := by decide +kernel
theorem dX11_hashByte_26 : decode cX11_hashByte 26 = .ok (.iand, 1) := by decide +kernel
theorem dX11_hashByte_27 : decode cX11_hashByte 27 = .ok (.goto 5, 3) := by decide +kernel
theorem dX11_hashByte_30 : decode cX11_hashByte 30 = .ok (.bipush (-9), 2) := by decide +kernel
theorem dX11_hashByte_32 : decode cX11_hashByte 32 = .ok (.ireturn, 1) := by decide +kernel
set_option maxRecDepth 20000 in
theorem ggX11_shape_X11_in : GoodIn wsX11_shape wsX11_in := goodIn_r _ [15] rfl (by decide +kernel)
set_option maxRecDepth 20000 in
theorem gX11_shape_X11_in : GoodIn wsX11_shape (va_wsS RX11 191 yX11_in wsX11_in) := goodIn_app (goodIn_of _ (by decide +kernel)) ggX11_shape_X11_in
set_option maxRecDepth 20000 in
theorem ggX11_shape_X11_measure : GoodIn wsX11_shape wsX11_measure := goodIn_r _ [19, 2, 20, 6, 5, 4, 3, 11, 21, 22, 23, 24, 25, 26, 27, 28, 29, 30, 31, 32, 33, 34, 35, 36, 37, 38, 39, 40, 41, 42, 43, 44, 45, 46, 47, 48, 49, 50, 51, 52, 53, 54, 55, 56, 57, 58, 59, 60, 61, 62, 63] rfl (by decide +kernel)
set_option maxRecDepth 20000 in
theorem gX11_shape_X11_measure : GoodIn wsX11_shape (wsV RX11 181 RX11 yX11_measure wsX11_measure) := goodIn_app (goodIn_of _ (by decide +kernel)) ggX11_shape_X11_measure
theorem dX11_shape_0 : decode cX11_shape 0 = .ok (.iload_n 1, 1) := by decide +kernel
theorem dX11_shape_1 : decode cX11_shape 1 = .ok (.iconst 0, 1) := by decide +kernel
theorem dX11_shape_2 : decode cX11_shape 2 = .ok (.iconst 1, 1) := by decide +kernel
theorem dX11_shape_3 : decode cX11_shape 3 = .ok (.invokestatic 191, 3) := by decide +kernel
theorem dX11_shape_6 : decode cX11_shape 6 = .ok (.ifCond .eq 59, 3) := by decide +kernel
theorem dX11_shape_9 : decode cX11_shape 9 = .ok (.iload_n 2, 1) := by decide +kernel
theorem dX11_shape_10 : decode cX11_shape 10 = .ok (.iconst 4, 1) := by decide +kernel
theorem dX11_shape_11 : decode cX11_shape 11 = .ok (.irem, 1) := by decide +kernel
theorem dX11_shape_12 : decode cX11_shape 12 = .ok (.ifCond .ne 53, 3) := by decide +kernel
theorem dX11_shape_15 : decode cX11_shape 15 = .ok (.iload_n 2, 1) := by decide +kernel
theorem dX11_shape_16 : decode cX11_shape 16 = .ok (.iconst 4, 1) := by decide +kernel
theorem dX11_shape_17 : decode cX11_shape 17 = .ok (.bipush 16, 2) := by decide +kernel
theorem dX11_shape_19 : decode cX11_shape 19 = .ok (.invokestatic 191, 3) := by decide +kernel
theorem dX11_shape_22 : decode cX11_shape 22 = .ok (.ifCond .eq 43, 3) := by decide +kernel
theorem dX11_shape_25 : decode cX11_shape 25 = .ok (.iload_n 3, 1) := by decide +kernel
theorem dX11_shape_26 : decode cX11_shape 26 = .ok (.iconst 1, 1) := by decide +kernel
theorem dX11_shape_27 : decode cX11_shape 27 = .ok (.iconst 2, 1) := by decide +kernel
theorem dX11_shape_28 : decode cX11_shape 28 = .ok (.invokestatic 191, 3) := by decide +kernel
theorem dX11_shape_31 : decode cX11_shape 31 = .ok (.ifCond .eq 34, 3) := by decide +kernel
theorem dX11_shape_34 : decode cX11_shape 34 = .ok (.iload 4, 2) := by decide +kernel
theorem dX11_shape_36 : decode cX11_shape 36 = .ok (.iconst 1, 1) := by decide +kernel
theorem dX11_shape_37 : decode cX11_shape 37 = .ok (.iconst 2, 1) := by decide +kernel
theorem dX11_shape_38 : decode cX11_shape 38 = .ok (.invokestatic 191, 3) := by decide +kernel
theorem dX11_shape_41 : decode cX11_shape 41 = .ok (.ifCond .eq 24, 3) := by decide +kernel
theorem dX11_shape_44 : decode cX11_shape 44 = .ok (.iload 5, 2) := by decide +kernel
theorem dX11_shape_46 : decode cX11_shape 46 = .ok (.iconst 1, 1) := by decide +kernel
theorem dX11_shape_47 : decode cX11_shape 47 = .ok (.iconst 4, 1) := by decide +kernel
theorem dX11_shape_48 : decode cX11_shape 48 = .ok (.invokestatic 191, 3) := by decide +kernel
theorem dX11_shape_51 : decode cX11_shape 51 = .ok (.ifCond .eq 14, 3) := by decide +kernel
theorem dX11_shape_54 : decode cX11_shape 54 = .ok (.iload 6, 2) := by decide +kernel
theorem dX11_shape_56 : decode cX11_shape 56 = .ok (.iconst 1, 1) := by decide +kernel
theorem dX11_shape_57 : decode cX11_shape 57 = .ok (.bipush 6, 2) := by decide +kernel
theorem dX11_shape_59 : decode cX11_shape 59 = .ok (.invokestatic 191, 3) := by decide +kernel
theorem dX11_shape_62 : decode cX11_shape 62 = .ok (.ifCond .ne 6, 3) := by decide +kernel
theorem dX11_shape_65 : decode cX11_shape 65 = .ok (.bipush (-2), 2) := by decide +kernel
theorem dX11_shape_67 : decode cX11_shape 67 = .ok (.ireturn, 1) := by decide +kernel
theorem dX11_shape_68 : decode cX11_shape 68 = .ok (.aload_n 0, 1) := by decide +kernel
theorem dX11_shape_69 : decode cX11_shape 69 = .ok (.iload_n 1, 1) := by decide +kernel
theorem dX11_shape_70 : decode cX11_shape 70 = .ok (.putfield 162, 3) := by decide +kernel
theorem dX11_shape_73 : decode cX11_shape 73 = .ok (.aload_n 0, 1) := by decide +kernel
theorem dX11_shape_74 : decode cX11_shape 74 = .ok (.iload_n 2, 1) := by decide +kernel
theorem dX11_shape_75 : decode cX11_shape 75 = .ok (.putfield 166, 3) := by decide +kernel
theorem dX11_shape_78 : decode cX11_shape 78 = .ok (.aload_n 0, 1) := by decide +kernel
theorem dX11_shape_79 : decode cX11_shape 79 = .ok (.iload_n 3, 1) := by decide +kernel
theorem dX11_shape_80 : decode cX11_shape 80 = .ok (.putfield 169, 3) := by decide +kernel
theorem dX11_shape_83 : decode cX11_shape 83 = .ok (.aload_n 0, 1) := by decide +kernel
theorem dX11_shape_84 : decode cX11_shape 84 = .ok (.iload 4, 2) := by decide +kernel
theorem dX11_shape_86 : decode cX11_shape 86 = .ok (.putfield 172, 3) := by decide +kernel
theorem dX11_shape_89 : decode cX11_shape 89 = .ok (.aload_n 0, 1) := by decide +kernel
theorem dX11_shape_90 : decode cX11_shape 90 = .ok (.iload 5, 2) := by decide +kernel
theorem dX11_shape_92 : decode cX11_shape 92 = .ok (.putfield 175, 3) := by decide +kernel
theorem dX11_shape_95 : decode cX11_shape 95 = .ok (.aload_n 0, 1) := by decide +kernel
theorem dX11_shape_96 : decode cX11_shape 96 = .ok (.iload 6, 2) := by decide +kernel
theorem dX11_shape_98 : decode cX11_shape 98 = .ok (.putfield 178, 3) := by decide +kernel
theorem dX11_shape_101 : decode cX11_shape 101 = .ok (.aload_n 0, 1) := by decide +kernel
theorem dX11_shape_102 : decode cX11_shape 102 = .ok (.invokevirtual 181, 3) := by decide +kernel
theorem dX11_shape_105 : decode cX11_shape 105 = .ok (.aload_n 0, 1) := by decide +kernel
theorem dX11_shape_106 : decode cX11_shape 106 = .ok (.iconst 0, 1) := by decide +kernel
theorem dX11_shape_107 : decode cX11_shape 107 = .ok (.putfield 244, 3) := by decide +kernel
theorem dX11_shape_110 : decode cX11_shape 110 = .ok (.aload_n 0, 1) := by decide +kernel
theorem dX11_shape_111 : decode cX11_shape 111 = .ok (.iconst 0, 1) := by decide +kernel
theorem dX11_shape_112 : decode cX11_shape 112 = .ok (.putfield 247, 3) := by decide +kernel
theorem dX11_shape_115 : decode cX11_shape 115 = .ok (.aload_n 0, 1) := by decide +kernel
theorem dX11_shape_116 : decode cX11_shape 116 = .ok (.iconst 0, 1) := by decide +kernel
theorem dX11_shape_117 : decode cX11_shape 117 = .ok (.putfield 250, 3) := by decide +kernel
theorem dX11_shape_120 : decode cX11_shape 120 = .ok (.iconst 0, 1) := by decide +kernel
theorem dX11_shape_121 : decode cX11_shape 121 = .ok (.istore 7, 2) := by decide +kernel
theorem dX11_shape_123 : decode cX11_shape 123 = .ok (.iload 7, 2) := by decide +kernel
theorem dX11_shape_125 : decode cX11_shape 125 = .ok (.bipush 8, 2) := by decide +kernel
theorem dX11_shape_127 : decode cX11_shape 127 = .ok (.if_icmp .ge 18, 3) := by decide +kernel
theorem dX11_shape_130 : decode cX11_shape 130 = .ok (.aload_n 0, 1) := by decide +kernel
theorem dX11_shape_131 : decode cX11_shape 131 = .ok (.getfield 147, 3) := by decide +kernel
theorem dX11_shape_134 : decode cX11_shape 134 = .ok (.iload 7, 2) := by decide +kernel
theorem dX11_shape_136 : decode cX11_shape 136 = .ok (.bipush (-9), 2) := by decide +kernel
theorem dX11_shape_138 : decode cX11_shape 138 = .ok (.iastore, 1) := by decide +kernel
theorem dX11_shape_139 : decode cX11_shape 139 = .ok (.iinc 7 1, 3) := by decide +kernel
theorem dX11_shape_142 : decode cX11_shape 142 = .ok (.goto (-19), 3) := by decide +kernel
theorem dX11_shape_145 : decode cX11_shape 145 = .ok (.aload_n 0, 1) := by decide +kernel
theorem dX11_shape_146 : decode cX11_shape 146 = .ok (.getfield 241, 3) := by decide +kernel
theorem dX11_shape_149 : decode cX11_shape 149 = .ok (.ireturn, 1) := by decide +kernel
set_option maxRecDepth 20000 in
theorem ggX11_seed_X11_in : GoodIn wsX11_seed wsX11_in := goodIn_r _ [6] rfl (by decide +kernel)
set_option maxRecDepth 20000 in
theorem gX11_seed_X11_in : GoodIn wsX11_seed (va_wsS RX11 191 yX11_in wsX11_in) := goodIn_app (goodIn_of _ (by decide +kernel)) ggX11_seed_X11_in
theorem dX11_seed_0 : decode cX11_seed 0 = .ok (.iload_n 1, 1) := by decide +kernel
theorem dX11_seed_1 : decode cX11_seed 1 = .ok (.iconst 0, 1) := by decide +kernel
theorem dX11_seed_2 : decode cX11_seed 2 = .ok (.iconst 2, 1) := by decide +kernel
theorem dX11_seed_3 : decode cX11_seed 3 = .ok (.invokestatic 191, 3) := by decide +kernel
theorem dX11_seed_6 : decode cX11_seed 6 = .ok (.ifCond .ne 6, 3) := by decide +kernel
theorem dX11_seed_9 : decode cX11_seed 9 = .ok (.bipush (-2), 2) := by decide +kernel
theorem dX11_seed_11 : decode cX11_seed 11 = .ok (.ireturn, 1) := by decide +kernel
theorem dX11_seed_12 : decode cX11_seed 12 = .ok (.iconst 0, 1) := by decide +kernel
theorem dX11_seed_13 : decode cX11_seed 13 = .ok (.istore 6, 2) := by decide +kernel
theorem dX11_seed_15 : decode cX11_seed 15 = .ok (.iload 6, 2) := by decide +kernel
theorem dX11_seed_17 : decode cX11_seed 17 = .ok (.bipush 16, 2) := by decide +kernel
theorem dX11_seed_19 : decode cX11_seed 19 = .ok (.if_icmp .ge 58, 3) := by decide +kernel
theorem dX11_seed_22 : decode cX11_seed 22 = .ok (.iload 6, 2) := by decide +kernel
theorem dX11_seed_24 : decode cX11_seed 24 = .ok (.bipush 8, 2) := by decide +kernel
theorem dX11_seed_26 : decode cX11_seed 26 = .ok (.if_icmp .ge 16, 3) := by decide +kernel
theorem dX11_seed_29 : decode cX11_seed 29 = .ok (.lload_n 2, 1) := by decide +kernel
theorem dX11_seed_30 : decode cX11_seed 30 = .ok (.bipush 56, 2) := by decide +kernel
theorem dX11_seed_32 : decode cX11_seed 32 = .ok (.bipush 8, 2) := by decide +kernel
theorem dX11_seed_34 : decode cX11_seed 34 = .ok (.iload 6, 2) := by decide +kernel
theorem dX11_seed_36 : decode cX11_seed 36 = .ok (.imul, 1) := by decide +kernel
theorem dX11_seed_37 : decode cX11_seed 37 = .ok (.isub, 1) := by decide +kernel
theorem dX11_seed_38 : decode cX11_seed 38 = .ok (.lshr, 1) := by decide +kernel
theorem dX11_seed_39 : decode cX11_seed 39 = .ok (.goto 14, 3) := by decide +kernel
theorem dX11_seed_42 : decode cX11_seed 42 = .ok (.lload 4, 2) := by decide +kernel
theorem dX11_seed_44 : decode cX11_seed 44 = .ok (.bipush 120, 2) := by decide +kernel
theorem dX11_seed_46 : decode cX11_seed 46 = .ok (.bipush 8, 2) := by decide +kernel
theorem dX11_seed_48 : decode cX11_seed 48 = .ok (.iload 6, 2) := by decide +kernel
theorem dX11_seed_50 : decode cX11_seed 50 = .ok (.imul, 1) := by decide +kernel
theorem dX11_seed_51 : decode cX11_seed 51 = .ok (.isub, 1) := by decide +kernel
theorem dX11_seed_52 : decode cX11_seed 52 = .ok (.lshr, 1) := by decide +kernel
theorem dX11_seed_53 : decode cX11_seed 53 = .ok (.lstore 7, 2) := by decide +kernel
theorem dX11_seed_55 : decode cX11_seed 55 = .ok (.aload_n 0, 1) := by decide +kernel
theorem dX11_seed_56 : decode cX11_seed 56 = .ok (.getfield 120, 3) := by decide +kernel
theorem dX11_seed_59 : decode cX11_seed 59 = .ok (.bipush 16, 2) := by decide +kernel
theorem dX11_seed_61 : decode cX11_seed 61 = .ok (.iload_n 1, 1) := by decide +kernel
theorem dX11_seed_62 : decode cX11_seed 62 = .ok (.imul, 1) := by decide +kernel
theorem dX11_seed_63 : decode cX11_seed 63 = .ok (.iload 6, 2) := by decide +kernel
theorem dX11_seed_65 : decode cX11_seed 65 = .ok (.iadd, 1) := by decide +kernel
theorem dX11_seed_66 : decode cX11_seed 66 = .ok (.lload 7, 2) := by decide +kernel
theorem dX11_seed_68 : decode cX11_seed 68 = .ok (.l2i, 1) := by decide +kernel
theorem dX11_seed_69 : decode cX11_seed 69 = .ok (.i2b, 1) := by decide +kernel
theorem dX11_seed_70 : decode cX11_seed 70 = .ok (.bastore, 1) := by decide +kernel
theorem dX11_seed_71 : decode cX11_seed 71 = .ok (.iinc 6 1, 3) := by decide +kernel
theorem dX11_seed_74 : decode cX11_seed 74 = .ok (.goto (-59), 3) := by decide +kernel
theorem dX11_seed_77 : decode cX11_seed 77 = .ok (.aload_n 0, 1) := by decide +kernel
theorem dX11_seed_78 : decode cX11_seed 78 = .ok (.iconst 0, 1) := by decide +kernel
theorem dX11_seed_79 : decode cX11_seed 79 = .ok (.putfield 244, 3) := by decide +kernel
theorem dX11_seed_82 : decode cX11_seed 82 = .ok (.iconst 1, 1) := by decide +kernel
theorem dX11_seed_83 : decode cX11_seed 83 = .ok (.ireturn, 1) := by decide +kernel
set_option maxRecDepth 20000 in
theorem ggX11_key_X11_grow : GoodIn wsX11_key wsX11_grow := goodIn_r _ [13, 7, 6, 4, 14, 15, 16, 12, 17, 18, 19, 20, 21, 22, 23, 24, 25, 26, 27, 28, 29, 30, 31, 32, 33, 2, 3, 34, 35, 36, 37, 38, 39, 40, 41, 42, 43, 44, 45, 46, 47, 48, 49, 50, 51, 52, 53, 54, 55, 56, 57, 58, 59, 60, 61, 62, 63, 64, 65, 66, 67, 68, 69, 70, 71, 72, 73, 74, 75, 76, 77, 78, 79, 80, 81, 82, 83, 84, 85, 86, 87, 88, 89, 90, 91, 92, 93, 94, 95, 96, 97, 98, 99, 100, 101, 102, 103, 104, 105, 106, 107, 108, 109, 110, 111, 112, 113, 114, 115, 116, 117, 118, 119, 120, 121, 122, 123, 124, 125, 126, 127, 128, 129, 130, 131, 132, 133, 134, 135, 136, 137, 138, 139, 140] rfl (by decide +kernel)
set_option maxRecDepth 20000 in
theorem gX11_key_X11_grow : GoodIn wsX11_key (wsV RX11 289 RX11 yX11_grow wsX11_grow) := goodIn_app (goodIn_of _ (by decide +kernel)) ggX11_key_X11_grow
set_option maxRecDepth 20000 in
theorem ggX11_key_X11_nodeAt : GoodIn wsX11_key wsX11_nodeAt := goodIn_r _ [17, 7, 98, 99, 100, 101, 102, 103, 104, 105, 106, 107, 108, 109, 110, 111, 112, 113, 114, 115, 116, 117, 118, 119, 120, 121, 122, 123, 124, 125, 126, 127, 128, 129, 130, 131, 132, 133, 134, 135, 136, 137, 138, 139, 140] rfl (by decide +kernel)
set_option maxRecDepth 20000 in
theorem gX11_key_X11_nodeAt : GoodIn wsX11_key (wsV RX11 282 RX11 yX11_nodeAt wsX11_nodeAt) := goodIn_app (goodIn_of _ (by decide +kernel)) ggX11_key_X11_nodeAt
theorem dX11_key_0 : decode cX11_key 0 = .ok (.aload_n 0, 1) := by decide +kernel
theorem dX11_key_1 : decode cX11_key 1 = .ok (.aload_n 0, 1) := by decide +kernel
theorem dX11_key_2 : decode cX11_key 2 = .ok (.getfield 172, 3) := by decide +kernel
theorem dX11_key_5 : decode cX11_key 5 = .ok (.iconst 1, 1) := by decide +kernel
theorem dX11_key_6 : decode cX11_key 6 = .ok (.isub, 1) := by decide +kernel
theorem dX11_key_7 : decode cX11_key 7 = .ok (.putfield 256, 3) := by decide +kernel
theorem dX11_key_10 : decode cX11_key 10 = .ok (.aload_n 0, 1) := by decide +kernel
theorem dX11_key_11 : decode cX11_key 11 = .ok (.iconst 0, 1) := by decide +kernel
theorem dX11_key_12 : decode cX11_key 12 = .ok (.putfield 259, 3) := by decide +kernel
theorem dX11_key_15 : decode cX11_key 15 = .ok (.aload_n 0, 1) := by decide +kernel
theorem dX11_key_16 : decode cX11_key 16 = .ok (.invokevirtual 289, 3) := by decide +kernel
theorem dX11_key_19 : decode cX11_key 19 = .ok (.iconst 0, 1) := by decide +kernel
theorem dX11_key_20 : decode cX11_key 20 = .ok (.istore_n 1, 1) := by decide +kernel
theorem dX11_key_21 : decode cX11_key 21 = .ok (.iload_n 1, 1) := by decide +kernel
theorem dX11_key_22 : decode cX11_key 22 = .ok (.aload_n 0, 1) := by decide +kernel
theorem dX11_key_23 : decode cX11_key 23 = .ok (.getfield 166, 3) := by decide +kernel
theorem dX11_key_26 : decode cX11_key 26 = .ok (.if_icmp .ge 31, 3) := by decide +kernel
theorem dX11_key_29 : decode cX11_key 29 = .ok (.aload_n 0, 1) := by decide +kernel
theorem dX11_key_30 : decode cX11_key 30 = .ok (.getfield 132, 3) := by decide +kernel
theorem dX11_key_33 : decode cX11_key 33 = .ok (.iload_n 1, 1) := by decide +kernel
theorem dX11_key_34 : decode cX11_key 34 = .ok (.aload_n 0, 1) := by decide +kernel
theorem dX11_key_35 : decode cX11_key 35 = .ok (.getfield 129, 3) := by decide +kernel
theorem dX11_key_38 : decode cX11_key 38 = .ok (.aload_n 0, 1) := by decide +kernel
theorem dX11_key_39 : decode cX11_key 39 = .ok (.aload_n 0, 1) := by decide +kernel
theorem dX11_key_40 : decode cX11_key 40 = .ok (.getfield 169, 3) := by decide +kernel
theorem dX11_key_43 : decode cX11_key 43 = .ok (.iconst 0, 1) := by decide +kernel
theorem dX11_key_44 : decode cX11_key 44 = .ok (.invokevirtual 282, 3) := by decide +kernel
theorem dX11_key_47 : decode cX11_key 47 = .ok (.iload_n 1, 1) := by decide +kernel
theorem dX11_key_48 : decode cX11_key 48 = .ok (.iadd, 1) := by decide +kernel
theorem dX11_key_49 : decode cX11_key 49 = .ok (.baload, 1) := by decide +kernel
theorem dX11_key_50 : decode cX11_key 50 = .ok (.bastore, 1) := by decide +kernel
theorem dX11_key_51 : decode cX11_key 51 = .ok (.iinc 1 1, 3) := by decide +kernel
theorem dX11_key_54 : decode cX11_key 54 = .ok (.goto (-33), 3) := by decide +kernel
theorem dX11_key_57 : decode cX11_key 57 = .ok (.aload_n 0, 1) := by decide +kernel
theorem dX11_key_58 : decode cX11_key 58 = .ok (.iconst 1, 1) := by decide +kernel
theorem dX11_key_59 : decode cX11_key 59 = .ok (.putfield 244, 3) := by decide +kernel
theorem dX11_key_62 : decode cX11_key 62 = .ok (.iconst 1, 1) := by decide +kernel
theorem dX11_key_63 : decode cX11_key 63 = .ok (.ireturn, 1) := by decide +kernel
set_option maxRecDepth 20000 in
theorem ggX11_root_X11_in : GoodIn wsX11_root wsX11_in := goodIn_r _ [7] rfl (by decide +kernel)
set_option maxRecDepth 20000 in
theorem gX11_root_X11_in : GoodIn wsX11_root (va_wsS RX11 191 yX11_in wsX11_in) := goodIn_app (goodIn_of _ (by decide +kernel)) ggX11_root_X11_in
theorem dX11_root_0 : decode cX11_root 0 = .ok (.aload_n 0, 1) := by decide +kernel
theorem dX11_root_1 : decode cX11_root 1 = .ok (.getfield 244, 3) := by decide +kernel
theorem dX11_root_4 : decode cX11_root 4 = .ok (.ifCond .eq 30, 3) := by decide +kernel
theorem dX11_root_7 : decode cX11_root 7 = .ok (.iload_n 1, 1) := by decide +kernel
theorem dX11_root_8 : decode cX11_root 8 = .ok (.iconst 0, 1) := by decide +kernel
theorem dX11_root_9 : decode cX11_root 9 = .ok (.aload_n 0, 1) := by decide +kernel
theorem dX11_root_10 : decode cX11_root 10 = .ok (.getfield 166, 3) := by decide +kernel
theorem dX11_root_13 : decode cX11_root 13 = .ok (.iconst 1, 1) := by decide +kernel
theorem dX11_root_14 : decode cX11_root 14 = .ok (.isub, 1) := by decide +kernel
theorem dX11_root_15 : decode cX11_root 15 = .ok (.invokestatic 191, 3) := by decide +kernel
theorem dX11_root_18 : decode cX11_root 18 = .ok (.ifCond .eq 16, 3) := by decide +kernel
theorem dX11_root_21 : decode cX11_root 21 = .ok (.aload_n 0, 1) := by decide +kernel
theorem dX11_root_22 : decode cX11_root 22 = .ok (.getfield 132, 3) := by decide +kernel
theorem dX11_root_25 : decode cX11_root 25 = .ok (.iload_n 1, 1) := by decide +kernel
theorem dX11_root_26 : decode cX11_root 26 = .ok (.baload, 1) := by decide +kernel
theorem dX11_root_27 : decode cX11_root 27 = .ok (.sipush 255, 3) := by decide +kernel
theorem dX11_root_30 : decode cX11_root 30 = .ok (.iand, 1) := by decide +kernel
theorem dX11_root_31 : decode cX11_root 31 = .ok (.goto 5, 3) := by decide +kernel
theorem dX11_root_34 : decode cX11_root 34 = .ok (.bipush (-9), 2) := by decide +kernel
theorem dX11_root_36 : decode cX11_root 36 = .ok (.ireturn, 1) := by decide +kernel
set_option maxRecDepth 20000 in
theorem ggX11_signed_X11_in : GoodIn wsX11_signed wsX11_in := goodIn_r _ [6] rfl (by decide +kernel)
set_option maxRecDepth 20000 in
theorem gX11_signed_X11_in : GoodIn wsX11_signed (va_wsS RX11 191 yX11_in wsX11_in) := goodIn_app (goodIn_of _ (by decide +kernel)) ggX11_signed_X11_in
theorem dX11_signed_0 : decode cX11_signed 0 = .ok (.iload_n 1, 1) := by decide +kernel
theorem dX11_signed_1 : decode cX11_signed 1 = .ok (.iconst 0, 1) := by decide +kernel
theorem dX11_signed_2 : decode cX11_signed 2 = .ok (.aload_n 0, 1) := by decide +kernel
theorem dX11_signed_3 : decode cX11_signed 3 = .ok (.getfield 247, 3) := by decide +kernel
theorem dX11_signed_6 : decode cX11_signed 6 = .ok (.iconst 1, 1) := by decide +kernel
theorem dX11_signed_7 : decode cX11_signed 7 = .ok (.isub, 1) := by decide +kernel
theorem dX11_signed_8 : decode cX11_signed 8 = .ok (.invokestatic 191, 3) := by decide +kernel
theorem dX11_signed_11 : decode cX11_signed 11 = .ok (.ifCond .eq 16, 3) := by decide +kernel
theorem dX11_signed_14 : decode cX11_signed 14 = .ok (.aload_n 0, 1) := by decide +kernel
theorem dX11_signed_15 : decode cX11_signed 15 = .ok (.getfield 150, 3) := by decide +kernel
theorem dX11_signed_18 : decode cX11_signed 18 = .ok (.iload_n 1, 1) := by decide +kernel
theorem dX11_signed_19 : decode cX11_signed 19 = .ok (.baload, 1) := by decide +kernel
theorem dX11_signed_20 : decode cX11_signed 20 = .ok (.sipush 255, 3) := by decide +kernel
theorem dX11_signed_23 : decode cX11_signed 23 = .ok (.iand, 1) := by decide +kernel
theorem dX11_signed_24 : decode cX11_signed 24 = .ok (.goto 5, 3) := by decide +kernel
theorem dX11_signed_27 : decode cX11_signed 27 = .ok (.bipush (-9), 2) := by decide +kernel
theorem dX11_signed_29 : decode cX11_signed 29 = .ok (.ireturn, 1) := by decide +kernel
set_option maxRecDepth 20000 in
theorem ggX11_alter_X11_in : GoodIn wsX11_alter wsX11_in := goodIn_r _ [6] rfl (by decide +kernel)
set_option maxRecDepth 20000 in
theorem gX11_alter_X11_in : GoodIn wsX11_alter (va_wsS RX11 191 yX11_in wsX11_in) := goodIn_app (goodIn_of _ (by decide +kernel)) ggX11_alter_X11_in
theorem dX11_alter_0 : decode cX11_alter 0 = .ok (.iload_n 1, 1) := by decide +kernel
theorem dX11_alter_1 : decode cX11_alter 1 = .ok (.iconst 0, 1) := by decide +kernel
theorem dX11_alter_2 : decode cX11_alter 2 = .ok (.aload_n 0, 1) := by decide +kernel
theorem dX11_alter_3 : decode cX11_alter 3 = .ok (.getfield 247, 3) := by decide +kernel
theorem dX11_alter_6 : decode cX11_alter 6 = .ok (.iconst 1, 1) := by decide +kernel
theorem dX11_alter_7 : decode cX11_alter 7 = .ok (.isub, 1) := by decide +kernel
theorem dX11_alter_8 : decode cX11_alter 8 = .ok (.invokestatic 191, 3) := by decide +kernel
theorem dX11_alter_11 : decode cX11_alter 11 = .ok (.ifCond .eq 14, 3) := by decide +kernel
theorem dX11_alter_14 : decode cX11_alter 14 = .ok (.iload_n 2, 1) := by decide +kernel
theorem dX11_alter_15 : decode cX11_alter 15 = .ok (.iconst 0, 1) := by decide +kernel
theorem dX11_alter_16 : decode cX11_alter 16 = .ok (.sipush 255, 3) := by decide +kernel
theorem dX11_alter_19 : decode cX11_alter 19 = .ok (.invokestatic 191, 3) := by decide +kernel
theorem dX11_alter_22 : decode cX11_alter 22 = .ok (.ifCond .ne 6, 3) := by decide +kernel
theorem dX11_alter_25 : decode cX11_alter 25 = .ok (.bipush (-2), 2) := by decide +kernel
theorem dX11_alter_27 : decode cX11_alter 27 = .ok (.ireturn, 1) := by decide +kernel
theorem dX11_alter_28 : decode cX11_alter 28 = .ok (.aload_n 0, 1) := by decide +kernel
theorem dX11_alter_29 : decode cX11_alter 29 = .ok (.getfield 150, 3) := by decide +kernel
theorem dX11_alter_32 : decode cX11_alter 32 = .ok (.iload_n 1, 1) := by decide +kernel
theorem dX11_alter_33 : decode cX11_alter 33 = .ok (.baload, 1) := by decide +kernel
theorem dX11_alter_34 : decode cX11_alter 34 = .ok (.sipush 255, 3) := by decide +kernel
theorem dX11_alter_37 : decode cX11_alter 37 = .ok (.iand, 1) := by decide +kernel
theorem dX11_alter_38 : decode cX11_alter 38 = .ok (.istore_n 3, 1) := by decide +kernel
theorem dX11_alter_39 : decode cX11_alter 39 = .ok (.aload_n 0, 1) := by decide +kernel
theorem dX11_alter_40 : decode cX11_alter 40 = .ok (.getfield 150, 3) := by decide +kernel
theorem dX11_alter_43 : decode cX11_alter 43 = .ok (.iload_n 1, 1) := by decide +kernel
theorem dX11_alter_44 : decode cX11_alter 44 = .ok (.iload_n 2, 1) := by decide +kernel
theorem dX11_alter_45 : decode cX11_alter 45 = .ok (.i2b, 1) := by decide +kernel
theorem dX11_alter_46 : decode cX11_alter 46 = .ok (.bastore, 1) := by decide +kernel
theorem dX11_alter_47 : decode cX11_alter 47 = .ok (.iload_n 3, 1) := by decide +kernel
theorem dX11_alter_48 : decode cX11_alter 48 = .ok (.ireturn, 1) := by decide +kernel
set_option maxRecDepth 20000 in
theorem ggX11_cut_X11_in : GoodIn wsX11_cut wsX11_in := goodIn_r _ [5] rfl (by decide +kernel)
set_option maxRecDepth 20000 in
theorem gX11_cut_X11_in : GoodIn wsX11_cut (va_wsS RX11 191 yX11_in wsX11_in) := goodIn_app (goodIn_of _ (by decide +kernel)) ggX11_cut_X11_in
theorem dX11_cut_0 : decode cX11_cut 0 = .ok (.iload_n 1, 1) := by decide +kernel
theorem dX11_cut_1 : decode cX11_cut 1 = .ok (.iconst 0, 1) := by decide +kernel
theorem dX11_cut_2 : decode cX11_cut 2 = .ok (.aload_n 0, 1) := by decide +kernel
theorem dX11_cut_3 : decode cX11_cut 3 = .ok (.getfield 247, 3) := by decide +kernel
theorem dX11_cut_6 : decode cX11_cut 6 = .ok (.invokestatic 191, 3) := by decide +kernel
theorem dX11_cut_9 : decode cX11_cut 9 = .ok (.ifCond .ne 6, 3) := by decide +kernel
theorem dX11_cut_12 : decode cX11_cut 12 = .ok (.bipush (-2), 2) := by decide +kernel
theorem dX11_cut_14 : decode cX11_cut 14 = .ok (.ireturn, 1) := by decide +kernel
theorem dX11_cut_15 : decode cX11_cut 15 = .ok (.aload_n 0, 1) := by decide +kernel
theorem dX11_cut_16 : decode cX11_cut 16 = .ok (.getfield 247, 3) := by decide +kernel
theorem dX11_cut_19 : decode cX11_cut 19 = .ok (.iload_n 1, 1) := by decide +kernel
theorem dX11_cut_20 : decode cX11_cut 20 = .ok (.isub, 1) := by decide +kernel
theorem dX11_cut_21 : decode cX11_cut 21 = .ok (.istore_n 2, 1) := by decide +kernel
theorem dX11_cut_22 : decode cX11_cut 22 = .ok (.aload_n 0, 1) := by decide +kernel
theorem dX11_cut_23 : decode cX11_cut 23 = .ok (.iload_n 1, 1) := by decide +kernel
theorem dX11_cut_24 : decode cX11_cut 24 = .ok (.putfield 247, 3) := by decide +kernel
theorem dX11_cut_27 : decode cX11_cut 27 = .ok (.iload_n 2, 1) := by decide +kernel
theorem dX11_cut_28 : decode cX11_cut 28 = .ok (.ireturn, 1) := by decide +kernel
set_option maxRecDepth 20000 in
theorem ggX11_ledTo_X11_in : GoodIn wsX11_ledTo wsX11_in := goodIn_r _ [7] rfl (by decide +kernel)
set_option maxRecDepth 20000 in
theorem gX11_ledTo_X11_in : GoodIn wsX11_ledTo (va_wsS RX11 191 yX11_in wsX11_in) := goodIn_app (goodIn_of _ (by decide +kernel)) ggX11_ledTo_X11_in
theorem dX11_ledTo_0 : decode cX11_ledTo 0 = .ok (.aload_n 0, 1) := by decide +kernel
theorem dX11_ledTo_1 : decode cX11_ledTo 1 = .ok (.getfield 250, 3) := by decide +kernel
theorem dX11_ledTo_4 : decode cX11_ledTo 4 = .ok (.ifCond .eq 30, 3) := by decide +kernel
theorem dX11_ledTo_7 : decode cX11_ledTo 7 = .ok (.iload_n 1, 1) := by decide +kernel
theorem dX11_ledTo_8 : decode cX11_ledTo 8 = .ok (.iconst 0, 1) := by decide +kernel
theorem dX11_ledTo_9 : decode cX11_ledTo 9 = .ok (.aload_n 0, 1) := by decide +kernel
theorem dX11_ledTo_10 : decode cX11_ledTo 10 = .ok (.getfield 166, 3) := by decide +kernel
theorem dX11_ledTo_13 : decode cX11_ledTo 13 = .ok (.iconst 1, 1) := by decide +kernel
theorem dX11_ledTo_14 : decode cX11_ledTo 14 = .ok (.isub, 1) := by decide +kernel
theorem dX11_ledTo_15 : decode cX11_ledTo 15 = .ok (.invokestatic 191, 3) := by decide +kernel
theorem dX11_ledTo_18 : decode cX11_ledTo 18 = .ok (.ifCond .eq 16, 3) := by decide +kernel
theorem dX11_ledTo_21 : decode cX11_ledTo 21 = .ok (.aload_n 0, 1) := by decide +kernel
theorem dX11_ledTo_22 : decode cX11_ledTo 22 = .ok (.getfield 159, 3) := by decide +kernel
theorem dX11_ledTo_25 : decode cX11_ledTo 25 = .ok (.iload_n 1, 1) := by decide +kernel
theorem dX11_ledTo_26 : decode cX11_ledTo 26 = .ok (.baload, 1) := by decide +kernel
theorem dX11_ledTo_27 : decode cX11_ledTo 27 = .ok (.sipush 255, 3) := by decide +kernel
theorem dX11_ledTo_30 : decode cX11_ledTo 30 = .ok (.iand, 1) := by decide +kernel
theorem dX11_ledTo_31 : decode cX11_ledTo 31 = .ok (.goto 5, 3) := by decide +kernel
theorem dX11_ledTo_34 : decode cX11_ledTo 34 = .ok (.bipush (-9), 2) := by decide +kernel
theorem dX11_ledTo_36 : decode cX11_ledTo 36 = .ok (.ireturn, 1) := by decide +kernel
set_option maxRecDepth 20000 in
theorem ggX11_index_X11_in : GoodIn wsX11_index wsX11_in := goodIn_r _ [5] rfl (by decide +kernel)
set_option maxRecDepth 20000 in
theorem gX11_index_X11_in : GoodIn wsX11_index (va_wsS RX11 191 yX11_in wsX11_in) := goodIn_app (goodIn_of _ (by decide +kernel)) ggX11_index_X11_in
theorem dX11_index_0 : decode cX11_index 0 = .ok (.iload_n 1, 1) := by decide +kernel
theorem dX11_index_1 : decode cX11_index 1 = .ok (.iconst 0, 1) := by decide +kernel
theorem dX11_index_2 : decode cX11_index 2 = .ok (.bipush 7, 2) := by decide +kernel
theorem dX11_index_4 : decode cX11_index 4 = .ok (.invokestatic 191, 3) := by decide +kernel
theorem dX11_index_7 : decode cX11_index 7 = .ok (.ifCond .eq 12, 3) := by decide +kernel
theorem dX11_index_10 : decode cX11_index 10 = .ok (.aload_n 0, 1) := by decide +kernel
theorem dX11_index_11 : decode cX11_index 11 = .ok (.getfield 147, 3) := by decide +kernel
theorem dX11_index_14 : decode cX11_index 14 = .ok (.iload_n 1, 1) := by decide +kernel
theorem dX11_index_15 : decode cX11_index 15 = .ok (.iaload, 1) := by decide +kernel
theorem dX11_index_16 : decode cX11_index 16 = .ok (.goto 5, 3) := by decide +kernel
theorem dX11_index_19 : decode cX11_index 19 = .ok (.bipush (-9), 2) := by decide +kernel
theorem dX11_index_21 : decode cX11_index 21 = .ok (.ireturn, 1) := by decide +kernel
set_option maxRecDepth 20000 in
theorem ggX11_leaf_X11_in : GoodIn wsX11_leaf wsX11_in := goodIn_r _ [10] rfl (by decide +kernel)
set_option maxRecDepth 20000 in
theorem gX11_leaf_X11_in : GoodIn wsX11_leaf (va_wsS RX11 191 yX11_in wsX11_in) := goodIn_app (goodIn_of _ (by decide +kernel)) ggX11_leaf_X11_in
set_option maxRecDepth 20000 in
theorem ggX11_leaf_X11_leafOf : GoodIn wsX11_leaf wsX11_leafOf := goodIn_r _ [14, 15, 16, 3, 17, 18, 19, 9, 20, 21, 22, 23, 24, 25, 26, 4, 5, 27, 28, 29, 30, 31, 32, 33, 34, 35, 36, 37, 38, 39, 40, 41, 42, 43, 44, 45, 46, 47, 48, 49, 50, 51, 52, 53, 54, 55, 56, 57, 58, 59, 60, 61, 62, 63, 64, 65, 66, 67, 68, 69, 70, 71, 72, 73, 74, 75, 76, 77, 78, 79, 80, 81, 82, 83, 84, 85, 86, 87, 88, 89, 90, 91, 92, 93, 94, 95, 96, 97, 98, 99, 100, 101, 102, 103, 104, 105, 106, 107, 108, 109, 110, 111, 112, 113, 114, 115, 116, 117, 118, 119, 120, 121, 122, 123, 124, 125, 126, 127, 128, 129, 130, 131, 132, 133] rfl (by decide +kernel)
set_option maxRecDepth 20000 in
theorem gX11_leaf_X11_leafOf : GoodIn wsX11_leaf (wsV RX11 285 RX11 yX11_leafOf wsX11_leafOf) := goodIn_app (goodIn_of _ (by decide +kernel)) ggX11_leaf_X11_leafOf
theorem dX11_leaf_0 : decode cX11_leaf 0 = .ok (.iload_n 1, 1) := by decide +kernel
theorem dX11_leaf_1 : decode cX11_leaf 1 = .ok (.iconst 0, 1) := by decide +kernel
theorem dX11_leaf_2 : decode cX11_leaf 2 = .ok (.aload_n 0, 1) := by decide +kernel
theorem dX11_leaf_3 : decode cX11_leaf 3 = .ok (.getfield 172, 3) := by decide +kernel
theorem dX11_leaf_6 : decode cX11_leaf 6 = .ok (.iconst 1, 1) := by decide +kernel
theorem dX11_leaf_7 : decode cX11_leaf 7 = .ok (.isub, 1) := by decide +kernel
theorem dX11_leaf_8 : decode cX11_leaf 8 = .ok (.invokestatic 191, 3) := by decide +kernel
theorem dX11_leaf_11 : decode cX11_leaf 11 = .ok (.ifCond .eq 49, 3) := by decide +kernel
theorem dX11_leaf_14 : decode cX11_leaf 14 = .ok (.iload_n 2, 1) := by decide +kernel
theorem dX11_leaf_15 : decode cX11_leaf 15 = .ok (.iconst 0, 1) := by decide +kernel
theorem dX11_leaf_16 : decode cX11_leaf 16 = .ok (.iload_n 1, 1) := by decide +kernel
theorem dX11_leaf_17 : decode cX11_leaf 17 = .ok (.aload_n 0, 1) := by decide +kernel
theorem dX11_leaf_18 : decode cX11_leaf 18 = .ok (.getfield 172, 3) := by decide +kernel
theorem dX11_leaf_21 : decode cX11_leaf 21 = .ok (.iconst 1, 1) := by decide +kernel
theorem dX11_leaf_22 : decode cX11_leaf 22 = .ok (.isub, 1) := by decide +kernel
theorem dX11_leaf_23 : decode cX11_leaf 23 = .ok (.if_icmp .ne 7, 3) := by decide +kernel
theorem dX11_leaf_26 : decode cX11_leaf 26 = .ok (.iconst 0, 1) := by decide +kernel
theorem dX11_leaf_27 : decode cX11_leaf 27 = .ok (.goto 11, 3) := by decide +kernel
theorem dX11_leaf_30 : decode cX11_leaf 30 = .ok (.iconst 1, 1) := by decide +kernel
theorem dX11_leaf_31 : decode cX11_leaf 31 = .ok (.aload_n 0, 1) := by decide +kernel
theorem dX11_leaf_32 : decode cX11_leaf 32 = .ok (.getfield 169, 3) := by decide +kernel
theorem dX11_leaf_35 : decode cX11_leaf 35 = .ok (.ishl, 1) := by decide +kernel
theorem dX11_leaf_36 : decode cX11_leaf 36 = .ok (.iconst 1, 1) := by decide +kernel
theorem dX11_leaf_37 : decode cX11_leaf 37 = .ok (.isub, 1) := by decide +kernel
theorem dX11_leaf_38 : decode cX11_leaf 38 = .ok (.invokestatic 191, 3) := by decide +kernel
theorem dX11_leaf_41 : decode cX11_leaf 41 = .ok (.ifCond .eq 19, 3) := by decide +kernel
theorem dX11_leaf_44 : decode cX11_leaf 44 = .ok (.iload_n 3, 1) := by decide +kernel
theorem dX11_leaf_45 : decode cX11_leaf 45 = .ok (.iconst 0, 1) := by decide +kernel
theorem dX11_leaf_46 : decode cX11_leaf 46 = .ok (.iconst 1, 1) := by decide +kernel
theorem dX11_leaf_47 : decode cX11_leaf 47 = .ok (.aload_n 0, 1) := by decide +kernel
theorem dX11_leaf_48 : decode cX11_leaf 48 = .ok (.getfield 169, 3) := by decide +kernel
theorem dX11_leaf_51 : decode cX11_leaf 51 = .ok (.ishl, 1) := by decide +kernel
theorem dX11_leaf_52 : decode cX11_leaf 52 = .ok (.iconst 1, 1) := by decide +kernel
theorem dX11_leaf_53 : decode cX11_leaf 53 = .ok (.isub, 1) := by decide +kernel
theorem dX11_leaf_54 : decode cX11_leaf 54 = .ok (.invokestatic 191, 3) := by decide +kernel
theorem dX11_leaf_57 : decode cX11_leaf 57 = .ok (.ifCond .ne 6, 3) := by decide +kernel
theorem dX11_leaf_60 : decode cX11_leaf 60 = .ok (.bipush (-2), 2) := by decide +kernel
theorem dX11_leaf_62 : decode cX11_leaf 62 = .ok (.ireturn, 1) := by decide +kernel
theorem dX11_leaf_63 : decode cX11_leaf 63 = .ok (.iload 4, 2) := by decide +kernel
theorem dX11_leaf_65 : decode cX11_leaf 65 = .ok (.iconst 0, 1) := by decide +kernel
theorem dX11_leaf_66 : decode cX11_leaf 66 = .ok (.aload_n 0, 1) := by decide +kernel
theorem dX11_leaf_67 : decode cX11_leaf 67 = .ok (.getfield 166, 3) := by decide +kernel
theorem dX11_leaf_70 : decode cX11_leaf 70 = .ok (.iconst 1, 1) := by decide +kernel
theorem dX11_leaf_71 : decode cX11_leaf 71 = .ok (.isub, 1) := by decide +kernel
theorem dX11_leaf_72 : decode cX11_leaf 72 = .ok (.invokestatic 191, 3) := by decide +kernel
theorem dX11_leaf_75 : decode cX11_leaf 75 = .ok (.ifCond .ne 6, 3) := by decide +kernel
theorem dX11_leaf_78 : decode cX11_leaf 78 = .ok (.bipush (-9), 2) := by decide +kernel
theorem dX11_leaf_80 : decode cX11_leaf 80 = .ok (.ireturn, 1) := by decide +kernel
theorem dX11_leaf_81 : decode cX11_leaf 81 = .ok (.aload_n 0, 1) := by decide +kernel
theorem dX11_leaf_82 : decode cX11_leaf 82 = .ok (.iload_n 1, 1) := by decide +kernel
theorem dX11_leaf_83 : decode cX11_leaf 83 = .ok (.putfield 256, 3) := by decide +kernel
theorem dX11_leaf_86 : decode cX11_leaf 86 = .ok (.aload_n 0, 1) := by decide +kernel
theorem dX11_leaf_87 : decode cX11_leaf 87 = .ok (.iload_n 2, 1) := by decide +kernel
theorem dX11_leaf_88 : decode cX11_leaf 88 = .ok (.putfield 259, 3) := by decide +kernel
theorem dX11_leaf_91 : decode cX11_leaf 91 = .ok (.aload_n 0, 1) := by decide +kernel
theorem dX11_leaf_92 : decode cX11_leaf 92 = .ok (.iload_n 3, 1) := by decide +kernel
theorem dX11_leaf_93 : decode cX11_leaf 93 = .ok (.aload_n 0, 1) := by decide +kernel
theorem dX11_leaf_94 : decode cX11_leaf 94 = .ok (.getfield 156, 3) := by decide +kernel
theorem dX11_leaf_97 : decode cX11_leaf 97 = .ok (.iconst 0, 1) := by decide +kernel
theorem dX11_leaf_98 : decode cX11_leaf 98 = .ok (.invokevirtual 285, 3) := by decide +kernel
theorem dX11_leaf_101 : decode cX11_leaf 101 = .ok (.aload_n 0, 1) := by decide +kernel
theorem dX11_leaf_102 : decode cX11_leaf 102 = .ok (.getfield 156, 3) := by decide +kernel
theorem dX11_leaf_105 : decode cX11_leaf 105 = .ok (.iload 4, 2) := by decide +kernel
theorem dX11_leaf_107 : decode cX11_leaf 107 = .ok (.baload, 1) := by decide +kernel
theorem dX11_leaf_108 : decode cX11_leaf 108 = .ok (.sipush 255, 3) := by decide +kernel
theorem dX11_leaf_111 : decode cX11_leaf 111 = .ok (.iand, 1) := by decide +kernel
theorem dX11_leaf_112 : decode cX11_leaf 112 = .ok (.ireturn, 1) := by decide +kernel
theorem dX11_told_0 : decode cX11_told 0 = .ok (.iload_n 1, 1) := by decide +kernel
theorem dX11_told_1 : decode cX11_told 1 = .ok (.tableswitch 77 0 5 #[39, 44, 49, 54, 59, 64], 39) := by decide +kernel
theorem dX11_told_40 : decode cX11_told 40 = .ok (.aload_n 0, 1) := by decide +kernel
theorem dX11_told_41 : decode cX11_told 41 = .ok (.getfield 188, 3) := by decide +kernel
theorem dX11_told_44 : decode cX11_told 44 = .ok (.ireturn, 1) := by decide +kernel
theorem dX11_told_45 : decode cX11_told 45 = .ok (.aload_n 0, 1) := by decide +kernel
theorem dX11_told_46 : decode cX11_told 46 = .ok (.getfield 247, 3) := by decide +kernel
theorem dX11_told_49 : decode cX11_told 49 = .ok (.ireturn, 1) := by decide +kernel
theorem dX11_told_50 : decode cX11_told 50 = .ok (.aload_n 0, 1) := by decide +kernel
theorem dX11_told_51 : decode cX11_told 51 = .ok (.getfield 241, 3) := by decide +kernel
theorem dX11_told_54 : decode cX11_told 54 = .ok (.ireturn, 1) := by decide +kernel
theorem dX11_told_55 : decode cX11_told 55 = .ok (.aload_n 0, 1) := by decide +kernel
theorem dX11_told_56 : decode cX11_told 56 = .ok (.getfield 238, 3) := by decide +kernel
theorem dX11_told_59 : decode cX11_told 59 = .ok (.ireturn, 1) := by decide +kernel
theorem dX11_told_60 : decode cX11_told 60 = .ok (.aload_n 0, 1) := by decide +kernel
theorem dX11_told_61 : decode cX11_told 61 = .ok (.getfield 166, 3) := by decide +kernel
theorem dX11_told_64 : decode cX11_told 64 = .ok (.ireturn, 1) := by decide +kernel
theorem dX11_told_65 : decode cX11_told 65 = .ok (.aload_n 0, 1) := by decide +kernel
theorem dX11_told_66 : decode cX11_told 66 = .ok (.getfield 244, 3) := by decide +kernel
theorem dX11_told_69 : decode cX11_told 69 = .ok (.ifCond .eq 7, 3) := by decide +kernel
theorem dX11_told_72 : decode cX11_told 72 = .ok (.iconst 1, 1) := by decide +kernel
theorem dX11_told_73 : decode cX11_told 73 = .ok (.goto 4, 3) := by decide +kernel
theorem dX11_told_76 : decode cX11_told 76 = .ok (.iconst 0, 1) := by decide +kernel
theorem dX11_told_77 : decode cX11_told 77 = .ok (.ireturn, 1) := by decide +kernel
theorem dX11_told_78 : decode cX11_told 78 = .ok (.bipush (-2), 2) := by decide +kernel
theorem dX11_told_80 : decode cX11_told 80 = .ok (.ireturn, 1) := by decide +kernel
set_option maxHeartbeats 4000000 in
set_option maxRecDepth 100000 in
/-- the reference: feed, full -/
theorem c_mfeedF (l : Launch) (g : jG) (h : Nat) (b : Nat → Nat) (v : Nat → Int32) (ntp : Nat) (xa : Int32) (xb : Int32) (xc : Int32) (xd : Int32) (xe : Int32) (hv1 : v 1 = nI ntp) (hn : ntp ≤ 600) (hf : 600 < ntp + 20) : jC l g yX11_feed wsX11_feed ({ frames := 0, cells := 0, slots := 0, locals := 0 } : Room) [.ref h, .int xa, .int xb, .int xc, .int xd, .int xe] [oB h 11 (mO b v)] (fun jj : Unit => some (.int (-4))) (fun jj : Unit => True) (fun jj : Unit => [oB h 11 (mO b v)]) := by
  refine jC.of (cc := cX11_feed) (own := RX11) (maxL := 8) (ret := (some .int)) (by decide +kernel) rfl rfl (Nat.le_of_ble_eq_true rfl) (fun u hu => ⟨_, rfl, rfl⟩) ?_
  intro p e s m below meth c A Q hX hret
  have in11 : ∀ w ∈ wsX110, w ∈ wsX11_feed := (fun w h => List.mem_cons_of_mem _ (List.mem_append_right _ h))
  refine j_aload_n hX 0 dX11_feed_0 rfl ?_
  refine j_gete hX (nI ntp) in11 11 0 1 rfl rfl (by decide) (List.mem_of_getElem? (i := 1) rfl) rfl rfl hv1 dX11_feed_1 ?_
  refine j_bipush hX (20) dX11_feed_4 (by decide) ?_
  refine j_iaddN hX ntp 20 dX11_feed_6 ?_
  refine j_sipush hX (600) dX11_feed_7 (by decide) ?_
  refine j_icmp_leN hX (ntp + 20) 600 16 dX11_feed_10 (by decide) (by omega) (by omega) (fun b_10 => absurd b_10 (by omega)) (fun b_10 => ?_)
  refine j_bipush hX (-4) dX11_feed_13 (by decide) ?_
  refine j_pc 15 rfl ?_
  exact hret () trivial 15 _ .ireturn dX11_feed_15 rfl

set_option maxHeartbeats 4000000 in
set_option maxRecDepth 100000 in
/-- the reference: feed -/
theorem c_mfeedT (l : Launch) (g : jG) (h : Nat) (b : Nat → Nat) (v : Nat → Int32) (ntp : Nat) (tp : Nat → Int32) (xa : Int32) (xb : Int32) (xc : Int32) (xd : Int32) (xe : Int32) (hv1 : v 1 = nI ntp) (hn : ntp ≤ 600) (hf : ntp + 20 ≤ 600) : jC l g yX11_feed wsX11_feed ({ frames := 0, cells := 0, slots := 0, locals := 0 } : Room) [.ref h, .int xa, .int xb, .int xc, .int xd, .int xe] [oB h 11 (mO b v), bA g (b 0) 600 tp] (fun jj : (Nat → Int32) => some (.int (nI (ntp + 20)))) (fun jj : (Nat → Int32) => jj = putL tp ntp ((((Zl xa.toInt64 4 ++ Zl xb.toInt64 4) ++ Zl xc.toInt64 4) ++ Zl xd.toInt64 4) ++ Zl xe.toInt64 4)) (fun jj : (Nat → Int32) => [oB h 11 (mO b (upd v 1 (nI (ntp + 20)))), bA g (b 0) 600 jj]) := by
  refine jC.of (cc := cX11_feed) (own := RX11) (maxL := 8) (ret := (some .int)) (by decide +kernel) rfl rfl (Nat.le_of_ble_eq_true rfl) (fun u hu => ⟨_, rfl, rfl⟩) ?_
  intro p e s m below meth c A Q hX hret
  have in11 : ∀ w ∈ wsX110, w ∈ wsX11_feed := (fun w h => List.mem_cons_of_mem _ (List.mem_append_right _ h))
  obtain ⟨BB, hBB⟩ : ∃ z : Nat → Int32, z = (fun r => ((((Zl xa.toInt64 4 ++ Zl xb.toInt64 4) ++ Zl xc.toInt64 4) ++ Zl xd.toInt64 4) ++ Zl xe.toInt64 4).getD r 0) := ⟨_, rfl⟩
  have hfd0 : tp = feedF tp ntp BB 0 := feed_0 _ _ _
  refine j_aload_n hX 0 dX11_feed_0 rfl ?_
  refine j_gete hX (nI ntp) in11 11 0 1 rfl rfl (by decide) (List.mem_of_getElem? (i := 1) rfl) rfl rfl hv1 dX11_feed_1 ?_
  refine j_bipush hX (20) dX11_feed_4 (by decide) ?_
  refine j_iaddN hX ntp 20 dX11_feed_6 ?_
  refine j_sipush hX (600) dX11_feed_7 (by decide) ?_
  refine j_icmp_leN hX (ntp + 20) 600 16 dX11_feed_10 (by decide) (by omega) (by omega) (fun b_10 => ?_) (fun b_10 => absurd b_10 (by omega))
  refine j_bipush hX (24) dX11_feed_16 (by decide) ?_
  refine j_pc 18 rfl ?_
  refine j_st [.int (nI 24)] rfl ?_
  refine j_istore hX [(6, .int (nI 24)), (0, .ref h), (1, .int xa), (2, .int xb), (3, .int xc), (4, .int xd), (5, .int xe)] dX11_feed_18 (by decide) rfl ?_
  refine j_iload hX 0 dX11_feed_20 rfl ?_
  refine j_if_ltN hX 24 118 dX11_feed_22 (by decide) (by omega) (fun b_22 => absurd b_22 not_false) (fun b_22 => ?_)
  refine j_aload_n hX 1 dX11_feed_25 rfl ?_
  refine j_gete hX (nI ntp) in11 11 0 1 rfl rfl (by decide) (List.mem_of_getElem? (i := 1) rfl) rfl rfl hv1 dX11_feed_26 ?_
  refine j_iconst hX (3) dX11_feed_29 (by decide) ?_
  refine j_iaddN hX ntp 3 dX11_feed_30 ?_
  refine j_iload hX 0 dX11_feed_31 rfl ?_
  refine j_pc 33 rfl ?_
  refine j_bipush hX (8) dX11_feed_33 (by decide) ?_
  refine j_idivN hX 24 8 (by omega) (by omega) (by omega) dX11_feed_35 ?_
  refine j_isubN hX (ntp + 3) (24 / 8) (by omega) dX11_feed_36 ?_
  refine j_istore hX [(7, .int (nI ((ntp + 3) - (24 / 8)))), (6, .int (nI 24)), (0, .ref h), (1, .int xa), (2, .int xb), (3, .int xc), (4, .int xd), (5, .int xe)] dX11_feed_37 (by decide) rfl ?_
  refine j_lv [(7, .int (nI (ntp + 0))), (6, .int (nI 24)), (0, .ref h), (1, .int xa), (2, .int xb), (3, .int xc), (4, .int xd), (5, .int xe)] (by rw [show (ntp + 3) - (24 / 8) = ntp + 0 by omega]) ?_
  refine j_aload_n hX 2 dX11_feed_39 rfl ?_
  refine j_get hX in11 11 0 0 (v := .ref (b 0)) rfl rfl (by decide) (List.mem_of_getElem? (i := 2) rfl) rfl rfl dX11_feed_40 ?_
  refine j_iload hX 0 dX11_feed_43 rfl ?_
  refine j_iload_n hX 3 dX11_feed_45 rfl ?_
  refine j_pc 46 rfl ?_
  refine j_iload hX 1 dX11_feed_46 rfl ?_
  refine j_ishr hX dX11_feed_48 ?_
  refine j_i2b hX dX11_feed_49 ?_
  refine j_bast8 hX 1 (ntp + 0) rfl (by omega) (by omega) [oB h 11 (mO b v), bA g (b 0) 600 (upd tp (ntp + 0) (i8 (xa >>> ((nI 24) &&& 31))))] rfl dX11_feed_50 ?_
  obtain ⟨F1, eF1⟩ : ∃ z, z = upd tp (ntp + 0) (i8 (xa >>> ((nI 24) &&& 31))) := ⟨_, rfl⟩
  refine j_w [oB h 11 (mO b v), bA g (b 0) 600 F1] (by rw [eF1]) ?_
  refine j_aload_n hX 2 dX11_feed_51 rfl ?_
  refine j_get hX in11 11 0 0 (v := .ref (b 0)) rfl rfl (by decide) (List.mem_of_getElem? (i := 2) rfl) rfl rfl dX11_feed_52 ?_
  refine j_iload hX 0 dX11_feed_55 rfl ?_
  refine j_iconst hX (4) dX11_feed_57 (by decide) ?_
  refine j_pc 58 rfl ?_
  refine j_iaddN hX (ntp + 0) 4 dX11_feed_58 ?_
  refine j_iload_n hX 4 dX11_feed_59 rfl ?_
  refine j_iload hX 1 dX11_feed_60 rfl ?_
  refine j_ishr hX dX11_feed_62 ?_
  refine j_i2b hX dX11_feed_63 ?_
  refine j_bast8 hX 1 ((ntp + 0) + 4) rfl (by omega) (by omega) [oB h 11 (mO b v), bA g (b 0) 600 (upd F1 ((ntp + 0) + 4) (i8 (xb >>> ((nI 24) &&& 31))))] rfl dX11_feed_64 ?_
  obtain ⟨F2, eF2⟩ : ∃ z, z = upd F1 ((ntp + 0) + 4) (i8 (xb >>> ((nI 24) &&& 31))) := ⟨_, rfl⟩
  refine j_w [oB h 11 (mO b v), bA g (b 0) 600 F2] (by rw [eF2]) ?_
  refine j_aload_n hX 2 dX11_feed_65 rfl ?_
  refine j_get hX in11 11 0 0 (v := .ref (b 0)) rfl rfl (by decide) (List.mem_of_getElem? (i := 2) rfl) rfl rfl dX11_feed_66 ?_
  refine j_pc 69 rfl ?_
  refine j_iload hX 0 dX11_feed_69 rfl ?_
  refine j_bipush hX (8) dX11_feed_71 (by decide) ?_
  refine j_iaddN hX (ntp + 0) 8 dX11_feed_73 ?_
  refine j_iload_n hX 5 dX11_feed_74 rfl ?_
  refine j_iload hX 1 dX11_feed_75 rfl ?_
  refine j_ishr hX dX11_feed_77 ?_
  refine j_i2b hX dX11_feed_78 ?_
  refine j_bast8 hX 1 ((ntp + 0) + 8) rfl (by omega) (by omega) [oB h 11 (mO b v), bA g (b 0) 600 (upd F2 ((ntp + 0) + 8) (i8 (xc >>> ((nI 24) &&& 31))))] rfl dX11_feed_79 ?_
  obtain ⟨F3, eF3⟩ : ∃ z, z = upd F2 ((ntp + 0) + 8) (i8 (xc >>> ((nI 24) &&& 31))) := ⟨_, rfl⟩
  refine j_w [oB h 11 (mO b v), bA g (b 0) 600 F3] (by rw [eF3]) ?_
  refine j_pc 80 rfl ?_
  refine j_aload_n hX 2 dX11_feed_80 rfl ?_
  refine j_get hX in11 11 0 0 (v := .ref (b 0)) rfl rfl (by decide) (List.mem_of_getElem? (i := 2) rfl) rfl rfl dX11_feed_81 ?_
  refine j_iload hX 0 dX11_feed_84 rfl ?_
  refine j_bipush hX (12) dX11_feed_86 (by decide) ?_
  refine j_iaddN hX (ntp + 0) 12 dX11_feed_88 ?_
  refine j_iload hX 6 dX11_feed_89 rfl ?_
  refine j_iload hX 1 dX11_feed_91 rfl ?_
  refine j_ishr hX dX11_feed_93 ?_
  refine j_pc 94 rfl ?_
  refine j_i2b hX dX11_feed_94 ?_
  refine j_bast8 hX 1 ((ntp + 0) + 12) rfl (by omega) (by omega) [oB h 11 (mO b v), bA g (b 0) 600 (upd F3 ((ntp + 0) + 12) (i8 (xd >>> ((nI 24) &&& 31))))] rfl dX11_feed_95 ?_
  obtain ⟨F4, eF4⟩ : ∃ z, z = upd F3 ((ntp + 0) + 12) (i8 (xd >>> ((nI 24) &&& 31))) := ⟨_, rfl⟩
  refine j_w [oB h 11 (mO b v), bA g (b 0) 600 F4] (by rw [eF4]) ?_
  refine j_aload_n hX 2 dX11_feed_96 rfl ?_
  refine j_get hX in11 11 0 0 (v := .ref (b 0)) rfl rfl (by decide) (List.mem_of_getElem? (i := 2) rfl) rfl rfl dX11_feed_97 ?_
  refine j_iload hX 0 dX11_feed_100 rfl ?_
  refine j_bipush hX (16) dX11_feed_102 (by decide) ?_
  refine j_iaddN hX (ntp + 0) 16 dX11_feed_104 ?_
  refine j_iload hX 7 dX11_feed_105 rfl ?_
  refine j_pc 107 rfl ?_
  refine j_iload hX 1 dX11_feed_107 rfl ?_
  refine j_ishr hX dX11_feed_109 ?_
  refine j_i2b hX dX11_feed_110 ?_
  refine j_bast8 hX 1 ((ntp + 0) + 16) rfl (by omega) (by omega) [oB h 11 (mO b v), bA g (b 0) 600 (upd F4 ((ntp + 0) + 16) (i8 (xe >>> ((nI 24) &&& 31))))] rfl dX11_feed_111 ?_
  obtain ⟨F5, eF5⟩ : ∃ z, z = upd F4 ((ntp + 0) + 16) (i8 (xe >>> ((nI 24) &&& 31))) := ⟨_, rfl⟩
  refine j_w [oB h 11 (mO b v), bA g (b 0) 600 F5] (by rw [eF5]) ?_
  have hb0 : i8 (xa >>> (nI 24 &&& 31)) = BB 0 := by rw [hBB]; exact (sh4 xa 0 (by decide)).trans rfl
  have hb1 : i8 (xb >>> (nI 24 &&& 31)) = BB (0 + 4) := by rw [hBB]; exact (sh4 xb 0 (by decide)).trans rfl
  have hb2 : i8 (xc >>> (nI 24 &&& 31)) = BB (0 + 8) := by rw [hBB]; exact (sh4 xc 0 (by decide)).trans rfl
  have hb3 : i8 (xd >>> (nI 24 &&& 31)) = BB (0 + 12) := by rw [hBB]; exact (sh4 xd 0 (by decide)).trans rfl
  have hb4 : i8 (xe >>> (nI 24 &&& 31)) = BB (0 + 16) := by rw [hBB]; exact (sh4 xe 0 (by decide)).trans rfl
  rw [hb0] at eF1
  rw [hb1] at eF2
  rw [hb2] at eF3
  rw [hb3] at eF4
  rw [hb4] at eF5
  have hfd1 : F5 = feedF tp ntp BB (0 + 1) := by rw [eF5, eF4, eF3, eF2, eF1]; exact feed_step2 hfd0 (by decide)
  refine j_iinc hX (nI 24 + (-8)) [(6, .int (nI 24 + (-8))), (7, .int (nI (ntp + 0))), (0, .ref h), (1, .int xa), (2, .int xb), (3, .int xc), (4, .int xd), (5, .int xe)] 1 dX11_feed_112 rfl rfl (by decide) rfl ?_
  refine j_lv [(6, .int (nI 16)), (7, .int (nI (ntp + 0))), (0, .ref h), (1, .int xa), (2, .int xb), (3, .int xc), (4, .int xd), (5, .int xe)] rfl ?_
  refine j_goto hX 20 dX11_feed_115 (by decide) ?_
  refine j_iload hX 0 dX11_feed_20 rfl ?_
  refine j_if_ltN hX 16 118 dX11_feed_22 (by decide) (by omega) (fun b_22 => absurd b_22 not_false) (fun b_22 => ?_)
  refine j_pc 25 rfl ?_
  refine j_aload_n hX 2 dX11_feed_25 rfl ?_
  refine j_gete hX (nI ntp) in11 11 0 1 rfl rfl (by decide) (List.mem_of_getElem? (i := 1) rfl) rfl rfl hv1 dX11_feed_26 ?_
  refine j_iconst hX (3) dX11_feed_29 (by decide) ?_
  refine j_iaddN hX ntp 3 dX11_feed_30 ?_
  refine j_iload hX 0 dX11_feed_31 rfl ?_
  refine j_bipush hX (8) dX11_feed_33 (by decide) ?_
  refine j_idivN hX 16 8 (by omega) (by omega) (by omega) dX11_feed_35 ?_
  refine j_isubN hX (ntp + 3) (16 / 8) (by omega) dX11_feed_36 ?_
  refine j_pc 37 rfl ?_
  refine j_istore hX [(7, .int (nI ((ntp + 3) - (16 / 8)))), (6, .int (nI 16)), (0, .ref h), (1, .int xa), (2, .int xb), (3, .int xc), (4, .int xd), (5, .int xe)] dX11_feed_37 (by decide) rfl ?_
  refine j_lv [(7, .int (nI (ntp + 1))), (6, .int (nI 16)), (0, .ref h), (1, .int xa), (2, .int xb), (3, .int xc), (4, .int xd), (5, .int xe)] (by rw [show (ntp + 3) - (16 / 8) = ntp + 1 by omega]) ?_
  refine j_aload_n hX 2 dX11_feed_39 rfl ?_
  refine j_get hX in11 11 0 0 (v := .ref (b 0)) rfl rfl (by decide) (List.mem_of_getElem? (i := 2) rfl) rfl rfl dX11_feed_40 ?_
  refine j_iload hX 0 dX11_feed_43 rfl ?_
  refine j_iload_n hX 3 dX11_feed_45 rfl ?_
  refine j_iload hX 1 dX11_feed_46 rfl ?_
  refine j_ishr hX dX11_feed_48 ?_
  refine j_i2b hX dX11_feed_49 ?_
  refine j_pc 50 rfl ?_
  refine j_bast8 hX 1 (ntp + 1) rfl (by omega) (by omega) [oB h 11 (mO b v), bA g (b 0) 600 (upd F5 (ntp + 1) (i8 (xa >>> ((nI 16) &&& 31))))] rfl dX11_feed_50 ?_
  obtain ⟨F1, eF1⟩ : ∃ z, z = upd F5 (ntp + 1) (i8 (xa >>> ((nI 16) &&& 31))) := ⟨_, rfl⟩
  refine j_w [oB h 11 (mO b v), bA g (b 0) 600 F1] (by rw [eF1]) ?_
  refine j_aload_n hX 2 dX11_feed_51 rfl ?_
  refine j_get hX in11 11 0 0 (v := .ref (b 0)) rfl rfl (by decide) (List.mem_of_getElem? (i := 2) rfl) rfl rfl dX11_feed_52 ?_
  refine j_iload hX 0 dX11_feed_55 rfl ?_
  refine j_iconst hX (4) dX11_feed_57 (by decide) ?_
  refine j_iaddN hX (ntp + 1) 4 dX11_feed_58 ?_
  refine j_iload_n hX 4 dX11_feed_59 rfl ?_
  refine j_iload hX 1 dX11_feed_60 rfl ?_
  refine j_pc 62 rfl ?_
  refine j_ishr hX dX11_feed_62 ?_
  refine j_i2b hX dX11_feed_63 ?_
  refine j_bast8 hX 1 ((ntp + 1) + 4) rfl (by omega) (by omega) [oB h 11 (mO b v), bA g (b 0) 600 (upd F1 ((ntp + 1) + 4) (i8 (xb >>> ((nI 16) &&& 31))))] rfl dX11_feed_64 ?_
  obtain ⟨F2, eF2⟩ : ∃ z, z = upd F1 ((ntp + 1) + 4) (i8 (xb >>> ((nI 16) &&& 31))) := ⟨_, rfl⟩
  refine j_w [oB h 11 (mO b v), bA g (b 0) 600 F2] (by rw [eF2]) ?_
  refine j_aload_n hX 2 dX11_feed_65 rfl ?_
  refine j_get hX in11 11 0 0 (v := .ref (b 0)) rfl rfl (by decide) (List.mem_of_getElem? (i := 2) rfl) rfl rfl dX11_feed_66 ?_
  refine j_iload hX 0 dX11_feed_69 rfl ?_
  refine j_bipush hX (8) dX11_feed_71 (by decide) ?_
  refine j_iaddN hX (ntp + 1) 8 dX11_feed_73 ?_
  refine j_pc 74 rfl ?_
  refine j_iload_n hX 5 dX11_feed_74 rfl ?_
  refine j_iload hX 1 dX11_feed_75 rfl ?_
  refine j_ishr hX dX11_feed_77 ?_
  refine j_i2b hX dX11_feed_78 ?_
  refine j_bast8 hX 1 ((ntp + 1) + 8) rfl (by omega) (by omega) [oB h 11 (mO b v), bA g (b 0) 600 (upd F2 ((ntp + 1) + 8) (i8 (xc >>> ((nI 16) &&& 31))))] rfl dX11_feed_79 ?_
  obtain ⟨F3, eF3⟩ : ∃ z, z = upd F2 ((ntp + 1) + 8) (i8 (xc >>> ((nI 16) &&& 31))) := ⟨_, rfl⟩
  refine j_w [oB h 11 (mO b v), bA g (b 0) 600 F3] (by rw [eF3]) ?_
  refine j_aload_n hX 2 dX11_feed_80 rfl ?_
  refine j_get hX in11 11 0 0 (v := .ref (b 0)) rfl rfl (by decide) (List.mem_of_getElem? (i := 2) rfl) rfl rfl dX11_feed_81 ?_
  refine j_iload hX 0 dX11_feed_84 rfl ?_
  refine j_pc 86 rfl ?_
  refine j_bipush hX (12) dX11_feed_86 (by decide) ?_
  refine j_iaddN hX (ntp + 1) 12 dX11_feed_88 ?_
  refine j_iload hX 6 dX11_feed_89 rfl ?_
  refine j_iload hX 1 dX11_feed_91 rfl ?_
  refine j_ishr hX dX11_feed_93 ?_
  refine j_i2b hX dX11_feed_94 ?_
  refine j_bast8 hX 1 ((ntp + 1) + 12) rfl (by omega) (by omega) [oB h 11 (mO b v), bA g (b 0) 600 (upd F3 ((ntp + 1) + 12) (i8 (xd >>> ((nI 16) &&& 31))))] rfl dX11_feed_95 ?_
  obtain ⟨F4, eF4⟩ : ∃ z, z = upd F3 ((ntp + 1) + 12) (i8 (xd >>> ((nI 16) &&& 31))) := ⟨_, rfl⟩
  refine j_w [oB h 11 (mO b v), bA g (b 0) 600 F4] (by rw [eF4]) ?_
  refine j_aload_n hX 2 dX11_feed_96 rfl ?_
  refine j_pc 97 rfl ?_
  refine j_get hX in11 11 0 0 (v := .ref (b 0)) rfl rfl (by decide) (List.mem_of_getElem? (i := 2) rfl) rfl rfl dX11_feed_97 ?_
  refine j_iload hX 0 dX11_feed_100 rfl ?_
  refine j_bipush hX (16) dX11_feed_102 (by decide) ?_
  refine j_iaddN hX (ntp + 1) 16 dX11_feed_104 ?_
  refine j_iload hX 7 dX11_feed_105 rfl ?_
  refine j_iload hX 1 dX11_feed_107 rfl ?_
  refine j_ishr hX dX11_feed_109 ?_
  refine j_i2b hX dX11_feed_110 ?_
  refine j_pc 111 rfl ?_
  refine j_bast8 hX 1 ((ntp + 1) + 16) rfl (by omega) (by omega) [oB h 11 (mO b v), bA g (b 0) 600 (upd F4 ((ntp + 1) + 16) (i8 (xe >>> ((nI 16) &&& 31))))] rfl dX11_feed_111 ?_
  obtain ⟨F5, eF5⟩ : ∃ z, z = upd F4 ((ntp + 1) + 16) (i8 (xe >>> ((nI 16) &&& 31))) := ⟨_, rfl⟩
  refine j_w [oB h 11 (mO b v), bA g (b 0) 600 F5] (by rw [eF5]) ?_
  have hb0 : i8 (xa >>> (nI 16 &&& 31)) = BB 1 := by rw [hBB]; exact (sh4 xa 1 (by decide)).trans rfl
  have hb1 : i8 (xb >>> (nI 16 &&& 31)) = BB (1 + 4) := by rw [hBB]; exact (sh4 xb 1 (by decide)).trans rfl
  have hb2 : i8 (xc >>> (nI 16 &&& 31)) = BB (1 + 8) := by rw [hBB]; exact (sh4 xc 1 (by decide)).trans rfl
  have hb3 : i8 (xd >>> (nI 16 &&& 31)) = BB (1 + 12) := by rw [hBB]; exact (sh4 xd 1 (by decide)).trans rfl
  have hb4 : i8 (xe >>> (nI 16 &&& 31)) = BB (1 + 16) := by rw [hBB]; exact (sh4 xe 1 (by decide)).trans rfl
  rw [hb0] at eF1
  rw [hb1] at eF2
  rw [hb2] at eF3
  rw [hb3] at eF4
  rw [hb4] at eF5
  have hfd2 : F5 = feedF tp ntp BB (1 + 1) := by rw [eF5, eF4, eF3, eF2, eF1]; exact feed_step2 hfd1 (by decide)
  refine j_iinc hX (nI 16 + (-8)) [(6, .int (nI 16 + (-8))), (7, .int (nI (ntp + 1))), (0, .ref h), (1, .int xa), (2, .int xb), (3, .int xc), (4, .int xd), (5, .int xe)] 1 dX11_feed_112 rfl rfl (by decide) rfl ?_
  refine j_lv [(6, .int (nI 8)), (7, .int (nI (ntp + 1))), (0, .ref h), (1, .int xa), (2, .int xb), (3, .int xc), (4, .int xd), (5, .int xe)] rfl ?_
  refine j_goto hX 20 dX11_feed_115 (by decide) ?_
  refine j_iload hX 0 dX11_feed_20 rfl ?_
  refine j_if_ltN hX 8 118 dX11_feed_22 (by decide) (by omega) (fun b_22 => absurd b_22 not_false) (fun b_22 => ?_)
  refine j_aload_n hX 2 dX11_feed_25 rfl ?_
  refine j_gete hX (nI ntp) in11 11 0 1 rfl rfl (by decide) (List.mem_of_getElem? (i := 1) rfl) rfl rfl hv1 dX11_feed_26 ?_
  refine j_iconst hX (3) dX11_feed_29 (by decide) ?_
  refine j_pc 30 rfl ?_
  refine j_iaddN hX ntp 3 dX11_feed_30 ?_
  refine j_iload hX 0 dX11_feed_31 rfl ?_
  refine j_bipush hX (8) dX11_feed_33 (by decide) ?_
  refine j_idivN hX 8 8 (by omega) (by omega) (by omega) dX11_feed_35 ?_
  refine j_isubN hX (ntp + 3) (8 / 8) (by omega) dX11_feed_36 ?_
  refine j_istore hX [(7, .int (nI ((ntp + 3) - (8 / 8)))), (6, .int (nI 8)), (0, .ref h), (1, .int xa), (2, .int xb), (3, .int xc), (4, .int xd), (5, .int xe)] dX11_feed_37 (by decide) rfl ?_
  refine j_lv [(7, .int (nI (ntp + 2))), (6, .int (nI 8)), (0, .ref h), (1, .int xa), (2, .int xb), (3, .int xc), (4, .int xd), (5, .int xe)] (by rw [show (ntp + 3) - (8 / 8) = ntp + 2 by omega]) ?_
  refine j_aload_n hX 2 dX11_feed_39 rfl ?_
  refine j_get hX in11 11 0 0 (v := .ref (b 0)) rfl rfl (by decide) (List.mem_of_getElem? (i := 2) rfl) rfl rfl dX11_feed_40 ?_
  refine j_pc 43 rfl ?_
  refine j_iload hX 0 dX11_feed_43 rfl ?_
  refine j_iload_n hX 3 dX11_feed_45 rfl ?_
  refine j_iload hX 1 dX11_feed_46 rfl ?_
  refine j_ishr hX dX11_feed_48 ?_
  refine j_i2b hX dX11_feed_49 ?_
  refine j_bast8 hX 1 (ntp + 2) rfl (by omega) (by omega) [oB h 11 (mO b v), bA g (b 0) 600 (upd F5 (ntp + 2) (i8 (xa >>> ((nI 8) &&& 31))))] rfl dX11_feed_50 ?_
  obtain ⟨F1, eF1⟩ : ∃ z, z = upd F5 (ntp + 2) (i8 (xa >>> ((nI 8) &&& 31))) := ⟨_, rfl⟩
  refine j_w [oB h 11 (mO b v), bA g (b 0) 600 F1] (by rw [eF1]) ?_
  refine j_aload_n hX 2 dX11_feed_51 rfl ?_
  refine j_get hX in11 11 0 0 (v := .ref (b 0)) rfl rfl (by decide) (List.mem_of_getElem? (i := 2) rfl) rfl rfl dX11_feed_52 ?_
  refine j_pc 55 rfl ?_
  refine j_iload hX 0 dX11_feed_55 rfl ?_
  refine j_iconst hX (4) dX11_feed_57 (by decide) ?_
  refine j_iaddN hX (ntp + 2) 4 dX11_feed_58 ?_
  refine j_iload_n hX 4 dX11_feed_59 rfl ?_
  refine j_iload hX 1 dX11_feed_60 rfl ?_
  refine j_ishr hX dX11_feed_62 ?_
  refine j_i2b hX dX11_feed_63 ?_
  refine j_bast8 hX 1 ((ntp + 2) + 4) rfl (by omega) (by omega) [oB h 11 (mO b v), bA g (b 0) 600 (upd F1 ((ntp + 2) + 4) (i8 (xb >>> ((nI 8) &&& 31))))] rfl dX11_feed_64 ?_
  obtain ⟨F2, eF2⟩ : ∃ z, z = upd F1 ((ntp + 2) + 4) (i8 (xb >>> ((nI 8) &&& 31))) := ⟨_, rfl⟩
  refine j_w [oB h 11 (mO b v), bA g (b 0) 600 F2] (by rw [eF2]) ?_
  refine j_pc 65 rfl ?_
  refine j_aload_n hX 2 dX11_feed_65 rfl ?_
  refine j_get hX in11 11 0 0 (v := .ref (b 0)) rfl rfl (by decide) (List.mem_of_getElem? (i := 2) rfl) rfl rfl dX11_feed_66 ?_
  refine j_iload hX 0 dX11_feed_69 rfl ?_
  refine j_bipush hX (8) dX11_feed_71 (by decide) ?_
  refine j_iaddN hX (ntp + 2) 8 dX11_feed_73 ?_
  refine j_iload_n hX 5 dX11_feed_74 rfl ?_
  refine j_iload hX 1 dX11_feed_75 rfl ?_
  refine j_ishr hX dX11_feed_77 ?_
  refine j_pc 78 rfl ?_
  refine j_i2b hX dX11_feed_78 ?_
  refine j_bast8 hX 1 ((ntp + 2) + 8) rfl (by omega) (by omega) [oB h 11 (mO b v), bA g (b 0) 600 (upd F2 ((ntp + 2) + 8) (i8 (xc >>> ((nI 8) &&& 31))))] rfl dX11_feed_79 ?_
  obtain ⟨F3, eF3⟩ : ∃ z, z = upd F2 ((ntp + 2) + 8) (i8 (xc >>> ((nI 8) &&& 31))) := ⟨_, rfl⟩
  refine j_w [oB h 11 (mO b v), bA g (b 0) 600 F3] (by rw [eF3]) ?_
  refine j_aload_n hX 2 dX11_feed_80 rfl ?_
  refine j_get hX in11 11 0 0 (v := .ref (b 0)) rfl rfl (by decide) (List.mem_of_getElem? (i := 2) rfl) rfl rfl dX11_feed_81 ?_
  refine j_iload hX 0 dX11_feed_84 rfl ?_
  refine j_bipush hX (12) dX11_feed_86 (by decide) ?_
  refine j_iaddN hX (ntp + 2) 12 dX11_feed_88 ?_
  refine j_iload hX 6 dX11_feed_89 rfl ?_
  refine j_pc 91 rfl ?_
  refine j_iload hX 1 dX11_feed_91 rfl ?_
  refine j_ishr hX dX11_feed_93 ?_
  refine j_i2b hX dX11_feed_94 ?_
  refine j_bast8 hX 1 ((ntp + 2) + 12) rfl (by omega) (by omega) [oB h 11 (mO b v), bA g (b 0) 600 (upd F3 ((ntp + 2) + 12) (i8 (xd >>> ((nI 8) &&& 31))))] rfl dX11_feed_95 ?_
  obtain ⟨F4, eF4⟩ : ∃ z, z = upd F3 ((ntp + 2) + 12) (i8 (xd >>> ((nI 8) &&& 31))) := ⟨_, rfl⟩
  refine j_w [oB h 11 (mO b v), bA g (b 0) 600 F4] (by rw [eF4]) ?_
  refine j_aload_n hX 2 dX11_feed_96 rfl ?_
  refine j_get hX in11 11 0 0 (v := .ref (b 0)) rfl rfl (by decide) (List.mem_of_getElem? (i := 2) rfl) rfl rfl dX11_feed_97 ?_
  refine j_iload hX 0 dX11_feed_100 rfl ?_
  refine j_bipush hX (16) dX11_feed_102 (by decide) ?_
  refine j_pc 104 rfl ?_
  refine j_iaddN hX (ntp + 2) 16 dX11_feed_104 ?_
  refine j_iload hX 7 dX11_feed_105 rfl ?_
  refine j_iload hX 1 dX11_feed_107 rfl ?_
  refine j_ishr hX dX11_feed_109 ?_
  refine j_i2b hX dX11_feed_110 ?_
  refine j_bast8 hX 1 ((ntp + 2) + 16) rfl (by omega) (by omega) [oB h 11 (mO b v), bA g (b 0) 600 (upd F4 ((ntp + 2) + 16) (i8 (xe >>> ((nI 8) &&& 31))))] rfl dX11_feed_111 ?_
  obtain ⟨F5, eF5⟩ : ∃ z, z = upd F4 ((ntp + 2) + 16) (i8 (xe >>> ((nI 8) &&& 31))) := ⟨_, rfl⟩
  refine j_w [oB h 11 (mO b v), bA g (b 0) 600 F5] (by rw [eF5]) ?_
  have hb0 : i8 (xa >>> (nI 8 &&& 31)) = BB 2 := by rw [hBB]; exact (sh4 xa 2 (by decide)).trans rfl
  have hb1 : i8 (xb >>> (nI 8 &&& 31)) = BB (2 + 4) := by rw [hBB]; exact (sh4 xb 2 (by decide)).trans rfl
  have hb2 : i8 (xc >>> (nI 8 &&& 31)) = BB (2 + 8) := by rw [hBB]; exact (sh4 xc 2 (by decide)).trans rfl
  have hb3 : i8 (xd >>> (nI 8 &&& 31)) = BB (2 + 12) := by rw [hBB]; exact (sh4 xd 2 (by decide)).trans rfl
  have hb4 : i8 (xe >>> (nI 8 &&& 31)) = BB (2 + 16) := by rw [hBB]; exact (sh4 xe 2 (by decide)).trans rfl
  rw [hb0] at eF1
  rw [hb1] at eF2
  rw [hb2] at eF3
  rw [hb3] at eF4
  rw [hb4] at eF5
  have hfd3 : F5 = feedF tp ntp BB (2 + 1) := by rw [eF5, eF4, eF3, eF2, eF1]; exact feed_step2 hfd2 (by decide)
  refine j_iinc hX (nI 8 + (-8)) [(6, .int (nI 8 + (-8))), (7, .int (nI (ntp + 2))), (0, .ref h), (1, .int xa), (2, .int xb), (3, .int xc), (4, .int xd), (5, .int xe)] 1 dX11_feed_112 rfl rfl (by decide) rfl ?_
  refine j_lv [(6, .int (nI 0)), (7, .int (nI (ntp + 2))), (0, .ref h), (1, .int xa), (2, .int xb), (3, .int xc), (4, .int xd), (5, .int xe)] rfl ?_
  refine j_goto hX 20 dX11_feed_115 (by decide) ?_
  refine j_pc 20 rfl ?_
  refine j_iload hX 0 dX11_feed_20 rfl ?_
  refine j_if_ltN hX 0 118 dX11_feed_22 (by decide) (by omega) (fun b_22 => absurd b_22 not_false) (fun b_22 => ?_)
  refine j_aload_n hX 2 dX11_feed_25 rfl ?_
  refine j_gete hX (nI ntp) in11 11 0 1 rfl rfl (by decide) (List.mem_of_getElem? (i := 1) rfl) rfl rfl hv1 dX11_feed_26 ?_
  refine j_iconst hX (3) dX11_feed_29 (by decide) ?_
  refine j_iaddN hX ntp 3 dX11_feed_30 ?_
  refine j_iload hX 0 dX11_feed_31 rfl ?_
  refine j_bipush hX (8) dX11_feed_33 (by decide) ?_
  refine j_pc 35 rfl ?_
  refine j_idivN hX 0 8 (by omega) (by omega) (by omega) dX11_feed_35 ?_
  refine j_isubN hX (ntp + 3) (0 / 8) (by omega) dX11_feed_36 ?_
  refine j_istore hX [(7, .int (nI ((ntp + 3) - (0 / 8)))), (6, .int (nI 0)), (0, .ref h), (1, .int xa), (2, .int xb), (3, .int xc), (4, .int xd), (5, .int xe)] dX11_feed_37 (by decide) rfl ?_
  refine j_lv [(7, .int (nI (ntp + 3))), (6, .int (nI 0)), (0, .ref h), (1, .int xa), (2, .int xb), (3, .int xc), (4, .int xd), (5, .int xe)] (by rw [show (ntp + 3) - (0 / 8) = ntp + 3 by omega]) ?_
  refine j_aload_n hX 2 dX11_feed_39 rfl ?_
  refine j_get hX in11 11 0 0 (v := .ref (b 0)) rfl rfl (by decide) (List.mem_of_getElem? (i := 2) rfl) rfl rfl dX11_feed_40 ?_
  refine j_iload hX 0 dX11_feed_43 rfl ?_
  refine j_iload_n hX 3 dX11_feed_45 rfl ?_
  refine j_iload hX 1 dX11_feed_46 rfl ?_
  refine j_pc 48 rfl ?_
  refine j_ishr hX dX11_feed_48 ?_
  refine j_i2b hX dX11_feed_49 ?_
  refine j_bast8 hX 1 (ntp + 3) rfl (by omega) (by omega) [oB h 11 (mO b v), bA g (b 0) 600 (upd F5 (ntp + 3) (i8 (xa >>> ((nI 0) &&& 31))))] rfl dX11_feed_50 ?_
  obtain ⟨F1, eF1⟩ : ∃ z, z = upd F5 (ntp + 3) (i8 (xa >>> ((nI 0) &&& 31))) := ⟨_, rfl⟩
  refine j_w [oB h 11 (mO b v), bA g (b 0) 600 F1] (by rw [eF1]) ?_
  refine j_aload_n hX 2 dX11_feed_51 rfl ?_
  refine j_get hX in11 11 0 0 (v := .ref (b 0)) rfl rfl (by decide) (List.mem_of_getElem? (i := 2) rfl) rfl rfl dX11_feed_52 ?_
  refine j_iload hX 0 dX11_feed_55 rfl ?_
  refine j_iconst hX (4) dX11_feed_57 (by decide) ?_
  refine j_iaddN hX (ntp + 3) 4 dX11_feed_58 ?_
  refine j_pc 59 rfl ?_
  refine j_iload_n hX 4 dX11_feed_59 rfl ?_
  refine j_iload hX 1 dX11_feed_60 rfl ?_
  refine j_ishr hX dX11_feed_62 ?_
  refine j_i2b hX dX11_feed_63 ?_
  refine j_bast8 hX 1 ((ntp + 3) + 4) rfl (by omega) (by omega) [oB h 11 (mO b v), bA g (b 0) 600 (upd F1 ((ntp + 3) + 4) (i8 (xb >>> ((nI 0) &&& 31))))] rfl dX11_feed_64 ?_
  obtain ⟨F2, eF2⟩ : ∃ z, z = upd F1 ((ntp + 3) + 4) (i8 (xb >>> ((nI 0) &&& 31))) := ⟨_, rfl⟩
  refine j_w [oB h 11 (mO b v), bA g (b 0) 600 F2] (by rw [eF2]) ?_
  refine j_aload_n hX 2 dX11_feed_65 rfl ?_
  refine j_get hX in11 11 0 0 (v := .ref (b 0)) rfl rfl (by decide) (List.mem_of_getElem? (i := 2) rfl) rfl rfl dX11_feed_66 ?_
  refine j_iload hX 0 dX11_feed_69 rfl ?_
  refine j_pc 71 rfl ?_
  refine j_bipush hX (8) dX11_feed_71 (by decide) ?_
  refine j_iaddN hX (ntp + 3) 8 dX11_feed_73 ?_
  refine j_iload_n hX 5 dX11_feed_74 rfl ?_
  refine j_iload hX 1 dX11_feed_75 rfl ?_
  refine j_ishr hX dX11_feed_77 ?_
  refine j_i2b hX dX11_feed_78 ?_
  refine j_bast8 hX 1 ((ntp + 3) + 8) rfl (by omega) (by omega) [oB h 11 (mO b v), bA g (b 0) 600 (upd F2 ((ntp + 3) + 8) (i8 (xc >>> ((nI 0) &&& 31))))] rfl dX11_feed_79 ?_
  obtain ⟨F3, eF3⟩ : ∃ z, z = upd F2 ((ntp + 3) + 8) (i8 (xc >>> ((nI 0) &&& 31))) := ⟨_, rfl⟩
  refine j_w [oB h 11 (mO b v), bA g (b 0) 600 F3] (by rw [eF3]) ?_
  refine j_aload_n hX 2 dX11_feed_80 rfl ?_
  refine j_pc 81 rfl ?_
  refine j_get hX in11 11 0 0 (v := .ref (b 0)) rfl rfl (by decide) (List.mem_of_getElem? (i := 2) rfl) rfl rfl dX11_feed_81 ?_
  refine j_iload hX 0 dX11_feed_84 rfl ?_
  refine j_bipush hX (12) dX11_feed_86 (by decide) ?_
  refine j_iaddN hX (ntp + 3) 12 dX11_feed_88 ?_
  refine j_iload hX 6 dX11_feed_89 rfl ?_
  refine j_iload hX 1 dX11_feed_91 rfl ?_
  refine j_ishr hX dX11_feed_93 ?_
  refine j_i2b hX dX11_feed_94 ?_
  refine j_pc 95 rfl ?_
  refine j_bast8 hX 1 ((ntp + 3) + 12) rfl (by omega) (by omega) [oB h 11 (mO b v), bA g (b 0) 600 (upd F3 ((ntp + 3) + 12) (i8 (xd >>> ((nI 0) &&& 31))))] rfl dX11_feed_95 ?_
  obtain ⟨F4, eF4⟩ : ∃ z, z = upd F3 ((ntp + 3) + 12) (i8 (xd >>> ((nI 0) &&& 31))) := ⟨_, rfl⟩
  refine j_w [oB h 11 (mO b v), bA g (b 0) 600 F4] (by rw [eF4]) ?_
  refine j_aload_n hX 2 dX11_feed_96 rfl ?_
  refine j_get hX in11 11 0 0 (v := .ref (b 0)) rfl rfl (by decide) (List.mem_of_getElem? (i := 2) rfl) rfl rfl dX11_feed_97 ?_
  refine j_iload hX 0 dX11_feed_100 rfl ?_
  refine j_bipush hX (16) dX11_feed_102 (by decide) ?_
  refine j_iaddN hX (ntp + 3) 16 dX11_feed_104 ?_
  refine j_iload hX 7 dX11_feed_105 rfl ?_
  refine j_iload hX 1 dX11_feed_107 rfl ?_
  refine j_pc 109 rfl ?_
  refine j_ishr hX dX11_feed_109 ?_
  refine j_i2b hX dX11_feed_110 ?_
  refine j_bast8 hX 1 ((ntp + 3) + 16) rfl (by omega) (by omega) [oB h 11 (mO b v), bA g (b 0) 600 (upd F4 ((ntp + 3) + 16) (i8 (xe >>> ((nI 0) &&& 31))))] rfl dX11_feed_111 ?_
  obtain ⟨F5, eF5⟩ : ∃ z, z = upd F4 ((ntp + 3) + 16) (i8 (xe >>> ((nI 0) &&& 31))) := ⟨_, rfl⟩
  refine j_w [oB h 11 (mO b v), bA g (b 0) 600 F5] (by rw [eF5]) ?_
  have hb0 : i8 (xa >>> (nI 0 &&& 31)) = BB 3 := by rw [hBB]; exact (sh4 xa 3 (by decide)).trans rfl
  have hb1 : i8 (xb >>> (nI 0 &&& 31)) = BB (3 + 4) := by rw [hBB]; exact (sh4 xb 3 (by decide)).trans rfl
  have hb2 : i8 (xc >>> (nI 0 &&& 31)) = BB (3 + 8) := by rw [hBB]; exact (sh4 xc 3 (by decide)).trans rfl
  have hb3 : i8 (xd >>> (nI 0 &&& 31)) = BB (3 + 12) := by rw [hBB]; exact (sh4 xd 3 (by decide)).trans rfl
  have hb4 : i8 (xe >>> (nI 0 &&& 31)) = BB (3 + 16) := by rw [hBB]; exact (sh4 xe 3 (by decide)).trans rfl
  rw [hb0] at eF1
  rw [hb1] at eF2
  rw [hb2] at eF3
  rw [hb3] at eF4
  rw [hb4] at eF5
  have hfd4 : F5 = feedF tp ntp BB (3 + 1) := by rw [eF5, eF4, eF3, eF2, eF1]; exact feed_step2 hfd3 (by decide)
  refine j_iinc hX (nI 0 + (-8)) [(6, .int (nI 0 + (-8))), (7, .int (nI (ntp + 3))), (0, .ref h), (1, .int xa), (2, .int xb), (3, .int xc), (4, .int xd), (5, .int xe)] 1 dX11_feed_112 rfl rfl (by decide) rfl ?_
  refine j_lv [(6, .int (-8)), (7, .int (nI (ntp + 3))), (0, .ref h), (1, .int xa), (2, .int xb), (3, .int xc), (4, .int xd), (5, .int xe)] rfl ?_
  refine j_goto hX 20 dX11_feed_115 (by decide) ?_
  refine j_iload hX 0 dX11_feed_20 rfl ?_
  refine j_if_lt hX 118 dX11_feed_22 (by decide) (fun b_22 => ?_) (fun b_22 => absurd b_22 (by decide))
  refine j_aload_n hX 2 dX11_feed_118 rfl ?_
  refine j_pc 119 rfl ?_
  refine j_dup hX dX11_feed_119 rfl ?_
  refine j_gete hX (nI ntp) in11 11 0 1 rfl rfl (by decide) (List.mem_of_getElem? (i := 1) rfl) rfl rfl hv1 dX11_feed_120 ?_
  refine j_bipush hX (20) dX11_feed_123 (by decide) ?_
  refine j_iaddN hX ntp 20 dX11_feed_125 ?_
  refine j_put hX (v := .int (nI (ntp + 20))) (ty := .int) in11 tyX11 tyX11_ok nmX11 11 0 1 rfl rfl (by decide) (List.mem_of_getElem? (i := 1) rfl) rfl rfl rfl rfl rfl (Nat.le_of_ble_eq_true rfl) [oB h 11 (mO b (upd v 1 (nI (ntp + 20)))), bA g (b 0) 600 F5] rfl dX11_feed_126 ?_
  refine j_aload_n hX 2 dX11_feed_129 rfl ?_
  refine j_get hX in11 11 0 1 (v := .int (nI (ntp + 20))) rfl rfl (by decide) (List.mem_of_getElem? (i := 1) rfl) rfl rfl dX11_feed_130 ?_
  exact hret F5 (by rw [hfd4, hBB]; exact feed_4 _ _ _ (by simp only [List.length_append, Zl_length])) 133 _ .ireturn dX11_feed_133 rfl

set_option maxHeartbeats 4000000 in
set_option maxRecDepth 100000 in
/-- the reference: trim -/
theorem c_mtrimT (l : Launch) (g : jG) (h : Nat) (b : Nat → Nat) (v : Nat → Int32) (ntp : Nat) (k : Nat) (hv1 : v 1 = nI ntp) (hn : ntp ≤ 600) (hk : k ≤ ntp) : jC l g yX11_trim wsX11_trim ({ frames := 1, cells := 0, slots := 0, locals := 22 } : Room) [.ref h, .int (nI k)] [oB h 11 (mO b v)] (fun jj : Unit => some (.int (nI k))) (fun jj : Unit => True) (fun jj : Unit => [oB h 11 (mO b (upd v 1 (nI k)))]) := by
  refine jC.of (cc := cX11_trim) (own := RX11) (maxL := 2) (ret := (some .int)) (by decide +kernel) rfl rfl (Nat.le_of_ble_eq_true rfl) (fun u hu => ⟨_, rfl, rfl⟩) ?_
  intro p e s m below meth c A Q hX hret
  have in11 : ∀ w ∈ wsX110, w ∈ wsX11_trim := (fun w h => List.mem_cons_of_mem _ (List.mem_append_right _ h))
  refine j_iload_n hX 1 dX11_trim_0 rfl ?_
  refine j_iconst hX (0) dX11_trim_1 (by decide) ?_
  refine j_aload_n hX 0 dX11_trim_2 rfl ?_
  refine j_gete hX (nI ntp) in11 11 0 1 rfl rfl (by decide) (List.mem_of_getElem? (i := 1) rfl) rfl rfl hv1 dX11_trim_3 ?_
  refine j_callS2 hX 3 (c_in l g (nI k) 0 (nI ntp) ) gX11_trim_X11_in (by decide +kernel) rfl ⟨rfl, rfl⟩ ⟨Nat.le_of_ble_eq_true rfl, Nat.le_of_ble_eq_true rfl⟩ [] [0] 1 rfl (by decide) (fun jj : Unit => [oB h 11 (mO b v)]) (fun _ => rfl) (by decide) [h] rfl (fun _ => rfl) (fun _ => rfl) [oB h 11 (mO b v)] rfl (fun _ => rfl) rfl [] rfl (Nat.le_of_ble_eq_true rfl) ⟨Nat.le_refl _, Nat.le_refl _⟩ dX11_trim_6 ?_
  intro _ hu_1
  refine j_w [oB h 11 (mO b v)] rfl ?_
  refine j_st [.int (if wiB (nI k) 0 (nI ntp) then 1 else 0)] rfl ?_
  refine j_topeq _ (nI 1) (wiN 0 ntp (by omega) (by omega) (by omega)) ?_
  refine j_if_neN hX 1 15 dX11_trim_9 (by decide) (by omega) (fun b_9 => ?_) (fun b_9 => absurd b_9 (by omega))
  refine j_aload_n hX 0 dX11_trim_15 rfl ?_
  refine j_pc 16 rfl ?_
  refine j_iload_n hX 1 dX11_trim_16 rfl ?_
  refine j_put hX (v := .int (nI k)) (ty := .int) in11 tyX11 tyX11_ok nmX11 11 0 1 rfl rfl (by decide) (List.mem_of_getElem? (i := 1) rfl) rfl rfl rfl rfl rfl (Nat.le_of_ble_eq_true rfl) [oB h 11 (mO b (upd v 1 (nI k)))] rfl dX11_trim_17 ?_
  refine j_iload_n hX 1 dX11_trim_20 rfl ?_
  exact hret () trivial 21 _ .ireturn dX11_trim_21 rfl

set_option maxHeartbeats 4000000 in
set_option maxRecDepth 100000 in
/-- the reference: trim, outside -/
theorem c_mtrimF (l : Launch) (g : jG) (h : Nat) (b : Nat → Nat) (v : Nat → Int32) (ntp : Nat) (xk : Int32) (hv1 : v 1 = nI ntp) (hF : xk < 0 ∨ nI ntp < xk) : jC l g yX11_trim wsX11_trim ({ frames := 1, cells := 0, slots := 0, locals := 22 } : Room) [.ref h, .int xk] [oB h 11 (mO b v)] (fun jj : Unit => some (.int (-2))) (fun jj : Unit => True) (fun jj : Unit => [oB h 11 (mO b v)]) := by
  refine jC.of (cc := cX11_trim) (own := RX11) (maxL := 2) (ret := (some .int)) (by decide +kernel) rfl rfl (Nat.le_of_ble_eq_true rfl) (fun u hu => ⟨_, rfl, rfl⟩) ?_
  intro p e s m below meth c A Q hX hret
  have in11 : ∀ w ∈ wsX110, w ∈ wsX11_trim := (fun w h => List.mem_cons_of_mem _ (List.mem_append_right _ h))
  refine j_iload_n hX 1 dX11_trim_0 rfl ?_
  refine j_iconst hX (0) dX11_trim_1 (by decide) ?_
  refine j_aload_n hX 0 dX11_trim_2 rfl ?_
  refine j_gete hX (nI ntp) in11 11 0 1 rfl rfl (by decide) (List.mem_of_getElem? (i := 1) rfl) rfl rfl hv1 dX11_trim_3 ?_
  refine j_callS2 hX 3 (c_in l g xk 0 (nI ntp) ) gX11_trim_X11_in (by decide +kernel) rfl ⟨rfl, rfl⟩ ⟨Nat.le_of_ble_eq_true rfl, Nat.le_of_ble_eq_true rfl⟩ [] [0] 1 rfl (by decide) (fun jj : Unit => [oB h 11 (mO b v)]) (fun _ => rfl) (by decide) [h] rfl (fun _ => rfl) (fun _ => rfl) [oB h 11 (mO b v)] rfl (fun _ => rfl) rfl [] rfl (Nat.le_of_ble_eq_true rfl) ⟨Nat.le_refl _, Nat.le_refl _⟩ dX11_trim_6 ?_
  intro _ hu_1
  refine j_w [oB h 11 (mO b v)] rfl ?_
  refine j_st [.int (if wiB xk 0 (nI ntp) then 1 else 0)] rfl ?_
  refine j_if_ne hX 15 dX11_trim_9 (by decide) (fun b_9 => absurd b_9 (by first | exact (fun hh => by rcases hF with h | h; exact absurd h (Int32.not_lt.mpr (wi_and (wi_of hh)).1); exact absurd h (Int32.not_lt.mpr (wi_and (wi_of hh)).2)))) (fun b_9 => ?_)
  refine j_bipush hX (-2) dX11_trim_12 (by decide) ?_
  refine j_pc 14 rfl ?_
  exact hret () trivial 14 _ .ireturn dX11_trim_14 rfl

set_option maxHeartbeats 4000000 in
set_option maxRecDepth 100000 in
/-- the reference: hash -/
theorem c_mhashT (l : Launch) (g : jG) (h : Nat) (b : Nat → Nat) (v : Nat → Int32) (n0 : Nat) (f : Nat → Int32) (dg : Nat → Int32) (w0 : Nat → Int32) (S0 : Nat → Int32) (fs : Nat → Int32) (rt : Nat → Int32) (A0 : Nat → Int64) (T0 : Nat → Int64) (U0 : Nat → Int64) (tn : Nat → Int32) (tp : Nat → Int32) (ntp : Nat) (sw : Nat → Int32) (fm : Nat) (hfs : ∀ j, j < 8 → fs j = s_first.getD j 0) (hrt : ∀ j, j < 64 → rt j = s_cube.getD j 0) (htn : ∀ k, k < 25 → tn k = s_turns.getD k 0) (hv3 : v 3 = nI n0) (hn0 : n0 ≤ 1400) (hv1 : v 1 = nI ntp) (hntp : ntp ≤ 600) (hTpB : isB tp) (hfm : fm < 2) : jC l g yX11_hash wsX11_hash ({ frames := 4, cells := 0, slots := 0, locals := 97 } : Room) [.ref h, .int (nI fm)] [oB h 11 (mO b v), bA g (b 2) 1400 f, bA g (b 4) 32 dg, iA g (b 5) 64 w0, iA g (b 6) 8 S0, iA g (b 7) 8 fs, iA g (b 8) 64 rt, lA g (b 9) 25 A0, lA g (b 10) 25 T0, lA g (b 11) 5 U0, iA g (b 12) 25 tn, bA g (b 0) 600 tp, bA g (b 13) 32 sw] (fun jj : (Nat → Int32) × (Nat → Int32) × (Nat → Int64) × (Nat → Int64) × (Nat → Int64) × Nat × (Nat → Int32) × (Nat → Int32) × (Nat → Int32) => some (.int (nI 32))) (fun jj : (Nat → Int32) × (Nat → Int32) × (Nat → Int64) × (Nat → Int64) × (Nat → Int64) × Nat × (Nat → Int32) × (Nat → Int32) × (Nat → Int32) => jj.2.2.2.2.2.1 ≤ 1400 ∧ jj.2.2.2.2.2.2.2.2 = putL sw 0 (HH fm (slice tp 0 ntp))) (fun jj : (Nat → Int32) × (Nat → Int32) × (Nat → Int64) × (Nat → Int64) × (Nat → Int64) × Nat × (Nat → Int32) × (Nat → Int32) × (Nat → Int32) => [oB h 11 (mO b (upd (upd v 3 (nI jj.2.2.2.2.2.1)) 14 (nI 1))), bA g (b 2) 1400 jj.2.2.2.2.2.2.1, bA g (b 4) 32 jj.2.2.2.2.2.2.2.1, iA g (b 5) 64 jj.1, iA g (b 6) 8 jj.2.1, iA g (b 7) 8 fs, iA g (b 8) 64 rt, lA g (b 9) 25 jj.2.2.1, lA g (b 10) 25 jj.2.2.2.1, lA g (b 11) 5 jj.2.2.2.2.1, iA g (b 12) 25 tn, bA g (b 0) 600 tp, bA g (b 13) 32 jj.2.2.2.2.2.2.2.2]) := by
  refine jC.of (cc := cX11_hash) (own := RX11) (maxL := 3) (ret := (some .int)) (by decide +kernel) rfl rfl (Nat.le_of_ble_eq_true rfl) (fun u hu => ⟨_, rfl, rfl⟩) ?_
  intro p e s m below meth c A Q hX hret
  have in11 : ∀ w ∈ wsX110, w ∈ wsX11_hash := (fun w h => List.mem_cons_of_mem _ (List.mem_append_right _ h))
  refine j_w [oB h 11 (mO b (upd v 3 (nI n0))), bA g (b 2) 1400 f, bA g (b 4) 32 dg, iA g (b 5) 64 w0, iA g (b 6) 8 S0, iA g (b 7) 8 fs, iA g (b 8) 64 rt, lA g (b 9) 25 A0, lA g (b 10) 25 T0, lA g (b 11) 5 U0, iA g (b 12) 25 tn, bA g (b 0) 600 tp, bA g (b 13) 32 sw] (by rw [updS (hv3 : (v : Nat → Int32) 3 = nI n0)]) ?_
  refine j_iload_n hX 1 dX11_hash_0 rfl ?_
  refine j_iconst hX (0) dX11_hash_1 (by decide) ?_
  refine j_iconst hX (1) dX11_hash_2 (by decide) ?_
  refine j_callS2 hX 3 (c_in l g (nI fm) 0 1 ) gX11_hash_X11_in (by decide +kernel) rfl ⟨rfl, rfl⟩ ⟨Nat.le_of_ble_eq_true rfl, Nat.le_of_ble_eq_true rfl⟩ [] [0, 1, 2, 3, 4, 5, 6, 7, 8, 9, 10, 11, 12] 13 rfl (by decide) (fun jj : Unit => [oB h 11 (mO b (upd v 3 (nI n0))), bA g (b 2) 1400 f, bA g (b 4) 32 dg, iA g (b 5) 64 w0, iA g (b 6) 8 S0, iA g (b 7) 8 fs, iA g (b 8) 64 rt, lA g (b 9) 25 A0, lA g (b 10) 25 T0, lA g (b 11) 5 U0, iA g (b 12) 25 tn, bA g (b 0) 600 tp, bA g (b 13) 32 sw]) (fun _ => rfl) (by decide) [h, (b 2), (b 4), (b 5), (b 6), (b 7), (b 8), (b 9), (b 10), (b 11), (b 12), (b 0), (b 13)] rfl (fun _ => rfl) (fun _ => rfl) [oB h 11 (mO b (upd v 3 (nI n0))), bA g (b 2) 1400 f, bA g (b 4) 32 dg, iA g (b 5) 64 w0, iA g (b 6) 8 S0, iA g (b 7) 8 fs, iA g (b 8) 64 rt, lA g (b 9) 25 A0, lA g (b 10) 25 T0, lA g (b 11) 5 U0, iA g (b 12) 25 tn, bA g (b 0) 600 tp, bA g (b 13) 32 sw] rfl (fun _ => rfl) rfl [] rfl (Nat.le_of_ble_eq_true rfl) ⟨Nat.le_refl _, Nat.le_refl _⟩ dX11_hash_3 ?_
  intro _ hu_1
  refine j_w [oB h 11 (mO b (upd v 3 (nI n0))), bA g (b 2) 1400 f, bA g (b 4) 32 dg, iA g (b 5) 64 w0, iA g (b 6) 8 S0, iA g (b 7) 8 fs, iA g (b 8) 64 rt, lA g (b 9) 25 A0, lA g (b 10) 25 T0, lA g (b 11) 5 U0, iA g (b 12) 25 tn, bA g (b 0) 600 tp, bA g (b 13) 32 sw] rfl ?_
  refine j_st [.int (if wiB (nI fm) 0 1 then 1 else 0)] rfl ?_
  refine j_topeq _ (nI 1) (wiN 0 1 (by omega) (by omega) (by omega)) ?_
  refine j_if_neN hX 1 12 dX11_hash_6 (by decide) (by omega) (fun b_6 => ?_) (fun b_6 => absurd b_6 (by omega))
  refine j_aload_n hX 0 dX11_hash_12 rfl ?_
  refine j_iconst hX (0) dX11_hash_13 (by decide) ?_
  refine j_pc 14 rfl ?_
  refine j_st [.int (nI 0), .ref h] rfl ?_
  refine j_put hX (v := .int (nI 0)) (ty := .int) in11 tyX11 tyX11_ok nmX11 11 0 3 rfl rfl (by decide) (List.mem_of_getElem? (i := 1) rfl) rfl rfl rfl rfl rfl (Nat.le_of_ble_eq_true rfl) [oB h 11 (mO b (upd v 3 (nI 0))), bA g (b 2) 1400 f, bA g (b 4) 32 dg, iA g (b 5) 64 w0, iA g (b 6) 8 S0, iA g (b 7) 8 fs, iA g (b 8) 64 rt, lA g (b 9) 25 A0, lA g (b 10) 25 T0, lA g (b 11) 5 U0, iA g (b 12) 25 tn, bA g (b 0) 600 tp, bA g (b 13) 32 sw] rfl dX11_hash_14 ?_
  refine j_aload_n hX 0 dX11_hash_17 rfl ?_
  refine j_callV2 hX 0 (c_layTape l g h b (upd v 3 (nI 0)) 0 f tp ntp rfl hv1 (by omega) (by omega) hTpB) gX11_hash_X11_layTape (by decide +kernel) rfl ⟨rfl, rfl⟩ ⟨Nat.le_of_ble_eq_true rfl, Nat.le_of_ble_eq_true rfl⟩ 11 0 rfl rfl [0, 1, 11] [2, 3, 4, 5, 6, 7, 8, 9, 10, 12] 13 rfl (by decide) (fun jj : (Nat → Int32) => [oB h 11 (mO b (upd v 3 (nI (0 + ntp)))), bA g (b 2) 1400 jj, bA g (b 4) 32 dg, iA g (b 5) 64 w0, iA g (b 6) 8 S0, iA g (b 7) 8 fs, iA g (b 8) 64 rt, lA g (b 9) 25 A0, lA g (b 10) 25 T0, lA g (b 11) 5 U0, iA g (b 12) 25 tn, bA g (b 0) 600 tp, bA g (b 13) 32 sw]) (fun _ => rfl) (by decide) [h, (b 2), (b 4), (b 5), (b 6), (b 7), (b 8), (b 9), (b 10), (b 11), (b 12), (b 0), (b 13)] rfl (fun _ => rfl) (fun _ => rfl) [bA g (b 4) 32 dg, iA g (b 5) 64 w0, iA g (b 6) 8 S0, iA g (b 7) 8 fs, iA g (b 8) 64 rt, lA g (b 9) 25 A0, lA g (b 10) 25 T0, lA g (b 11) 5 U0, iA g (b 12) 25 tn, bA g (b 13) 32 sw] rfl (fun _ => rfl) rfl [] rfl (Nat.le_of_ble_eq_true rfl) ⟨Nat.le_refl _, Nat.le_refl _⟩ dX11_hash_18 ?_
  intro F1 hF1
  try dsimp only at hF1
  refine j_w [oB h 11 (mO b (upd v 3 (nI (0 + ntp)))), bA g (b 2) 1400 F1, bA g (b 4) 32 dg, iA g (b 5) 64 w0, iA g (b 6) 8 S0, iA g (b 7) 8 fs, iA g (b 8) 64 rt, lA g (b 9) 25 A0, lA g (b 10) 25 T0, lA g (b 11) 5 U0, iA g (b 12) 25 tn, bA g (b 0) 600 tp, bA g (b 13) 32 sw] rfl ?_
  refine j_st [] rfl ?_
  refine j_aload_n hX 0 dX11_hash_21 rfl ?_
  refine j_iload_n hX 1 dX11_hash_22 rfl ?_
  refine j_callV2 hX 1 (c_hashLaid l g h b (upd v 3 (nI (0 + ntp))) (0 + ntp) F1 dg w0 S0 fs rt A0 T0 U0 tn fm rfl (by omega) hfs hrt htn (by omega)) gX11_hash_X11_hashLaid (by decide +kernel) rfl ⟨rfl, rfl⟩ ⟨Nat.le_of_ble_eq_true rfl, Nat.le_of_ble_eq_true rfl⟩ 11 0 rfl rfl [0, 1, 2, 3, 4, 5, 6, 7, 8, 9, 10] [11, 12] 13 rfl (by decide) (fun jj : (Nat → Int32) × (Nat → Int32) × (Nat → Int64) × (Nat → Int64) × (Nat → Int64) × Nat × (Nat → Int32) × (Nat → Int32) => [oB h 11 (mO b (upd v 3 (nI jj.2.2.2.2.2.1))), bA g (b 2) 1400 jj.2.2.2.2.2.2.1, bA g (b 4) 32 jj.2.2.2.2.2.2.2, iA g (b 5) 64 jj.1, iA g (b 6) 8 jj.2.1, iA g (b 7) 8 fs, iA g (b 8) 64 rt, lA g (b 9) 25 jj.2.2.1, lA g (b 10) 25 jj.2.2.2.1, lA g (b 11) 5 jj.2.2.2.2.1, iA g (b 12) 25 tn, bA g (b 0) 600 tp, bA g (b 13) 32 sw]) (fun _ => rfl) (by decide) [h, (b 2), (b 4), (b 5), (b 6), (b 7), (b 8), (b 9), (b 10), (b 11), (b 12), (b 0), (b 13)] rfl (fun _ => rfl) (fun _ => rfl) [bA g (b 0) 600 tp, bA g (b 13) 32 sw] rfl (fun _ => rfl) rfl [] rfl (Nat.le_of_ble_eq_true rfl) ⟨Nat.le_refl _, Nat.le_refl _⟩ dX11_hash_23 ?_
  rintro ⟨w5, S5, A5, T5, U5, nl5, G5, FO5⟩ hW
  try dsimp only at hW
  refine j_w [oB h 11 (mO b (upd v 3 (nI nl5))), bA g (b 2) 1400 G5, bA g (b 4) 32 FO5, iA g (b 5) 64 w5, iA g (b 6) 8 S5, iA g (b 7) 8 fs, iA g (b 8) 64 rt, lA g (b 9) 25 A5, lA g (b 10) 25 T5, lA g (b 11) 5 U5, iA g (b 12) 25 tn, bA g (b 0) 600 tp, bA g (b 13) 32 sw] rfl ?_
  refine j_st [] rfl ?_
  rw [hF1, slice_put (by rw [slice_length, Nat.zero_add])] at hW
  refine j_iconst hX (0) dX11_hash_26 (by decide) ?_
  refine j_st [.int (nI 0)] rfl ?_
  refine j_istore_n hX 2 [(2, .int (nI 0)), (0, .ref h), (1, .int (nI fm))] dX11_hash_27 rfl (by decide) rfl ?_
  have lp_2 : ∀ (n_3 : Nat) (i : Nat) (S9 : Nat → Int32), (32 - i < n_3) → (i ≤ 32) → (S9 = putL sw 0 ((HH fm (slice tp 0 ntp)).take i)) → J p l e ({ frames := 4, cells := 0, slots := 0, locals := 97 } : Room) s m ([.ref h, .int (nI fm)] : List Value).toArray below meth c g A 3 Q 0 0 [oB h 11 (mO b (upd v 3 (nI nl5))), bA g (b 2) 1400 G5, bA g (b 4) 32 FO5, iA g (b 5) 64 w5, iA g (b 6) 8 S5, iA g (b 7) 8 fs, iA g (b 8) 64 rt, lA g (b 9) 25 A5, lA g (b 10) 25 T5, lA g (b 11) 5 U5, iA g (b 12) 25 tn, bA g (b 0) 600 tp, bA g (b 13) 32 S9] [(0, .ref h), (1, .int (nI fm)), (2, .int (nI i))] 28 [] := by
    intro n_3
    induction n_3 with
    | zero => intro i S9 hm; exact absurd hm (Nat.not_lt_zero _)
    | succ n_3 ih_4 =>
      intro i S9 hm hi hO
      refine j_pc 28 rfl ?_
      refine j_iload_n hX 2 dX11_hash_28 rfl ?_
      refine j_bipush hX (32) dX11_hash_29 (by decide) ?_
      refine j_icmp_geN hX i 32 52 dX11_hash_31 (by decide) (by omega) (by omega) (fun b_31 => ?_) (fun b_31 => ?_)
      · skip
        refine j_aload_n hX 0 dX11_hash_52 rfl ?_
        refine j_iconst hX (1) dX11_hash_53 (by decide) ?_
        refine j_st [.int (nI 1), .ref h] rfl ?_
        refine j_put hX (v := .int (nI 1)) (ty := .boolean) in11 tyX11 tyX11_ok nmX11 11 0 14 rfl rfl (by decide) (List.mem_of_getElem? (i := 4) rfl) rfl rfl rfl rfl rfl (Nat.le_of_ble_eq_true rfl) [oB h 11 (mO b (upd (upd v 3 (nI nl5)) 14 (nI 1))), bA g (b 2) 1400 G5, bA g (b 4) 32 FO5, iA g (b 5) 64 w5, iA g (b 6) 8 S5, iA g (b 7) 8 fs, iA g (b 8) 64 rt, lA g (b 9) 25 A5, lA g (b 10) 25 T5, lA g (b 11) 5 U5, iA g (b 12) 25 tn, bA g (b 0) 600 tp, bA g (b 13) 32 S9] rfl dX11_hash_54 ?_
        refine j_bipush hX (32) dX11_hash_57 (by decide) ?_
        exact hret (w5, S5, A5, T5, U5, nl5, G5, FO5, S9) (by dsimp only; exact ⟨hW.1, by rw [hO, show i = 32 by omega, List.take_of_length_le (by rw [HH_length]; omega)]⟩) 59 _ .ireturn dX11_hash_59 rfl
      · skip
        refine j_pc 34 rfl ?_
        refine j_aload_n hX 0 dX11_hash_34 rfl ?_
        refine j_get hX in11 11 0 13 (v := .ref (b 13)) rfl rfl (by decide) (List.mem_of_getElem? (i := 2) rfl) rfl rfl dX11_hash_35 ?_
        refine j_iload_n hX 2 dX11_hash_38 rfl ?_
        refine j_aload_n hX 0 dX11_hash_39 rfl ?_
        refine j_get hX in11 11 0 4 (v := .ref (b 4)) rfl rfl (by decide) (List.mem_of_getElem? (i := 3) rfl) rfl rfl dX11_hash_40 ?_
        refine j_iload_n hX 2 dX11_hash_43 rfl ?_
        refine j_baldN hX 2 i rfl (by omega) (by omega) dX11_hash_44 ?_
        refine j_bastN hX 12 i rfl (by omega) (by omega) [oB h 11 (mO b (upd v 3 (nI nl5))), bA g (b 2) 1400 G5, bA g (b 4) 32 FO5, iA g (b 5) 64 w5, iA g (b 6) 8 S5, iA g (b 7) 8 fs, iA g (b 8) 64 rt, lA g (b 9) 25 A5, lA g (b 10) 25 T5, lA g (b 11) 5 U5, iA g (b 12) 25 tn, bA g (b 0) 600 tp, bA g (b 13) 32 (upd S9 i (i8 (FO5 i)))] rfl dX11_hash_45 ?_
        refine j_pc 46 rfl ?_
        refine j_iincN hX i (i + 1) [(2, .int (nI (i + 1))), (0, .ref h), (1, .int (nI fm))] 2 dX11_hash_46 rfl (nI_1 _) (by decide) rfl ?_
        refine j_goto hX 28 dX11_hash_49 (by decide) ?_
        refine j_perm [(0, .ref h), (1, .int (nI fm)), (2, .int (nI (i + 1)))] [1, 2, 0] rfl ?_
        exact ih_4 (i + 1) (upd S9 i (i8 (FO5 i))) (by omega) (by omega) (take_put hO (by rw [HH_length]; omega) (by rw [put_read hW.2 (by rw [HH_length]; omega), getD_B (HH_B _ _)]))
  refine j_perm [(0, .ref h), (1, .int (nI fm)), (2, .int (nI 0))] [1, 2, 0] rfl ?_
  exact lp_2 _ 0 sw (Nat.lt_succ_self _) (by omega) (by rw [List.take_zero, putL_nil])

set_option maxHeartbeats 4000000 in
set_option maxRecDepth 100000 in
/-- the reference: hash, outside -/
theorem c_mhashF (l : Launch) (g : jG) (h : Nat) (b : Nat → Nat) (v : Nat → Int32) (xf : Int32) (h0 : ¬ xf = 0) (h1 : ¬ xf = 1) : jC l g yX11_hash wsX11_hash ({ frames := 4, cells := 0, slots := 0, locals := 97 } : Room) [.ref h, .int xf] [oB h 11 (mO b v)] (fun jj : Unit => some (.int (-2))) (fun jj : Unit => True) (fun jj : Unit => [oB h 11 (mO b v)]) := by
  refine jC.of (cc := cX11_hash) (own := RX11) (maxL := 3) (ret := (some .int)) (by decide +kernel) rfl rfl (Nat.le_of_ble_eq_true rfl) (fun u hu => ⟨_, rfl, rfl⟩) ?_
  intro p e s m below meth c A Q hX hret
  refine j_iload_n hX 1 dX11_hash_0 rfl ?_
  refine j_iconst hX (0) dX11_hash_1 (by decide) ?_
  refine j_iconst hX (1) dX11_hash_2 (by decide) ?_
  refine j_callS2 hX 3 (c_in l g xf 0 1 ) gX11_hash_X11_in (by decide +kernel) rfl ⟨rfl, rfl⟩ ⟨Nat.le_of_ble_eq_true rfl, Nat.le_of_ble_eq_true rfl⟩ [] [0] 1 rfl (by decide) (fun jj : Unit => [oB h 11 (mO b v)]) (fun _ => rfl) (by decide) [h] rfl (fun _ => rfl) (fun _ => rfl) [oB h 11 (mO b v)] rfl (fun _ => rfl) rfl [] rfl (Nat.le_of_ble_eq_true rfl) ⟨Nat.le_refl _, Nat.le_refl _⟩ dX11_hash_3 ?_
  intro _ hu_1
  refine j_w [oB h 11 (mO b v)] rfl ?_
  refine j_st [.int (if wiB xf 0 1 then 1 else 0)] rfl ?_
  refine j_if_ne hX 12 dX11_hash_6 (by decide) (fun b_6 => absurd b_6 (fun hh => by obtain ⟨q9, e9, -, c9⟩ := wi_nat 0 1 ⟨by decide, by decide⟩ (wi_of hh); rcases (show q9 = 0 ∨ q9 = 1 by omega) with rfl | rfl; exact h0 e9; exact h1 e9)) (fun b_6 => ?_)
  refine j_bipush hX (-2) dX11_hash_9 (by decide) ?_
  exact hret () trivial 11 _ .ireturn dX11_hash_11 rfl

set_option maxHeartbeats 4000000 in
set_option maxRecDepth 100000 in
/-- the reference: hashByte -/
theorem c_mhashByteT (l : Launch) (g : jG) (h : Nat) (b : Nat → Nat) (v : Nat → Int32) (sw : Nat → Int32) (xi : Int32) (hv14 : v 14 = nI 1) : jC l g yX11_hashByte wsX11_hashByte ({ frames := 1, cells := 0, slots := 0, locals := 22 } : Room) [.ref h, .int xi] [oB h 11 (mO b v), bA g (b 13) 32 sw] (fun jj : Unit => some (.int (rAt sw 32 xi))) (fun jj : Unit => True) (fun jj : Unit => [oB h 11 (mO b v), bA g (b 13) 32 sw]) := by
  refine jC.of (cc := cX11_hashByte) (own := RX11) (maxL := 2) (ret := (some .int)) (by decide +kernel) rfl rfl (Nat.le_of_ble_eq_true rfl) (fun u hu => ⟨_, rfl, rfl⟩) ?_
  intro p e s m below meth c A Q hX hret
  have in11 : ∀ w ∈ wsX110, w ∈ wsX11_hashByte := (fun w h => List.mem_cons_of_mem _ (List.mem_append_right _ h))
  refine j_aload_n hX 0 dX11_hashByte_0 rfl ?_
  refine j_gete hX (nI 1) in11 11 0 14 rfl rfl (by decide) (List.mem_of_getElem? (i := 1) rfl) rfl rfl hv14 dX11_hashByte_1 ?_
  refine j_if_eqN hX 1 30 dX11_hashByte_4 (by decide) (by omega) (fun b_4 => absurd b_4 (by omega)) (fun b_4 => ?_)
  refine j_iload_n hX 1 dX11_hashByte_7 rfl ?_
  refine j_iconst hX (0) dX11_hashByte_8 (by decide) ?_
  refine j_bipush hX (31) dX11_hashByte_9 (by decide) ?_
  refine j_callS2 hX 3 (c_in l g xi 0 31 ) gX11_hashByte_X11_in (by decide +kernel) rfl ⟨rfl, rfl⟩ ⟨Nat.le_of_ble_eq_true rfl, Nat.le_of_ble_eq_true rfl⟩ [] [0, 1] 2 rfl (by decide) (fun jj : Unit => [oB h 11 (mO b v), bA g (b 13) 32 sw]) (fun _ => rfl) (by decide) [h, (b 13)] rfl (fun _ => rfl) (fun _ => rfl) [oB h 11 (mO b v), bA g (b 13) 32 sw] rfl (fun _ => rfl) rfl [] rfl (Nat.le_of_ble_eq_true rfl) ⟨Nat.le_refl _, Nat.le_refl _⟩ dX11_hashByte_11 ?_
  intro _ hu_1
  refine j_w [oB h 11 (mO b v), bA g (b 13) 32 sw] rfl ?_
  refine j_st [.int (if wiB xi 0 31 then 1 else 0)] rfl ?_
  refine j_topeq _ (if wiB xi 0 (nI (32 - 1)) then 1 else 0) (by rw [show nI (32 - 1) = (31 : Int32) by decide]) ?_
  refine j_pc 14 rfl ?_
  refine j_if_eq hX 30 dX11_hashByte_14 (by decide) (fun b_14 => ?_) (fun b_14 => ?_)
  · skip
    refine j_bipush hX (-9) dX11_hashByte_30 (by decide) ?_
    refine j_topeq _ (rAt sw 32 xi) (rAt_F (by omega) (by omega) b_14).symm ?_
    exact hret () trivial 32 _ .ireturn dX11_hashByte_32 rfl
  · skip
    obtain ⟨j9, e9, hj9⟩ := rAt_T (f := sw) (n := 32) (by omega) (by omega) b_14
    subst e9
    refine j_aload_n hX 0 dX11_hashByte_17 rfl ?_
    refine j_get hX in11 11 0 13 (v := .ref (b 13)) rfl rfl (by decide) (List.mem_of_getElem? (i := 2) rfl) rfl rfl dX11_hashByte_18 ?_
    refine j_iload_n hX 1 dX11_hashByte_21 rfl ?_
    refine j_baldN hX 1 j9 rfl (by omega) (by omega) dX11_hashByte_22 ?_
    refine j_sipush hX (255) dX11_hashByte_23 (by decide) ?_
    refine j_pc 26 rfl ?_
    refine j_iand hX dX11_hashByte_26 ?_
    refine j_goto hX 32 dX11_hashByte_27 (by decide) ?_
    refine j_topeq _ (rAt sw 32 (nI j9)) (rAt_in hj9 (by omega)).symm ?_
    exact hret () trivial 32 _ .ireturn dX11_hashByte_32 rfl

set_option maxHeartbeats 4000000 in
set_option maxRecDepth 100000 in
/-- the reference: hashByte -/
theorem c_mhashByteF (l : Launch) (g : jG) (h : Nat) (b : Nat → Nat) (v : Nat → Int32) (xi : Int32) (hv14 : v 14 = nI 0) : jC l g yX11_hashByte wsX11_hashByte ({ frames := 1, cells := 0, slots := 0, locals := 22 } : Room) [.ref h, .int xi] [oB h 11 (mO b v)] (fun jj : Unit => some (.int (-9))) (fun jj : Unit => True) (fun jj : Unit => [oB h 11 (mO b v)]) := by
  refine jC.of (cc := cX11_hashByte) (own := RX11) (maxL := 2) (ret := (some .int)) (by decide +kernel) rfl rfl (Nat.le_of_ble_eq_true rfl) (fun u hu => ⟨_, rfl, rfl⟩) ?_
  intro p e s m below meth c A Q hX hret
  have in11 : ∀ w ∈ wsX110, w ∈ wsX11_hashByte := (fun w h => List.mem_cons_of_mem _ (List.mem_append_right _ h))
  refine j_aload_n hX 0 dX11_hashByte_0 rfl ?_
  refine j_gete hX (nI 0) in11 11 0 14 rfl rfl (by decide) (List.mem_of_getElem? (i := 1) rfl) rfl rfl hv14 dX11_hashByte_1 ?_
  refine j_if_eqN hX 0 30 dX11_hashByte_4 (by decide) (by omega) (fun b_4 => ?_) (fun b_4 => absurd b_4 (by omega))
  refine j_bipush hX (-9) dX11_hashByte_30 (by decide) ?_
  exact hret () trivial 32 _ .ireturn dX11_hashByte_32 rfl

set_option maxHeartbeats 4000000 in
set_option maxRecDepth 100000 in
/-- the reference: root -/
theorem c_mrootT (l : Launch) (g : jG) (h : Nat) (b : Nat → Nat) (v : Nat → Int32) (ro : Nat → Int32) (nn : Nat) (xi : Int32) (hv24 : v 24 = nI 1) (hv16 : v 16 = nI nn) (hnn4 : nn = 4 ∨ nn = 8 ∨ nn = 12 ∨ nn = 16) : jC l g yX11_root wsX11_root ({ frames := 1, cells := 0, slots := 0, locals := 22 } : Room) [.ref h, .int xi] [oB h 11 (mO b v), bA g (b 32) 16 ro] (fun jj : Unit => some (.int (rAt ro nn xi))) (fun jj : Unit => True) (fun jj : Unit => [oB h 11 (mO b v), bA g (b 32) 16 ro]) := by
  refine jC.of (cc := cX11_root) (own := RX11) (maxL := 2) (ret := (some .int)) (by decide +kernel) rfl rfl (Nat.le_of_ble_eq_true rfl) (fun u hu => ⟨_, rfl, rfl⟩) ?_
  intro p e s m below meth c A Q hX hret
  have in11 : ∀ w ∈ wsX110, w ∈ wsX11_root := (fun w h => List.mem_cons_of_mem _ (List.mem_append_right _ h))
  refine j_aload_n hX 0 dX11_root_0 rfl ?_
  refine j_gete hX (nI 1) in11 11 0 24 rfl rfl (by decide) (List.mem_of_getElem? (i := 1) rfl) rfl rfl hv24 dX11_root_1 ?_
  refine j_if_eqN hX 1 34 dX11_root_4 (by decide) (by omega) (fun b_4 => absurd b_4 (by omega)) (fun b_4 => ?_)
  refine j_iload_n hX 1 dX11_root_7 rfl ?_
  refine j_iconst hX (0) dX11_root_8 (by decide) ?_
  refine j_aload_n hX 0 dX11_root_9 rfl ?_
  refine j_gete hX (nI nn) in11 11 0 16 rfl rfl (by decide) (List.mem_of_getElem? (i := 2) rfl) rfl rfl hv16 dX11_root_10 ?_
  refine j_pc 13 rfl ?_
  refine j_iconst hX (1) dX11_root_13 (by decide) ?_
  refine j_isubN hX nn 1 (by omega) dX11_root_14 ?_
  refine j_callS2 hX 3 (c_in l g xi 0 (nI (nn - 1)) ) gX11_root_X11_in (by decide +kernel) rfl ⟨rfl, rfl⟩ ⟨Nat.le_of_ble_eq_true rfl, Nat.le_of_ble_eq_true rfl⟩ [] [0, 1] 2 rfl (by decide) (fun jj : Unit => [oB h 11 (mO b v), bA g (b 32) 16 ro]) (fun _ => rfl) (by decide) [h, (b 32)] rfl (fun _ => rfl) (fun _ => rfl) [oB h 11 (mO b v), bA g (b 32) 16 ro] rfl (fun _ => rfl) rfl [] rfl (Nat.le_of_ble_eq_true rfl) ⟨Nat.le_refl _, Nat.le_refl _⟩ dX11_root_15 ?_
  intro _ hu_1
  refine j_w [oB h 11 (mO b v), bA g (b 32) 16 ro] rfl ?_
  refine j_st [.int (if wiB xi 0 (nI (nn - 1)) then 1 else 0)] rfl ?_
  refine j_if_eq hX 34 dX11_root_18 (by decide) (fun b_18 => ?_) (fun b_18 => ?_)
  · skip
    refine j_bipush hX (-9) dX11_root_34 (by decide) ?_
    refine j_topeq _ (rAt ro nn xi) (rAt_F (by omega) (by omega) b_18).symm ?_
    exact hret () trivial 36 _ .ireturn dX11_root_36 rfl
  · skip
    obtain ⟨j9, e9, hj9⟩ := rAt_T (f := ro) (n := nn) (by omega) (by omega) b_18
    subst e9
    refine j_aload_n hX 0 dX11_root_21 rfl ?_
    refine j_get hX in11 11 0 32 (v := .ref (b 32)) rfl rfl (by decide) (List.mem_of_getElem? (i := 3) rfl) rfl rfl dX11_root_22 ?_
    refine j_pc 25 rfl ?_
    refine j_iload_n hX 1 dX11_root_25 rfl ?_
    refine j_baldN hX 1 j9 rfl (by omega) (by omega) dX11_root_26 ?_
    refine j_sipush hX (255) dX11_root_27 (by decide) ?_
    refine j_iand hX dX11_root_30 ?_
    refine j_goto hX 36 dX11_root_31 (by decide) ?_
    refine j_topeq _ (rAt ro nn (nI j9)) (rAt_in hj9 (by omega)).symm ?_
    exact hret () trivial 36 _ .ireturn dX11_root_36 rfl

set_option maxHeartbeats 4000000 in
set_option maxRecDepth 100000 in
/-- the reference: root -/
theorem c_mrootF (l : Launch) (g : jG) (h : Nat) (b : Nat → Nat) (v : Nat → Int32) (xi : Int32) (hv24 : v 24 = nI 0) : jC l g yX11_root wsX11_root ({ frames := 1, cells := 0, slots := 0, locals := 22 } : Room) [.ref h, .int xi] [oB h 11 (mO b v)] (fun jj : Unit => some (.int (-9))) (fun jj : Unit => True) (fun jj : Unit => [oB h 11 (mO b v)]) := by
  refine jC.of (cc := cX11_root) (own := RX11) (maxL := 2) (ret := (some .int)) (by decide +kernel) rfl rfl (Nat.le_of_ble_eq_true rfl) (fun u hu => ⟨_, rfl, rfl⟩) ?_
  intro p e s m below meth c A Q hX hret
  have in11 : ∀ w ∈ wsX110, w ∈ wsX11_root := (fun w h => List.mem_cons_of_mem _ (List.mem_append_right _ h))
  refine j_aload_n hX 0 dX11_root_0 rfl ?_
  refine j_gete hX (nI 0) in11 11 0 24 rfl rfl (by decide) (List.mem_of_getElem? (i := 1) rfl) rfl rfl hv24 dX11_root_1 ?_
  refine j_if_eqN hX 0 34 dX11_root_4 (by decide) (by omega) (fun b_4 => ?_) (fun b_4 => absurd b_4 (by omega))
  refine j_bipush hX (-9) dX11_root_34 (by decide) ?_
  exact hret () trivial 36 _ .ireturn dX11_root_36 rfl

set_option maxHeartbeats 4000000 in
set_option maxRecDepth 100000 in
/-- the reference: ledTo -/
theorem c_mledToT (l : Launch) (g : jG) (h : Nat) (b : Nat → Nat) (v : Nat → Int32) (le : Nat → Int32) (nn : Nat) (xi : Int32) (hv26 : v 26 = nI 1) (hv16 : v 16 = nI nn) (hnn4 : nn = 4 ∨ nn = 8 ∨ nn = 12 ∨ nn = 16) : jC l g yX11_ledTo wsX11_ledTo ({ frames := 1, cells := 0, slots := 0, locals := 22 } : Room) [.ref h, .int xi] [oB h 11 (mO b v), bA g (b 42) 16 le] (fun jj : Unit => some (.int (rAt le nn xi))) (fun jj : Unit => True) (fun jj : Unit => [oB h 11 (mO b v), bA g (b 42) 16 le]) := by
  refine jC.of (cc := cX11_ledTo) (own := RX11) (maxL := 2) (ret := (some .int)) (by decide +kernel) rfl rfl (Nat.le_of_ble_eq_true rfl) (fun u hu => ⟨_, rfl, rfl⟩) ?_
  intro p e s m below meth c A Q hX hret
  have in11 : ∀ w ∈ wsX110, w ∈ wsX11_ledTo := (fun w h => List.mem_cons_of_mem _ (List.mem_append_right _ h))
  refine j_aload_n hX 0 dX11_ledTo_0 rfl ?_
  refine j_gete hX (nI 1) in11 11 0 26 rfl rfl (by decide) (List.mem_of_getElem? (i := 1) rfl) rfl rfl hv26 dX11_ledTo_1 ?_
  refine j_if_eqN hX 1 34 dX11_ledTo_4 (by decide) (by omega) (fun b_4 => absurd b_4 (by omega)) (fun b_4 => ?_)
  refine j_iload_n hX 1 dX11_ledTo_7 rfl ?_
  refine j_iconst hX (0) dX11_ledTo_8 (by decide) ?_
  refine j_aload_n hX 0 dX11_ledTo_9 rfl ?_
  refine j_gete hX (nI nn) in11 11 0 16 rfl rfl (by decide) (List.mem_of_getElem? (i := 2) rfl) rfl rfl hv16 dX11_ledTo_10 ?_
  refine j_pc 13 rfl ?_
  refine j_iconst hX (1) dX11_ledTo_13 (by decide) ?_
  refine j_isubN hX nn 1 (by omega) dX11_ledTo_14 ?_
  refine j_callS2 hX 3 (c_in l g xi 0 (nI (nn - 1)) ) gX11_ledTo_X11_in (by decide +kernel) rfl ⟨rfl, rfl⟩ ⟨Nat.le_of_ble_eq_true rfl, Nat.le_of_ble_eq_true rfl⟩ [] [0, 1] 2 rfl (by decide) (fun jj : Unit => [oB h 11 (mO b v), bA g (b 42) 16 le]) (fun _ => rfl) (by decide) [h, (b 42)] rfl (fun _ => rfl) (fun _ => rfl) [oB h 11 (mO b v), bA g (b 42) 16 le] rfl (fun _ => rfl) rfl [] rfl (Nat.le_of_ble_eq_true rfl) ⟨Nat.le_refl _, Nat.le_refl _⟩ dX11_ledTo_15 ?_
  intro _ hu_1
  refine j_w [oB h 11 (mO b v), bA g (b 42) 16 le] rfl ?_
  refine j_st [.int (if wiB xi 0 (nI (nn - 1)) then 1 else 0)] rfl ?_
  refine j_if_eq hX 34 dX11_ledTo_18 (by decide) (fun b_18 => ?_) (fun b_18 => ?_)
  · skip
    refine j_bipush hX (-9) dX11_ledTo_34 (by decide) ?_
    refine j_topeq _ (rAt le nn xi) (rAt_F (by omega) (by omega) b_18).symm ?_
    exact hret () trivial 36 _ .ireturn dX11_ledTo_36 rfl
  · skip
    obtain ⟨j9, e9, hj9⟩ := rAt_T (f := le) (n := nn) (by omega) (by omega) b_18
    subst e9
    refine j_aload_n hX 0 dX11_ledTo_21 rfl ?_
    refine j_get hX in11 11 0 42 (v := .ref (b 42)) rfl rfl (by decide) (List.mem_of_getElem? (i := 3) rfl) rfl rfl dX11_ledTo_22 ?_
    refine j_pc 25 rfl ?_
    refine j_iload_n hX 1 dX11_ledTo_25 rfl ?_
    refine j_baldN hX 1 j9 rfl (by omega) (by omega) dX11_ledTo_26 ?_
    refine j_sipush hX (255) dX11_ledTo_27 (by decide) ?_
    refine j_iand hX dX11_ledTo_30 ?_
    refine j_goto hX 36 dX11_ledTo_31 (by decide) ?_
    refine j_topeq _ (rAt le nn (nI j9)) (rAt_in hj9 (by omega)).symm ?_
    exact hret () trivial 36 _ .ireturn dX11_ledTo_36 rfl

set_option maxHeartbeats 4000000 in
set_option maxRecDepth 100000 in
/-- the reference: ledTo -/
theorem c_mledToF (l : Launch) (g : jG) (h : Nat) (b : Nat → Nat) (v : Nat → Int32) (xi : Int32) (hv26 : v 26 = nI 0) : jC l g yX11_ledTo wsX11_ledTo ({ frames := 1, cells := 0, slots := 0, locals := 22 } : Room) [.ref h, .int xi] [oB h 11 (mO b v)] (fun jj : Unit => some (.int (-9))) (fun jj : Unit => True) (fun jj : Unit => [oB h 11 (mO b v)]) := by
  refine jC.of (cc := cX11_ledTo) (own := RX11) (maxL := 2) (ret := (some .int)) (by decide +kernel) rfl rfl (Nat.le_of_ble_eq_true rfl) (fun u hu => ⟨_, rfl, rfl⟩) ?_
  intro p e s m below meth c A Q hX hret
  have in11 : ∀ w ∈ wsX110, w ∈ wsX11_ledTo := (fun w h => List.mem_cons_of_mem _ (List.mem_append_right _ h))
  refine j_aload_n hX 0 dX11_ledTo_0 rfl ?_
  refine j_gete hX (nI 0) in11 11 0 26 rfl rfl (by decide) (List.mem_of_getElem? (i := 1) rfl) rfl rfl hv26 dX11_ledTo_1 ?_
  refine j_if_eqN hX 0 34 dX11_ledTo_4 (by decide) (by omega) (fun b_4 => ?_) (fun b_4 => absurd b_4 (by omega))
  refine j_bipush hX (-9) dX11_ledTo_34 (by decide) ?_
  exact hret () trivial 36 _ .ireturn dX11_ledTo_36 rfl

set_option maxHeartbeats 4000000 in
set_option maxRecDepth 100000 in
/-- the reference: signed -/
theorem c_msignedT (l : Launch) (g : jG) (h : Nat) (b : Nat → Nat) (v : Nat → Int32) (sg : Nat → Int32) (nsg : Nat) (xi : Int32) (hv25 : v 25 = nI nsg) (hnsg : nsg ≤ 1680) (hn1 : 1 ≤ nsg) : jC l g yX11_signed wsX11_signed ({ frames := 1, cells := 0, slots := 0, locals := 22 } : Room) [.ref h, .int xi] [oB h 11 (mO b v), bA g (b 38) 2000 sg] (fun jj : Unit => some (.int (rAt sg nsg xi))) (fun jj : Unit => True) (fun jj : Unit => [oB h 11 (mO b v), bA g (b 38) 2000 sg]) := by
  refine jC.of (cc := cX11_signed) (own := RX11) (maxL := 2) (ret := (some .int)) (by decide +kernel) rfl rfl (Nat.le_of_ble_eq_true rfl) (fun u hu => ⟨_, rfl, rfl⟩) ?_
  intro p e s m below meth c A Q hX hret
  have in11 : ∀ w ∈ wsX110, w ∈ wsX11_signed := (fun w h => List.mem_cons_of_mem _ (List.mem_append_right _ h))
  refine j_iload_n hX 1 dX11_signed_0 rfl ?_
  refine j_iconst hX (0) dX11_signed_1 (by decide) ?_
  refine j_aload_n hX 0 dX11_signed_2 rfl ?_
  refine j_gete hX (nI nsg) in11 11 0 25 rfl rfl (by decide) (List.mem_of_getElem? (i := 1) rfl) rfl rfl hv25 dX11_signed_3 ?_
  refine j_iconst hX (1) dX11_signed_6 (by decide) ?_
  refine j_isubN hX nsg 1 (by omega) dX11_signed_7 ?_
  refine j_callS2 hX 3 (c_in l g xi 0 (nI (nsg - 1)) ) gX11_signed_X11_in (by decide +kernel) rfl ⟨rfl, rfl⟩ ⟨Nat.le_of_ble_eq_true rfl, Nat.le_of_ble_eq_true rfl⟩ [] [0, 1] 2 rfl (by decide) (fun jj : Unit => [oB h 11 (mO b v), bA g (b 38) 2000 sg]) (fun _ => rfl) (by decide) [h, (b 38)] rfl (fun _ => rfl) (fun _ => rfl) [oB h 11 (mO b v), bA g (b 38) 2000 sg] rfl (fun _ => rfl) rfl [] rfl (Nat.le_of_ble_eq_true rfl) ⟨Nat.le_refl _, Nat.le_refl _⟩ dX11_signed_8 ?_
  intro _ hu_1
  refine j_w [oB h 11 (mO b v), bA g (b 38) 2000 sg] rfl ?_
  refine j_st [.int (if wiB xi 0 (nI (nsg - 1)) then 1 else 0)] rfl ?_
  refine j_pc 11 rfl ?_
  refine j_if_eq hX 27 dX11_signed_11 (by decide) (fun b_11 => ?_) (fun b_11 => ?_)
  · skip
    refine j_bipush hX (-9) dX11_signed_27 (by decide) ?_
    refine j_topeq _ (rAt sg nsg xi) (rAt_F (by omega) (by omega) b_11).symm ?_
    exact hret () trivial 29 _ .ireturn dX11_signed_29 rfl
  · skip
    obtain ⟨j9, e9, hj9⟩ := rAt_T (f := sg) (n := nsg) (by omega) (by omega) b_11
    subst e9
    refine j_aload_n hX 0 dX11_signed_14 rfl ?_
    refine j_get hX in11 11 0 38 (v := .ref (b 38)) rfl rfl (by decide) (List.mem_of_getElem? (i := 2) rfl) rfl rfl dX11_signed_15 ?_
    refine j_iload_n hX 1 dX11_signed_18 rfl ?_
    refine j_baldN hX 1 j9 rfl (by omega) (by omega) dX11_signed_19 ?_
    refine j_sipush hX (255) dX11_signed_20 (by decide) ?_
    refine j_pc 23 rfl ?_
    refine j_iand hX dX11_signed_23 ?_
    refine j_goto hX 29 dX11_signed_24 (by decide) ?_
    refine j_topeq _ (rAt sg nsg (nI j9)) (rAt_in hj9 (by omega)).symm ?_
    exact hret () trivial 29 _ .ireturn dX11_signed_29 rfl

set_option maxHeartbeats 4000000 in
set_option maxRecDepth 100000 in
/-- the reference: signed, no bytes -/
theorem c_msigned0 (l : Launch) (g : jG) (h : Nat) (b : Nat → Nat) (v : Nat → Int32) (xi : Int32) (hv25 : v 25 = nI 0) : jC l g yX11_signed wsX11_signed ({ frames := 1, cells := 0, slots := 0, locals := 22 } : Room) [.ref h, .int xi] [oB h 11 (mO b v)] (fun jj : Unit => some (.int (-9))) (fun jj : Unit => True) (fun jj : Unit => [oB h 11 (mO b v)]) := by
  refine jC.of (cc := cX11_signed) (own := RX11) (maxL := 2) (ret := (some .int)) (by decide +kernel) rfl rfl (Nat.le_of_ble_eq_true rfl) (fun u hu => ⟨_, rfl, rfl⟩) ?_
  intro p e s m below meth c A Q hX hret
  have in11 : ∀ w ∈ wsX110, w ∈ wsX11_signed := (fun w h => List.mem_cons_of_mem _ (List.mem_append_right _ h))
  refine j_iload_n hX 1 dX11_signed_0 rfl ?_
  refine j_iconst hX (0) dX11_signed_1 (by decide) ?_
  refine j_aload_n hX 0 dX11_signed_2 rfl ?_
  refine j_gete hX (nI 0) in11 11 0 25 rfl rfl (by decide) (List.mem_of_getElem? (i := 1) rfl) rfl rfl hv25 dX11_signed_3 ?_
  refine j_iconst hX (1) dX11_signed_6 (by decide) ?_
  refine j_isub hX dX11_signed_7 ?_
  refine j_callS2 hX 3 (c_in l g xi 0 ((nI 0) - 1) ) gX11_signed_X11_in (by decide +kernel) rfl ⟨rfl, rfl⟩ ⟨Nat.le_of_ble_eq_true rfl, Nat.le_of_ble_eq_true rfl⟩ [] [0] 1 rfl (by decide) (fun jj : Unit => [oB h 11 (mO b v)]) (fun _ => rfl) (by decide) [h] rfl (fun _ => rfl) (fun _ => rfl) [oB h 11 (mO b v)] rfl (fun _ => rfl) rfl [] rfl (Nat.le_of_ble_eq_true rfl) ⟨Nat.le_refl _, Nat.le_refl _⟩ dX11_signed_8 ?_
  intro _ hu_1
  refine j_w [oB h 11 (mO b v)] rfl ?_
  refine j_st [.int (if wiB xi 0 ((nI 0) - 1) then 1 else 0)] rfl ?_
  refine j_pc 11 rfl ?_
  refine j_if_eq hX 27 dX11_signed_11 (by decide) (fun b_11 => ?_) (fun b_11 => absurd b_11 (fun h9 => absurd (wi_and (wi_of h9)) (fun h8 => absurd (Int32.le_trans h8.1 h8.2) (by decide))))
  refine j_bipush hX (-9) dX11_signed_27 (by decide) ?_
  exact hret () trivial 29 _ .ireturn dX11_signed_29 rfl

set_option maxHeartbeats 4000000 in
set_option maxRecDepth 100000 in
/-- the reference: index -/
theorem c_mindexT (l : Launch) (g : jG) (h : Nat) (b : Nat → Nat) (v : Nat → Int32) (xf : Nat → Int32) (j : Nat) (hj : j < 8) : jC l g yX11_index wsX11_index ({ frames := 1, cells := 0, slots := 0, locals := 22 } : Room) [.ref h, .int (nI j)] [oB h 11 (mO b v), iA g (b 37) 8 xf] (fun jj : Unit => some (.int (xf j))) (fun jj : Unit => True) (fun jj : Unit => [oB h 11 (mO b v), iA g (b 37) 8 xf]) := by
  refine jC.of (cc := cX11_index) (own := RX11) (maxL := 2) (ret := (some .int)) (by decide +kernel) rfl rfl (Nat.le_of_ble_eq_true rfl) (fun u hu => ⟨_, rfl, rfl⟩) ?_
  intro p e s m below meth c A Q hX hret
  have in11 : ∀ w ∈ wsX110, w ∈ wsX11_index := (fun w h => List.mem_cons_of_mem _ (List.mem_append_right _ h))
  refine j_iload_n hX 1 dX11_index_0 rfl ?_
  refine j_iconst hX (0) dX11_index_1 (by decide) ?_
  refine j_bipush hX (7) dX11_index_2 (by decide) ?_
  refine j_callS2 hX 3 (c_in l g (nI j) 0 7 ) gX11_index_X11_in (by decide +kernel) rfl ⟨rfl, rfl⟩ ⟨Nat.le_of_ble_eq_true rfl, Nat.le_of_ble_eq_true rfl⟩ [] [0, 1] 2 rfl (by decide) (fun jj : Unit => [oB h 11 (mO b v), iA g (b 37) 8 xf]) (fun _ => rfl) (by decide) [h, (b 37)] rfl (fun _ => rfl) (fun _ => rfl) [oB h 11 (mO b v), iA g (b 37) 8 xf] rfl (fun _ => rfl) rfl [] rfl (Nat.le_of_ble_eq_true rfl) ⟨Nat.le_refl _, Nat.le_refl _⟩ dX11_index_4 ?_
  intro _ hu_1
  refine j_w [oB h 11 (mO b v), iA g (b 37) 8 xf] rfl ?_
  refine j_st [.int (if wiB (nI j) 0 7 then 1 else 0)] rfl ?_
  refine j_topeq _ (nI 1) (wiN 0 7 (by omega) (by omega) (by omega)) ?_
  refine j_if_eqN hX 1 19 dX11_index_7 (by decide) (by omega) (fun b_7 => absurd b_7 (by omega)) (fun b_7 => ?_)
  refine j_aload_n hX 0 dX11_index_10 rfl ?_
  refine j_get hX in11 11 0 37 (v := .ref (b 37)) rfl rfl (by decide) (List.mem_of_getElem? (i := 1) rfl) rfl rfl dX11_index_11 ?_
  refine j_pc 14 rfl ?_
  refine j_iload_n hX 1 dX11_index_14 rfl ?_
  refine j_ialdN hX 1 j rfl (by omega) (by omega) dX11_index_15 ?_
  refine j_goto hX 21 dX11_index_16 (by decide) ?_
  exact hret () trivial 21 _ .ireturn dX11_index_21 rfl

set_option maxHeartbeats 4000000 in
set_option maxRecDepth 100000 in
/-- the reference: index, none -/
theorem c_mindexF (l : Launch) (g : jG) (h : Nat) (b : Nat → Nat) (v : Nat → Int32) (xi : Int32) (hF : ¬ ∃ j : Nat, xi = nI j ∧ j < 8) : jC l g yX11_index wsX11_index ({ frames := 1, cells := 0, slots := 0, locals := 22 } : Room) [.ref h, .int xi] [oB h 11 (mO b v)] (fun jj : Unit => some (.int (-9))) (fun jj : Unit => True) (fun jj : Unit => [oB h 11 (mO b v)]) := by
  refine jC.of (cc := cX11_index) (own := RX11) (maxL := 2) (ret := (some .int)) (by decide +kernel) rfl rfl (Nat.le_of_ble_eq_true rfl) (fun u hu => ⟨_, rfl, rfl⟩) ?_
  intro p e s m below meth c A Q hX hret
  refine j_iload_n hX 1 dX11_index_0 rfl ?_
  refine j_iconst hX (0) dX11_index_1 (by decide) ?_
  refine j_bipush hX (7) dX11_index_2 (by decide) ?_
  refine j_callS2 hX 3 (c_in l g xi 0 7 ) gX11_index_X11_in (by decide +kernel) rfl ⟨rfl, rfl⟩ ⟨Nat.le_of_ble_eq_true rfl, Nat.le_of_ble_eq_true rfl⟩ [] [0] 1 rfl (by decide) (fun jj : Unit => [oB h 11 (mO b v)]) (fun _ => rfl) (by decide) [h] rfl (fun _ => rfl) (fun _ => rfl) [oB h 11 (mO b v)] rfl (fun _ => rfl) rfl [] rfl (Nat.le_of_ble_eq_true rfl) ⟨Nat.le_refl _, Nat.le_refl _⟩ dX11_index_4 ?_
  intro _ hu_1
  refine j_w [oB h 11 (mO b v)] rfl ?_
  refine j_st [.int (if wiB xi 0 7 then 1 else 0)] rfl ?_
  refine j_if_eq hX 19 dX11_index_7 (by decide) (fun b_7 => ?_) (fun b_7 => absurd b_7 (fun h9 => hF (by obtain ⟨q9, e9, -, c9⟩ := wi_nat 0 7 ⟨by decide, by decide⟩ (wi_of h9); exact ⟨q9, e9, by omega⟩)))
  refine j_bipush hX (-9) dX11_index_19 (by decide) ?_
  exact hret () trivial 21 _ .ireturn dX11_index_21 rfl

set_option maxHeartbeats 4000000 in
set_option maxRecDepth 100000 in
/-- the reference: alter -/
theorem c_malterT (l : Launch) (g : jG) (h : Nat) (b : Nat → Nat) (v : Nat → Int32) (nsg : Nat) (sg : Nat → Int32) (j : Nat) (q : Nat) (hv25 : v 25 = nI nsg) (hn : nsg ≤ 1680) (hj : j < nsg) (hq : q < 256) : jC l g yX11_alter wsX11_alter ({ frames := 1, cells := 0, slots := 0, locals := 22 } : Room) [.ref h, .int (nI j), .int (nI q)] [oB h 11 (mO b v), bA g (b 38) 2000 sg] (fun jj : (Nat → Int32) => some (.int (sg j &&& 255))) (fun jj : (Nat → Int32) => jj = upd sg j (i8 (nI q))) (fun jj : (Nat → Int32) => [oB h 11 (mO b v), bA g (b 38) 2000 jj]) := by
  refine jC.of (cc := cX11_alter) (own := RX11) (maxL := 4) (ret := (some .int)) (by decide +kernel) rfl rfl (Nat.le_of_ble_eq_true rfl) (fun u hu => ⟨_, rfl, rfl⟩) ?_
  intro p e s m below meth c A Q hX hret
  have in11 : ∀ w ∈ wsX110, w ∈ wsX11_alter := (fun w h => List.mem_cons_of_mem _ (List.mem_append_right _ h))
  refine j_iload_n hX 1 dX11_alter_0 rfl ?_
  refine j_iconst hX (0) dX11_alter_1 (by decide) ?_
  refine j_aload_n hX 0 dX11_alter_2 rfl ?_
  refine j_gete hX (nI nsg) in11 11 0 25 rfl rfl (by decide) (List.mem_of_getElem? (i := 1) rfl) rfl rfl hv25 dX11_alter_3 ?_
  refine j_iconst hX (1) dX11_alter_6 (by decide) ?_
  refine j_isubN hX nsg 1 (by omega) dX11_alter_7 ?_
  refine j_callS2 hX 3 (c_in l g (nI j) 0 (nI (nsg - 1)) ) gX11_alter_X11_in (by decide +kernel) rfl ⟨rfl, rfl⟩ ⟨Nat.le_of_ble_eq_true rfl, Nat.le_of_ble_eq_true rfl⟩ [] [0, 1] 2 rfl (by decide) (fun jj : Unit => [oB h 11 (mO b v), bA g (b 38) 2000 sg]) (fun _ => rfl) (by decide) [h, (b 38)] rfl (fun _ => rfl) (fun _ => rfl) [oB h 11 (mO b v), bA g (b 38) 2000 sg] rfl (fun _ => rfl) rfl [] rfl (Nat.le_of_ble_eq_true rfl) ⟨Nat.le_refl _, Nat.le_refl _⟩ dX11_alter_8 ?_
  intro _ hu_1
  refine j_w [oB h 11 (mO b v), bA g (b 38) 2000 sg] rfl ?_
  refine j_st [.int (if wiB (nI j) 0 (nI (nsg - 1)) then 1 else 0)] rfl ?_
  refine j_topeq _ (nI 1) (wiN 0 (nsg - 1) (by omega) (by omega) (by omega)) ?_
  refine j_pc 11 rfl ?_
  refine j_if_eqN hX 1 25 dX11_alter_11 (by decide) (by omega) (fun b_11 => absurd b_11 (by omega)) (fun b_11 => ?_)
  refine j_iload_n hX 2 dX11_alter_14 rfl ?_
  refine j_iconst hX (0) dX11_alter_15 (by decide) ?_
  refine j_sipush hX (255) dX11_alter_16 (by decide) ?_
  refine j_callS2 hX 3 (c_in l g (nI q) 0 255 ) gX11_alter_X11_in (by decide +kernel) rfl ⟨rfl, rfl⟩ ⟨Nat.le_of_ble_eq_true rfl, Nat.le_of_ble_eq_true rfl⟩ [] [0, 1] 2 rfl (by decide) (fun jj : Unit => [oB h 11 (mO b v), bA g (b 38) 2000 sg]) (fun _ => rfl) (by decide) [h, (b 38)] rfl (fun _ => rfl) (fun _ => rfl) [oB h 11 (mO b v), bA g (b 38) 2000 sg] rfl (fun _ => rfl) rfl [] rfl (Nat.le_of_ble_eq_true rfl) ⟨Nat.le_refl _, Nat.le_refl _⟩ dX11_alter_19 ?_
  intro _ hu_2
  refine j_w [oB h 11 (mO b v), bA g (b 38) 2000 sg] rfl ?_
  refine j_st [.int (if wiB (nI q) 0 255 then 1 else 0)] rfl ?_
  refine j_topeq _ (nI 1) (wiN 0 255 (by omega) (by omega) (by omega)) ?_
  refine j_if_neN hX 1 28 dX11_alter_22 (by decide) (by omega) (fun b_22 => ?_) (fun b_22 => absurd b_22 (by omega))
  refine j_aload_n hX 0 dX11_alter_28 rfl ?_
  refine j_get hX in11 11 0 38 (v := .ref (b 38)) rfl rfl (by decide) (List.mem_of_getElem? (i := 2) rfl) rfl rfl dX11_alter_29 ?_
  refine j_pc 32 rfl ?_
  refine j_iload_n hX 1 dX11_alter_32 rfl ?_
  refine j_baldN hX 1 j rfl (by omega) (by omega) dX11_alter_33 ?_
  refine j_sipush hX (255) dX11_alter_34 (by decide) ?_
  refine j_iand hX dX11_alter_37 ?_
  refine j_istore_n hX 3 [(3, .int ((sg j) &&& 255)), (0, .ref h), (1, .int (nI j)), (2, .int (nI q))] dX11_alter_38 rfl (by decide) rfl ?_
  refine j_aload_n hX 1 dX11_alter_39 rfl ?_
  refine j_get hX in11 11 0 38 (v := .ref (b 38)) rfl rfl (by decide) (List.mem_of_getElem? (i := 2) rfl) rfl rfl dX11_alter_40 ?_
  refine j_iload_n hX 2 dX11_alter_43 rfl ?_
  refine j_pc 44 rfl ?_
  refine j_iload_n hX 3 dX11_alter_44 rfl ?_
  refine j_i2b hX dX11_alter_45 ?_
  refine j_bast8 hX 1 j rfl (by omega) (by omega) [oB h 11 (mO b v), bA g (b 38) 2000 (upd sg j (i8 (nI q)))] rfl dX11_alter_46 ?_
  refine j_iload_n hX 0 dX11_alter_47 rfl ?_
  exact hret (upd sg j (i8 (nI q))) rfl 48 _ .ireturn dX11_alter_48 rfl

set_option maxHeartbeats 4000000 in
set_option maxRecDepth 100000 in
/-- the reference: alter, outside -/
theorem c_malterF (l : Launch) (g : jG) (h : Nat) (b : Nat → Nat) (v : Nat → Int32) (nsg : Nat) (xi : Int32) (xb : Int32) (hv25 : v 25 = nI nsg) (hn : nsg ≤ 1680) (hn1 : 1 ≤ nsg) (hF : (xi < 0 ∨ nI nsg ≤ xi) ∨ (xb < 0 ∨ 255 < xb)) : jC l g yX11_alter wsX11_alter ({ frames := 1, cells := 0, slots := 0, locals := 22 } : Room) [.ref h, .int xi, .int xb] [oB h 11 (mO b v)] (fun jj : Unit => some (.int (-2))) (fun jj : Unit => True) (fun jj : Unit => [oB h 11 (mO b v)]) := by
  refine jC.of (cc := cX11_alter) (own := RX11) (maxL := 4) (ret := (some .int)) (by decide +kernel) rfl rfl (Nat.le_of_ble_eq_true rfl) (fun u hu => ⟨_, rfl, rfl⟩) ?_
  intro p e s m below meth c A Q hX hret
  have in11 : ∀ w ∈ wsX110, w ∈ wsX11_alter := (fun w h => List.mem_cons_of_mem _ (List.mem_append_right _ h))
  refine j_iload_n hX 1 dX11_alter_0 rfl ?_
  refine j_iconst hX (0) dX11_alter_1 (by decide) ?_
  refine j_aload_n hX 0 dX11_alter_2 rfl ?_
  refine j_gete hX (nI nsg) in11 11 0 25 rfl rfl (by decide) (List.mem_of_getElem? (i := 1) rfl) rfl rfl hv25 dX11_alter_3 ?_
  refine j_iconst hX (1) dX11_alter_6 (by decide) ?_
  refine j_isubN hX nsg 1 (by omega) dX11_alter_7 ?_
  refine j_callS2 hX 3 (c_in l g xi 0 (nI (nsg - 1)) ) gX11_alter_X11_in (by decide +kernel) rfl ⟨rfl, rfl⟩ ⟨Nat.le_of_ble_eq_true rfl, Nat.le_of_ble_eq_true rfl⟩ [] [0] 1 rfl (by decide) (fun jj : Unit => [oB h 11 (mO b v)]) (fun _ => rfl) (by decide) [h] rfl (fun _ => rfl) (fun _ => rfl) [oB h 11 (mO b v)] rfl (fun _ => rfl) rfl [] rfl (Nat.le_of_ble_eq_true rfl) ⟨Nat.le_refl _, Nat.le_refl _⟩ dX11_alter_8 ?_
  intro _ hu_1
  refine j_w [oB h 11 (mO b v)] rfl ?_
  refine j_st [.int (if wiB xi 0 (nI (nsg - 1)) then 1 else 0)] rfl ?_
  refine j_pc 11 rfl ?_
  refine j_if_eq hX 25 dX11_alter_11 (by decide) (fun b_11 => ?_) (fun b_11 => ?_)
  · skip
    refine j_bipush hX (-2) dX11_alter_25 (by decide) ?_
    exact hret () trivial 27 _ .ireturn dX11_alter_27 rfl
  · skip
    refine j_iload_n hX 2 dX11_alter_14 rfl ?_
    refine j_iconst hX (0) dX11_alter_15 (by decide) ?_
    refine j_sipush hX (255) dX11_alter_16 (by decide) ?_
    refine j_callS2 hX 3 (c_in l g xb 0 255 ) gX11_alter_X11_in (by decide +kernel) rfl ⟨rfl, rfl⟩ ⟨Nat.le_of_ble_eq_true rfl, Nat.le_of_ble_eq_true rfl⟩ [] [0] 1 rfl (by decide) (fun jj : Unit => [oB h 11 (mO b v)]) (fun _ => rfl) (by decide) [h] rfl (fun _ => rfl) (fun _ => rfl) [oB h 11 (mO b v)] rfl (fun _ => rfl) rfl [] rfl (Nat.le_of_ble_eq_true rfl) ⟨Nat.le_refl _, Nat.le_refl _⟩ dX11_alter_19 ?_
    intro _ hu_2
    refine j_w [oB h 11 (mO b v)] rfl ?_
    refine j_st [.int (if wiB xb 0 255 then 1 else 0)] rfl ?_
    refine j_if_ne hX 28 dX11_alter_22 (by decide) (fun b_22 => ?_) (fun b_22 => ?_)
    · skip
      exact (by rcases hF with (h | h) | h | h; exact absurd h (Int32.not_lt.mpr (wi_and (wi_of b_11)).1); (obtain ⟨q9, e9, -, c9⟩ := wi_nat 0 (nsg - 1) ⟨by decide, by omega⟩ (wi_of b_11); rw [e9, nI_leI (by omega) (by omega)] at h; omega); exact absurd h (Int32.not_lt.mpr (wi_and (wi_of b_22)).1); exact absurd h (Int32.not_lt.mpr (wi_and (wi_of b_22)).2))
    · skip
      refine j_pc 25 rfl ?_
      refine j_bipush hX (-2) dX11_alter_25 (by decide) ?_
      exact hret () trivial 27 _ .ireturn dX11_alter_27 rfl

set_option maxHeartbeats 4000000 in
set_option maxRecDepth 100000 in
/-- the reference: alter, no bytes -/
theorem c_malter0 (l : Launch) (g : jG) (h : Nat) (b : Nat → Nat) (v : Nat → Int32) (xi : Int32) (xb : Int32) (hv25 : v 25 = nI 0) : jC l g yX11_alter wsX11_alter ({ frames := 1, cells := 0, slots := 0, locals := 22 } : Room) [.ref h, .int xi, .int xb] [oB h 11 (mO b v)] (fun jj : Unit => some (.int (-2))) (fun jj : Unit => True) (fun jj : Unit => [oB h 11 (mO b v)]) := by
  refine jC.of (cc := cX11_alter) (own := RX11) (maxL := 4) (ret := (some .int)) (by decide +kernel) rfl rfl (Nat.le_of_ble_eq_true rfl) (fun u hu => ⟨_, rfl, rfl⟩) ?_
  intro p e s m below meth c A Q hX hret
  have in11 : ∀ w ∈ wsX110, w ∈ wsX11_alter := (fun w h => List.mem_cons_of_mem _ (List.mem_append_right _ h))
  refine j_iload_n hX 1 dX11_alter_0 rfl ?_
  refine j_iconst hX (0) dX11_alter_1 (by decide) ?_
  refine j_aload_n hX 0 dX11_alter_2 rfl ?_
  refine j_gete hX (nI 0) in11 11 0 25 rfl rfl (by decide) (List.mem_of_getElem? (i := 1) rfl) rfl rfl hv25 dX11_alter_3 ?_
  refine j_iconst hX (1) dX11_alter_6 (by decide) ?_
  refine j_isub hX dX11_alter_7 ?_
  refine j_callS2 hX 3 (c_in l g xi 0 ((nI 0) - 1) ) gX11_alter_X11_in (by decide +kernel) rfl ⟨rfl, rfl⟩ ⟨Nat.le_of_ble_eq_true rfl, Nat.le_of_ble_eq_true rfl⟩ [] [0] 1 rfl (by decide) (fun jj : Unit => [oB h 11 (mO b v)]) (fun _ => rfl) (by decide) [h] rfl (fun _ => rfl) (fun _ => rfl) [oB h 11 (mO b v)] rfl (fun _ => rfl) rfl [] rfl (Nat.le_of_ble_eq_true rfl) ⟨Nat.le_refl _, Nat.le_refl _⟩ dX11_alter_8 ?_
  intro _ hu_1
  refine j_w [oB h 11 (mO b v)] rfl ?_
  refine j_st [.int (if wiB xi 0 ((nI 0) - 1) then 1 else 0)] rfl ?_
  refine j_pc 11 rfl ?_
  refine j_if_eq hX 25 dX11_alter_11 (by decide) (fun b_11 => ?_) (fun b_11 => absurd b_11 (fun h9 => absurd (wi_and (wi_of h9)) (fun h8 => absurd (Int32.le_trans h8.1 h8.2) (by decide))))
  refine j_bipush hX (-2) dX11_alter_25 (by decide) ?_
  exact hret () trivial 27 _ .ireturn dX11_alter_27 rfl

set_option maxHeartbeats 4000000 in
set_option maxRecDepth 100000 in
/-- the reference: cut -/
theorem c_mcutT (l : Launch) (g : jG) (h : Nat) (b : Nat → Nat) (v : Nat → Int32) (nsg : Nat) (k : Nat) (hv25 : v 25 = nI nsg) (hn : nsg ≤ 1680) (hk : k ≤ nsg) : jC l g yX11_cut wsX11_cut ({ frames := 1, cells := 0, slots := 0, locals := 22 } : Room) [.ref h, .int (nI k)] [oB h 11 (mO b v)] (fun jj : Unit => some (.int (nI (nsg - k)))) (fun jj : Unit => True) (fun jj : Unit => [oB h 11 (mO b (upd v 25 (nI k)))]) := by
  refine jC.of (cc := cX11_cut) (own := RX11) (maxL := 3) (ret := (some .int)) (by decide +kernel) rfl rfl (Nat.le_of_ble_eq_true rfl) (fun u hu => ⟨_, rfl, rfl⟩) ?_
  intro p e s m below meth c A Q hX hret
  have in11 : ∀ w ∈ wsX110, w ∈ wsX11_cut := (fun w h => List.mem_cons_of_mem _ (List.mem_append_right _ h))
  refine j_iload_n hX 1 dX11_cut_0 rfl ?_
  refine j_iconst hX (0) dX11_cut_1 (by decide) ?_
  refine j_aload_n hX 0 dX11_cut_2 rfl ?_
  refine j_gete hX (nI nsg) in11 11 0 25 rfl rfl (by decide) (List.mem_of_getElem? (i := 1) rfl) rfl rfl hv25 dX11_cut_3 ?_
  refine j_callS2 hX 3 (c_in l g (nI k) 0 (nI nsg) ) gX11_cut_X11_in (by decide +kernel) rfl ⟨rfl, rfl⟩ ⟨Nat.le_of_ble_eq_true rfl, Nat.le_of_ble_eq_true rfl⟩ [] [0] 1 rfl (by decide) (fun jj : Unit => [oB h 11 (mO b v)]) (fun _ => rfl) (by decide) [h] rfl (fun _ => rfl) (fun _ => rfl) [oB h 11 (mO b v)] rfl (fun _ => rfl) rfl [] rfl (Nat.le_of_ble_eq_true rfl) ⟨Nat.le_refl _, Nat.le_refl _⟩ dX11_cut_6 ?_
  intro _ hu_1
  refine j_w [oB h 11 (mO b v)] rfl ?_
  refine j_st [.int (if wiB (nI k) 0 (nI nsg) then 1 else 0)] rfl ?_
  refine j_topeq _ (nI 1) (wiN 0 nsg (by omega) (by omega) (by omega)) ?_
  refine j_if_neN hX 1 15 dX11_cut_9 (by decide) (by omega) (fun b_9 => ?_) (fun b_9 => absurd b_9 (by omega))
  refine j_aload_n hX 0 dX11_cut_15 rfl ?_
  refine j_pc 16 rfl ?_
  refine j_gete hX (nI nsg) in11 11 0 25 rfl rfl (by decide) (List.mem_of_getElem? (i := 1) rfl) rfl rfl hv25 dX11_cut_16 ?_
  refine j_iload_n hX 1 dX11_cut_19 rfl ?_
  refine j_isubN hX nsg k (by omega) dX11_cut_20 ?_
  refine j_istore_n hX 2 [(2, .int (nI (nsg - k))), (0, .ref h), (1, .int (nI k))] dX11_cut_21 rfl (by decide) rfl ?_
  refine j_aload_n hX 1 dX11_cut_22 rfl ?_
  refine j_iload_n hX 2 dX11_cut_23 rfl ?_
  refine j_put hX (v := .int (nI k)) (ty := .int) in11 tyX11 tyX11_ok nmX11 11 0 25 rfl rfl (by decide) (List.mem_of_getElem? (i := 1) rfl) rfl rfl rfl rfl rfl (Nat.le_of_ble_eq_true rfl) [oB h 11 (mO b (upd v 25 (nI k)))] rfl dX11_cut_24 ?_
  refine j_iload_n hX 0 dX11_cut_27 rfl ?_
  refine j_pc 28 rfl ?_
  exact hret () trivial 28 _ .ireturn dX11_cut_28 rfl

set_option maxHeartbeats 4000000 in
set_option maxRecDepth 100000 in
/-- the reference: cut, outside -/
theorem c_mcutF (l : Launch) (g : jG) (h : Nat) (b : Nat → Nat) (v : Nat → Int32) (nsg : Nat) (xk : Int32) (hv25 : v 25 = nI nsg) (hF : xk < 0 ∨ nI nsg < xk) : jC l g yX11_cut wsX11_cut ({ frames := 1, cells := 0, slots := 0, locals := 22 } : Room) [.ref h, .int xk] [oB h 11 (mO b v)] (fun jj : Unit => some (.int (-2))) (fun jj : Unit => True) (fun jj : Unit => [oB h 11 (mO b v)]) := by
  refine jC.of (cc := cX11_cut) (own := RX11) (maxL := 3) (ret := (some .int)) (by decide +kernel) rfl rfl (Nat.le_of_ble_eq_true rfl) (fun u hu => ⟨_, rfl, rfl⟩) ?_
  intro p e s m below meth c A Q hX hret
  have in11 : ∀ w ∈ wsX110, w ∈ wsX11_cut := (fun w h => List.mem_cons_of_mem _ (List.mem_append_right _ h))
  refine j_iload_n hX 1 dX11_cut_0 rfl ?_
  refine j_iconst hX (0) dX11_cut_1 (by decide) ?_
  refine j_aload_n hX 0 dX11_cut_2 rfl ?_
  refine j_gete hX (nI nsg) in11 11 0 25 rfl rfl (by decide) (List.mem_of_getElem? (i := 1) rfl) rfl rfl hv25 dX11_cut_3 ?_
  refine j_callS2 hX 3 (c_in l g xk 0 (nI nsg) ) gX11_cut_X11_in (by decide +kernel) rfl ⟨rfl, rfl⟩ ⟨Nat.le_of_ble_eq_true rfl, Nat.le_of_ble_eq_true rfl⟩ [] [0] 1 rfl (by decide) (fun jj : Unit => [oB h 11 (mO b v)]) (fun _ => rfl) (by decide) [h] rfl (fun _ => rfl) (fun _ => rfl) [oB h 11 (mO b v)] rfl (fun _ => rfl) rfl [] rfl (Nat.le_of_ble_eq_true rfl) ⟨Nat.le_refl _, Nat.le_refl _⟩ dX11_cut_6 ?_
  intro _ hu_1
  refine j_w [oB h 11 (mO b v)] rfl ?_
  refine j_st [.int (if wiB xk 0 (nI nsg) then 1 else 0)] rfl ?_
  refine j_if_ne hX 15 dX11_cut_9 (by decide) (fun b_9 => absurd b_9 (by first | exact (fun hh => by rcases hF with h | h; exact absurd h (Int32.not_lt.mpr (wi_and (wi_of hh)).1); exact absurd h (Int32.not_lt.mpr (wi_and (wi_of hh)).2)))) (fun b_9 => ?_)
  refine j_bipush hX (-2) dX11_cut_12 (by decide) ?_
  refine j_pc 14 rfl ?_
  exact hret () trivial 14 _ .ireturn dX11_cut_14 rfl

set_option maxHeartbeats 4000000 in
set_option maxRecDepth 100000 in
/-- the reference: shape -/
theorem c_mshapeT (l : Launch) (g : jG) (h : Nat) (b : Nat → Nat) (v : Nat → Int32) (xf : Nat → Int32) (fm : Nat) (nn : Nat) (ht : Nat) (lys : Nat) (fa : Nat) (mk : Nat) (hfm : fm < 2) (hnn4 : nn = 4 ∨ nn = 8 ∨ nn = 12 ∨ nn = 16) (hht : 1 ≤ ht ∧ ht ≤ 2) (hlys : 1 ≤ lys ∧ lys ≤ 2) (hfa : 1 ≤ fa ∧ fa ≤ 4) (hmk : 1 ≤ mk ∧ mk ≤ 6) : jC l g yX11_shape wsX11_shape ({ frames := 1, cells := 0, slots := 0, locals := 22 } : Room) [.ref h, .int (nI fm), .int (nI nn), .int (nI ht), .int (nI lys), .int (nI fa), .int (nI mk)] [oB h 11 (mO b v), iA g (b 37) 8 xf] (fun jj : (Nat → Int32) => some (.int (nI (sgS nn ht lys fa mk)))) (fun jj : (Nat → Int32) => ∀ j, j < 8 → jj j = -9) (fun jj : (Nat → Int32) => [oB h 11 (mO b (upd (upd (upd (upd (upd (upd (upd (upd (upd (upd (upd v 15 (nI fm)) 16 (nI nn)) 17 (nI ht)) 18 (nI lys)) 19 (nI fa)) 20 (nI mk)) 21 (nI (ln nn))) 22 (nI (sgS nn ht lys fa mk))) 24 (nI 0)) 25 (nI 0)) 26 (nI 0))), iA g (b 37) 8 jj]) := by
  refine jC.of (cc := cX11_shape) (own := RX11) (maxL := 8) (ret := (some .int)) (by decide +kernel) rfl rfl (Nat.le_of_ble_eq_true rfl) (fun u hu => ⟨_, rfl, rfl⟩) ?_
  intro p e s m below meth c A Q hX hret
  have in11 : ∀ w ∈ wsX110, w ∈ wsX11_shape := (fun w h => List.mem_cons_of_mem _ (List.mem_append_right _ h))
  refine j_iload_n hX 1 dX11_shape_0 rfl ?_
  refine j_iconst hX (0) dX11_shape_1 (by decide) ?_
  refine j_iconst hX (1) dX11_shape_2 (by decide) ?_
  refine j_callS2 hX 3 (c_in l g (nI fm) 0 1 ) gX11_shape_X11_in (by decide +kernel) rfl ⟨rfl, rfl⟩ ⟨Nat.le_of_ble_eq_true rfl, Nat.le_of_ble_eq_true rfl⟩ [] [0, 1] 2 rfl (by decide) (fun jj : Unit => [oB h 11 (mO b v), iA g (b 37) 8 xf]) (fun _ => rfl) (by decide) [h, (b 37)] rfl (fun _ => rfl) (fun _ => rfl) [oB h 11 (mO b v), iA g (b 37) 8 xf] rfl (fun _ => rfl) rfl [] rfl (Nat.le_of_ble_eq_true rfl) ⟨Nat.le_refl _, Nat.le_refl _⟩ dX11_shape_3 ?_
  intro _ hu_1
  refine j_w [oB h 11 (mO b v), iA g (b 37) 8 xf] rfl ?_
  refine j_st [.int (if wiB (nI fm) 0 1 then 1 else 0)] rfl ?_
  refine j_topeq _ (nI 1) (wiN 0 1 (by omega) (by omega) (by omega)) ?_
  refine j_if_eqN hX 1 65 dX11_shape_6 (by decide) (by omega) (fun b_6 => absurd b_6 (by omega)) (fun b_6 => ?_)
  refine j_iload_n hX 2 dX11_shape_9 rfl ?_
  refine j_iconst hX (4) dX11_shape_10 (by decide) ?_
  refine j_pc 11 rfl ?_
  refine j_iremN hX nn 4 (by omega) (by omega) (by omega) dX11_shape_11 ?_
  refine j_topeq _ (nI 0) (congrArg nI (by omega)) ?_
  refine j_if_neN hX 0 65 dX11_shape_12 (by decide) (by omega) (fun b_12 => absurd b_12 (by omega)) (fun b_12 => ?_)
  refine j_iload_n hX 2 dX11_shape_15 rfl ?_
  refine j_iconst hX (4) dX11_shape_16 (by decide) ?_
  refine j_bipush hX (16) dX11_shape_17 (by decide) ?_
  refine j_callS2 hX 3 (c_in l g (nI nn) 4 16 ) gX11_shape_X11_in (by decide +kernel) rfl ⟨rfl, rfl⟩ ⟨Nat.le_of_ble_eq_true rfl, Nat.le_of_ble_eq_true rfl⟩ [] [0, 1] 2 rfl (by decide) (fun jj : Unit => [oB h 11 (mO b v), iA g (b 37) 8 xf]) (fun _ => rfl) (by decide) [h, (b 37)] rfl (fun _ => rfl) (fun _ => rfl) [oB h 11 (mO b v), iA g (b 37) 8 xf] rfl (fun _ => rfl) rfl [] rfl (Nat.le_of_ble_eq_true rfl) ⟨Nat.le_refl _, Nat.le_refl _⟩ dX11_shape_19 ?_
  intro _ hu_2
  refine j_w [oB h 11 (mO b v), iA g (b 37) 8 xf] rfl ?_
  refine j_st [.int (if wiB (nI nn) 4 16 then 1 else 0)] rfl ?_
  refine j_topeq _ (nI 1) (wiN 4 16 (by omega) (by omega) (by omega)) ?_
  refine j_if_eqN hX 1 65 dX11_shape_22 (by decide) (by omega) (fun b_22 => absurd b_22 (by omega)) (fun b_22 => ?_)
  refine j_iload_n hX 3 dX11_shape_25 rfl ?_
  refine j_pc 26 rfl ?_
  refine j_iconst hX (1) dX11_shape_26 (by decide) ?_
  refine j_iconst hX (2) dX11_shape_27 (by decide) ?_
  refine j_callS2 hX 3 (c_in l g (nI ht) 1 2 ) gX11_shape_X11_in (by decide +kernel) rfl ⟨rfl, rfl⟩ ⟨Nat.le_of_ble_eq_true rfl, Nat.le_of_ble_eq_true rfl⟩ [] [0, 1] 2 rfl (by decide) (fun jj : Unit => [oB h 11 (mO b v), iA g (b 37) 8 xf]) (fun _ => rfl) (by decide) [h, (b 37)] rfl (fun _ => rfl) (fun _ => rfl) [oB h 11 (mO b v), iA g (b 37) 8 xf] rfl (fun _ => rfl) rfl [] rfl (Nat.le_of_ble_eq_true rfl) ⟨Nat.le_refl _, Nat.le_refl _⟩ dX11_shape_28 ?_
  intro _ hu_3
  refine j_w [oB h 11 (mO b v), iA g (b 37) 8 xf] rfl ?_
  refine j_st [.int (if wiB (nI ht) 1 2 then 1 else 0)] rfl ?_
  refine j_topeq _ (nI 1) (wiN 1 2 (by omega) (by omega) (by omega)) ?_
  refine j_if_eqN hX 1 65 dX11_shape_31 (by decide) (by omega) (fun b_31 => absurd b_31 (by omega)) (fun b_31 => ?_)
  refine j_iload hX 4 dX11_shape_34 rfl ?_
  refine j_iconst hX (1) dX11_shape_36 (by decide) ?_
  refine j_iconst hX (2) dX11_shape_37 (by decide) ?_
  refine j_callS2 hX 3 (c_in l g (nI lys) 1 2 ) gX11_shape_X11_in (by decide +kernel) rfl ⟨rfl, rfl⟩ ⟨Nat.le_of_ble_eq_true rfl, Nat.le_of_ble_eq_true rfl⟩ [] [0, 1] 2 rfl (by decide) (fun jj : Unit => [oB h 11 (mO b v), iA g (b 37) 8 xf]) (fun _ => rfl) (by decide) [h, (b 37)] rfl (fun _ => rfl) (fun _ => rfl) [oB h 11 (mO b v), iA g (b 37) 8 xf] rfl (fun _ => rfl) rfl [] rfl (Nat.le_of_ble_eq_true rfl) ⟨Nat.le_refl _, Nat.le_refl _⟩ dX11_shape_38 ?_
  intro _ hu_4
  refine j_w [oB h 11 (mO b v), iA g (b 37) 8 xf] rfl ?_
  refine j_st [.int (if wiB (nI lys) 1 2 then 1 else 0)] rfl ?_
  refine j_topeq _ (nI 1) (wiN 1 2 (by omega) (by omega) (by omega)) ?_
  refine j_pc 41 rfl ?_
  refine j_if_eqN hX 1 65 dX11_shape_41 (by decide) (by omega) (fun b_41 => absurd b_41 (by omega)) (fun b_41 => ?_)
  refine j_iload hX 5 dX11_shape_44 rfl ?_
  refine j_iconst hX (1) dX11_shape_46 (by decide) ?_
  refine j_iconst hX (4) dX11_shape_47 (by decide) ?_
  refine j_callS2 hX 3 (c_in l g (nI fa) 1 4 ) gX11_shape_X11_in (by decide +kernel) rfl ⟨rfl, rfl⟩ ⟨Nat.le_of_ble_eq_true rfl, Nat.le_of_ble_eq_true rfl⟩ [] [0, 1] 2 rfl (by decide) (fun jj : Unit => [oB h 11 (mO b v), iA g (b 37) 8 xf]) (fun _ => rfl) (by decide) [h, (b 37)] rfl (fun _ => rfl) (fun _ => rfl) [oB h 11 (mO b v), iA g (b 37) 8 xf] rfl (fun _ => rfl) rfl [] rfl (Nat.le_of_ble_eq_true rfl) ⟨Nat.le_refl _, Nat.le_refl _⟩ dX11_shape_48 ?_
  intro _ hu_5
  refine j_w [oB h 11 (mO b v), iA g (b 37) 8 xf] rfl ?_
  refine j_st [.int (if wiB (nI fa) 1 4 then 1 else 0)] rfl ?_
  refine j_topeq _ (nI 1) (wiN 1 4 (by omega) (by omega) (by omega)) ?_
  refine j_if_eqN hX 1 65 dX11_shape_51 (by decide) (by omega) (fun b_51 => absurd b_51 (by omega)) (fun b_51 => ?_)
  refine j_iload hX 6 dX11_shape_54 rfl ?_
  refine j_iconst hX (1) dX11_shape_56 (by decide) ?_
  refine j_pc 57 rfl ?_
  refine j_bipush hX (6) dX11_shape_57 (by decide) ?_
  refine j_callS2 hX 3 (c_in l g (nI mk) 1 6 ) gX11_shape_X11_in (by decide +kernel) rfl ⟨rfl, rfl⟩ ⟨Nat.le_of_ble_eq_true rfl, Nat.le_of_ble_eq_true rfl⟩ [] [0, 1] 2 rfl (by decide) (fun jj : Unit => [oB h 11 (mO b v), iA g (b 37) 8 xf]) (fun _ => rfl) (by decide) [h, (b 37)] rfl (fun _ => rfl) (fun _ => rfl) [oB h 11 (mO b v), iA g (b 37) 8 xf] rfl (fun _ => rfl) rfl [] rfl (Nat.le_of_ble_eq_true rfl) ⟨Nat.le_refl _, Nat.le_refl _⟩ dX11_shape_59 ?_
  intro _ hu_6
  refine j_w [oB h 11 (mO b v), iA g (b 37) 8 xf] rfl ?_
  refine j_st [.int (if wiB (nI mk) 1 6 then 1 else 0)] rfl ?_
  refine j_topeq _ (nI 1) (wiN 1 6 (by omega) (by omega) (by omega)) ?_
  refine j_if_neN hX 1 68 dX11_shape_62 (by decide) (by omega) (fun b_62 => ?_) (fun b_62 => absurd b_62 (by omega))
  refine j_aload_n hX 0 dX11_shape_68 rfl ?_
  refine j_iload_n hX 1 dX11_shape_69 rfl ?_
  refine j_put hX (v := .int (nI fm)) (ty := .int) in11 tyX11 tyX11_ok nmX11 11 0 15 rfl rfl (by decide) (List.mem_of_getElem? (i := 1) rfl) rfl rfl rfl rfl rfl (Nat.le_of_ble_eq_true rfl) [oB h 11 (mO b (upd v 15 (nI fm))), iA g (b 37) 8 xf] rfl dX11_shape_70 ?_
  refine j_aload_n hX 0 dX11_shape_73 rfl ?_
  refine j_iload_n hX 2 dX11_shape_74 rfl ?_
  refine j_pc 75 rfl ?_
  refine j_put hX (v := .int (nI nn)) (ty := .int) in11 tyX11 tyX11_ok nmX11 11 0 16 rfl rfl (by decide) (List.mem_of_getElem? (i := 2) rfl) rfl rfl rfl rfl rfl (Nat.le_of_ble_eq_true rfl) [oB h 11 (mO b (upd (upd v 15 (nI fm)) 16 (nI nn))), iA g (b 37) 8 xf] rfl dX11_shape_75 ?_
  refine j_aload_n hX 0 dX11_shape_78 rfl ?_
  refine j_iload_n hX 3 dX11_shape_79 rfl ?_
  refine j_put hX (v := .int (nI ht)) (ty := .int) in11 tyX11 tyX11_ok nmX11 11 0 17 rfl rfl (by decide) (List.mem_of_getElem? (i := 3) rfl) rfl rfl rfl rfl rfl (Nat.le_of_ble_eq_true rfl) [oB h 11 (mO b (upd (upd (upd v 15 (nI fm)) 16 (nI nn)) 17 (nI ht))), iA g (b 37) 8 xf] rfl dX11_shape_80 ?_
  refine j_aload_n hX 0 dX11_shape_83 rfl ?_
  refine j_iload hX 4 dX11_shape_84 rfl ?_
  refine j_put hX (v := .int (nI lys)) (ty := .int) in11 tyX11 tyX11_ok nmX11 11 0 18 rfl rfl (by decide) (List.mem_of_getElem? (i := 4) rfl) rfl rfl rfl rfl rfl (Nat.le_of_ble_eq_true rfl) [oB h 11 (mO b (upd (upd (upd (upd v 15 (nI fm)) 16 (nI nn)) 17 (nI ht)) 18 (nI lys))), iA g (b 37) 8 xf] rfl dX11_shape_86 ?_
  refine j_aload_n hX 0 dX11_shape_89 rfl ?_
  refine j_pc 90 rfl ?_
  refine j_iload hX 5 dX11_shape_90 rfl ?_
  refine j_put hX (v := .int (nI fa)) (ty := .int) in11 tyX11 tyX11_ok nmX11 11 0 19 rfl rfl (by decide) (List.mem_of_getElem? (i := 5) rfl) rfl rfl rfl rfl rfl (Nat.le_of_ble_eq_true rfl) [oB h 11 (mO b (upd (upd (upd (upd (upd v 15 (nI fm)) 16 (nI nn)) 17 (nI ht)) 18 (nI lys)) 19 (nI fa))), iA g (b 37) 8 xf] rfl dX11_shape_92 ?_
  refine j_aload_n hX 0 dX11_shape_95 rfl ?_
  refine j_iload hX 6 dX11_shape_96 rfl ?_
  refine j_put hX (v := .int (nI mk)) (ty := .int) in11 tyX11 tyX11_ok nmX11 11 0 20 rfl rfl (by decide) (List.mem_of_getElem? (i := 6) rfl) rfl rfl rfl rfl rfl (Nat.le_of_ble_eq_true rfl) [oB h 11 (mO b (upd (upd (upd (upd (upd (upd v 15 (nI fm)) 16 (nI nn)) 17 (nI ht)) 18 (nI lys)) 19 (nI fa)) 20 (nI mk))), iA g (b 37) 8 xf] rfl dX11_shape_98 ?_
  refine j_aload_n hX 0 dX11_shape_101 rfl ?_
  refine j_callV2 hX 0 (c_measure l g h b (upd (upd (upd (upd (upd (upd v 15 (nI fm)) 16 (nI nn)) 17 (nI ht)) 18 (nI lys)) 19 (nI fa)) 20 (nI mk)) nn ht lys fa mk rfl rfl rfl rfl rfl (by omega)) gX11_shape_X11_measure (by decide +kernel) rfl ⟨rfl, rfl⟩ ⟨Nat.le_of_ble_eq_true rfl, Nat.le_of_ble_eq_true rfl⟩ 11 0 rfl rfl [0] [1] 2 rfl (by decide) (fun jj : Unit => [oB h 11 (mO b (upd (upd (upd (upd (upd (upd (upd (upd v 15 (nI fm)) 16 (nI nn)) 17 (nI ht)) 18 (nI lys)) 19 (nI fa)) 20 (nI mk)) 21 (nI (ln nn))) 22 (nI (sgS nn ht lys fa mk)))), iA g (b 37) 8 xf]) (fun _ => rfl) (by decide) [h, (b 37)] rfl (fun _ => rfl) (fun _ => rfl) [iA g (b 37) 8 xf] rfl (fun _ => rfl) rfl [] rfl (Nat.le_of_ble_eq_true rfl) ⟨Nat.le_refl _, Nat.le_refl _⟩ dX11_shape_102 ?_
  intro _ hu_7
  refine j_w [oB h 11 (mO b (upd (upd (upd (upd (upd (upd (upd (upd v 15 (nI fm)) 16 (nI nn)) 17 (nI ht)) 18 (nI lys)) 19 (nI fa)) 20 (nI mk)) 21 (nI (ln nn))) 22 (nI (sgS nn ht lys fa mk)))), iA g (b 37) 8 xf] rfl ?_
  refine j_st [] rfl ?_
  refine j_aload_n hX 0 dX11_shape_105 rfl ?_
  refine j_pc 106 rfl ?_
  refine j_iconst hX (0) dX11_shape_106 (by decide) ?_
  refine j_st [.int (nI 0), .ref h] rfl ?_
  refine j_put hX (v := .int (nI 0)) (ty := .boolean) in11 tyX11 tyX11_ok nmX11 11 0 24 rfl rfl (by decide) (List.mem_of_getElem? (i := 7) rfl) rfl rfl rfl rfl rfl (Nat.le_of_ble_eq_true rfl) [oB h 11 (mO b (upd (upd (upd (upd (upd (upd (upd (upd (upd v 15 (nI fm)) 16 (nI nn)) 17 (nI ht)) 18 (nI lys)) 19 (nI fa)) 20 (nI mk)) 21 (nI (ln nn))) 22 (nI (sgS nn ht lys fa mk))) 24 (nI 0))), iA g (b 37) 8 xf] rfl dX11_shape_107 ?_
  refine j_aload_n hX 0 dX11_shape_110 rfl ?_
  refine j_iconst hX (0) dX11_shape_111 (by decide) ?_
  refine j_st [.int (nI 0), .ref h] rfl ?_
  refine j_put hX (v := .int (nI 0)) (ty := .int) in11 tyX11 tyX11_ok nmX11 11 0 25 rfl rfl (by decide) (List.mem_of_getElem? (i := 8) rfl) rfl rfl rfl rfl rfl (Nat.le_of_ble_eq_true rfl) [oB h 11 (mO b (upd (upd (upd (upd (upd (upd (upd (upd (upd (upd v 15 (nI fm)) 16 (nI nn)) 17 (nI ht)) 18 (nI lys)) 19 (nI fa)) 20 (nI mk)) 21 (nI (ln nn))) 22 (nI (sgS nn ht lys fa mk))) 24 (nI 0)) 25 (nI 0))), iA g (b 37) 8 xf] rfl dX11_shape_112 ?_
  refine j_aload_n hX 0 dX11_shape_115 rfl ?_
  refine j_iconst hX (0) dX11_shape_116 (by decide) ?_
  refine j_st [.int (nI 0), .ref h] rfl ?_
  refine j_put hX (v := .int (nI 0)) (ty := .boolean) in11 tyX11 tyX11_ok nmX11 11 0 26 rfl rfl (by decide) (List.mem_of_getElem? (i := 9) rfl) rfl rfl rfl rfl rfl (Nat.le_of_ble_eq_true rfl) [oB h 11 (mO b (upd (upd (upd (upd (upd (upd (upd (upd (upd (upd (upd v 15 (nI fm)) 16 (nI nn)) 17 (nI ht)) 18 (nI lys)) 19 (nI fa)) 20 (nI mk)) 21 (nI (ln nn))) 22 (nI (sgS nn ht lys fa mk))) 24 (nI 0)) 25 (nI 0)) 26 (nI 0))), iA g (b 37) 8 xf] rfl dX11_shape_117 ?_
  refine j_pc 120 rfl ?_
  refine j_iconst hX (0) dX11_shape_120 (by decide) ?_
  refine j_st [.int (nI 0)] rfl ?_
  refine j_istore hX [(7, .int (nI 0)), (0, .ref h), (1, .int (nI fm)), (2, .int (nI nn)), (3, .int (nI ht)), (4, .int (nI lys)), (5, .int (nI fa)), (6, .int (nI mk))] dX11_shape_121 (by decide) rfl ?_
  have lp_8 : ∀ (n_9 : Nat) (i : Nat) (X1 : Nat → Int32), (8 - i < n_9) → (i ≤ 8) → (∀ j, j < i → X1 j = -9) → J p l e ({ frames := 1, cells := 0, slots := 0, locals := 22 } : Room) s m ([.ref h, .int (nI fm), .int (nI nn), .int (nI ht), .int (nI lys), .int (nI fa), .int (nI mk)] : List Value).toArray below meth c g A 8 Q 0 0 [oB h 11 (mO b (upd (upd (upd (upd (upd (upd (upd (upd (upd (upd (upd v 15 (nI fm)) 16 (nI nn)) 17 (nI ht)) 18 (nI lys)) 19 (nI fa)) 20 (nI mk)) 21 (nI (ln nn))) 22 (nI (sgS nn ht lys fa mk))) 24 (nI 0)) 25 (nI 0)) 26 (nI 0))), iA g (b 37) 8 X1] [(0, .ref h), (1, .int (nI fm)), (2, .int (nI nn)), (3, .int (nI ht)), (4, .int (nI lys)), (5, .int (nI fa)), (6, .int (nI mk)), (7, .int (nI i))] 123 [] := by
    intro n_9
    induction n_9 with
    | zero => intro i X1 hm; exact absurd hm (Nat.not_lt_zero _)
    | succ n_9 ih_10 =>
      intro i X1 hm hi hX1
      refine j_iload hX 7 dX11_shape_123 rfl ?_
      refine j_bipush hX (8) dX11_shape_125 (by decide) ?_
      refine j_icmp_geN hX i 8 145 dX11_shape_127 (by decide) (by omega) (by omega) (fun b_127 => ?_) (fun b_127 => ?_)
      · skip
        refine j_aload_n hX 0 dX11_shape_145 rfl ?_
        refine j_get hX in11 11 0 22 (v := .int (nI (sgS nn ht lys fa mk))) rfl rfl (by decide) (List.mem_of_getElem? (i := 11) rfl) rfl rfl dX11_shape_146 ?_
        exact hret X1 (fun j hj => hX1 j (by omega)) 149 _ .ireturn dX11_shape_149 rfl
      · skip
        refine j_pc 130 rfl ?_
        refine j_aload_n hX 0 dX11_shape_130 rfl ?_
        refine j_get hX in11 11 0 37 (v := .ref (b 37)) rfl rfl (by decide) (List.mem_of_getElem? (i := 10) rfl) rfl rfl dX11_shape_131 ?_
        refine j_iload hX 7 dX11_shape_134 rfl ?_
        refine j_bipush hX (-9) dX11_shape_136 (by decide) ?_
        refine j_iastN hX 1 i rfl (by omega) (by omega) [oB h 11 (mO b (upd (upd (upd (upd (upd (upd (upd (upd (upd (upd (upd v 15 (nI fm)) 16 (nI nn)) 17 (nI ht)) 18 (nI lys)) 19 (nI fa)) 20 (nI mk)) 21 (nI (ln nn))) 22 (nI (sgS nn ht lys fa mk))) 24 (nI 0)) 25 (nI 0)) 26 (nI 0))), iA g (b 37) 8 (upd X1 i (-9))] rfl dX11_shape_138 ?_
        refine j_iincN hX i (i + 1) [(7, .int (nI (i + 1))), (0, .ref h), (1, .int (nI fm)), (2, .int (nI nn)), (3, .int (nI ht)), (4, .int (nI lys)), (5, .int (nI fa)), (6, .int (nI mk))] 7 dX11_shape_139 rfl (nI_1 _) (by decide) rfl ?_
        refine j_goto hX 123 dX11_shape_142 (by decide) ?_
        refine j_perm [(0, .ref h), (1, .int (nI fm)), (2, .int (nI nn)), (3, .int (nI ht)), (4, .int (nI lys)), (5, .int (nI fa)), (6, .int (nI mk)), (7, .int (nI (i + 1)))] [1, 2, 3, 4, 5, 6, 7, 0] rfl ?_
        exact ih_10 (i + 1) (upd X1 i (-9)) (by omega) (by omega) (fun j hj => by unfold upd; split; rfl; exact hX1 j (by omega))
  refine j_perm [(0, .ref h), (1, .int (nI fm)), (2, .int (nI nn)), (3, .int (nI ht)), (4, .int (nI lys)), (5, .int (nI fa)), (6, .int (nI mk)), (7, .int (nI 0))] [1, 2, 3, 4, 5, 6, 7, 0] rfl ?_
  exact lp_8 _ 0 xf (Nat.lt_succ_self _) (by omega) (fun j hj => absurd hj (Nat.not_lt_zero j))

set_option maxHeartbeats 4000000 in
set_option maxRecDepth 100000 in
/-- the reference: shape, outside -/
theorem c_mshapeF (l : Launch) (g : jG) (h : Nat) (b : Nat → Nat) (v : Nat → Int32) (x0 : Int32) (x1 : Int32) (x2 : Int32) (x3 : Int32) (x4 : Int32) (x5 : Int32) (hF : ¬ fitP x0 x1 x2 x3 x4 x5) : jC l g yX11_shape wsX11_shape ({ frames := 1, cells := 0, slots := 0, locals := 22 } : Room) [.ref h, .int x0, .int x1, .int x2, .int x3, .int x4, .int x5] [oB h 11 (mO b v)] (fun jj : Unit => some (.int (-2))) (fun jj : Unit => True) (fun jj : Unit => [oB h 11 (mO b v)]) := by
  refine jC.of (cc := cX11_shape) (own := RX11) (maxL := 8) (ret := (some .int)) (by decide +kernel) rfl rfl (Nat.le_of_ble_eq_true rfl) (fun u hu => ⟨_, rfl, rfl⟩) ?_
  intro p e s m below meth c A Q hX hret
  refine j_iload_n hX 1 dX11_shape_0 rfl ?_
  refine j_iconst hX (0) dX11_shape_1 (by decide) ?_
  refine j_iconst hX (1) dX11_shape_2 (by decide) ?_
  refine j_callS2 hX 3 (c_in l g x0 0 1 ) gX11_shape_X11_in (by decide +kernel) rfl ⟨rfl, rfl⟩ ⟨Nat.le_of_ble_eq_true rfl, Nat.le_of_ble_eq_true rfl⟩ [] [0] 1 rfl (by decide) (fun jj : Unit => [oB h 11 (mO b v)]) (fun _ => rfl) (by decide) [h] rfl (fun _ => rfl) (fun _ => rfl) [oB h 11 (mO b v)] rfl (fun _ => rfl) rfl [] rfl (Nat.le_of_ble_eq_true rfl) ⟨Nat.le_refl _, Nat.le_refl _⟩ dX11_shape_3 ?_
  intro _ hu_1
  refine j_w [oB h 11 (mO b v)] rfl ?_
  refine j_st [.int (if wiB x0 0 1 then 1 else 0)] rfl ?_
  refine j_if_eq hX 65 dX11_shape_6 (by decide) (fun b_6 => ?_) (fun b_6 => ?_)
  · skip
    refine j_bipush hX (-2) dX11_shape_65 (by decide) ?_
    exact hret () trivial 67 _ .ireturn dX11_shape_67 rfl
  · skip
    refine j_pc 9 rfl ?_
    refine j_iload_n hX 2 dX11_shape_9 rfl ?_
    refine j_iconst hX (4) dX11_shape_10 (by decide) ?_
    refine j_irem hX dX11_shape_11 (by decide) ?_
    refine j_if_ne hX 65 dX11_shape_12 (by decide) (fun b_12 => ?_) (fun b_12 => ?_)
    · skip
      refine j_bipush hX (-2) dX11_shape_65 (by decide) ?_
      exact hret () trivial 67 _ .ireturn dX11_shape_67 rfl
    · skip
      refine j_iload_n hX 2 dX11_shape_15 rfl ?_
      refine j_iconst hX (4) dX11_shape_16 (by decide) ?_
      refine j_pc 17 rfl ?_
      refine j_bipush hX (16) dX11_shape_17 (by decide) ?_
      refine j_callS2 hX 3 (c_in l g x1 4 16 ) gX11_shape_X11_in (by decide +kernel) rfl ⟨rfl, rfl⟩ ⟨Nat.le_of_ble_eq_true rfl, Nat.le_of_ble_eq_true rfl⟩ [] [0] 1 rfl (by decide) (fun jj : Unit => [oB h 11 (mO b v)]) (fun _ => rfl) (by decide) [h] rfl (fun _ => rfl) (fun _ => rfl) [oB h 11 (mO b v)] rfl (fun _ => rfl) rfl [] rfl (Nat.le_of_ble_eq_true rfl) ⟨Nat.le_refl _, Nat.le_refl _⟩ dX11_shape_19 ?_
      intro _ hu_2
      refine j_w [oB h 11 (mO b v)] rfl ?_
      refine j_st [.int (if wiB x1 4 16 then 1 else 0)] rfl ?_
      refine j_if_eq hX 65 dX11_shape_22 (by decide) (fun b_22 => ?_) (fun b_22 => ?_)
      · skip
        refine j_bipush hX (-2) dX11_shape_65 (by decide) ?_
        exact hret () trivial 67 _ .ireturn dX11_shape_67 rfl
      · skip
        refine j_iload_n hX 3 dX11_shape_25 rfl ?_
        refine j_iconst hX (1) dX11_shape_26 (by decide) ?_
        refine j_iconst hX (2) dX11_shape_27 (by decide) ?_
        refine j_pc 28 rfl ?_
        refine j_callS2 hX 3 (c_in l g x2 1 2 ) gX11_shape_X11_in (by decide +kernel) rfl ⟨rfl, rfl⟩ ⟨Nat.le_of_ble_eq_true rfl, Nat.le_of_ble_eq_true rfl⟩ [] [0] 1 rfl (by decide) (fun jj : Unit => [oB h 11 (mO b v)]) (fun _ => rfl) (by decide) [h] rfl (fun _ => rfl) (fun _ => rfl) [oB h 11 (mO b v)] rfl (fun _ => rfl) rfl [] rfl (Nat.le_of_ble_eq_true rfl) ⟨Nat.le_refl _, Nat.le_refl _⟩ dX11_shape_28 ?_
        intro _ hu_3
        refine j_w [oB h 11 (mO b v)] rfl ?_
        refine j_st [.int (if wiB x2 1 2 then 1 else 0)] rfl ?_
        refine j_if_eq hX 65 dX11_shape_31 (by decide) (fun b_31 => ?_) (fun b_31 => ?_)
        · skip
          refine j_bipush hX (-2) dX11_shape_65 (by decide) ?_
          exact hret () trivial 67 _ .ireturn dX11_shape_67 rfl
        · skip
          refine j_iload hX 4 dX11_shape_34 rfl ?_
          refine j_iconst hX (1) dX11_shape_36 (by decide) ?_
          refine j_iconst hX (2) dX11_shape_37 (by decide) ?_
          refine j_callS2 hX 3 (c_in l g x3 1 2 ) gX11_shape_X11_in (by decide +kernel) rfl ⟨rfl, rfl⟩ ⟨Nat.le_of_ble_eq_true rfl, Nat.le_of_ble_eq_true rfl⟩ [] [0] 1 rfl (by decide) (fun jj : Unit => [oB h 11 (mO b v)]) (fun _ => rfl) (by decide) [h] rfl (fun _ => rfl) (fun _ => rfl) [oB h 11 (mO b v)] rfl (fun _ => rfl) rfl [] rfl (Nat.le_of_ble_eq_true rfl) ⟨Nat.le_refl _, Nat.le_refl _⟩ dX11_shape_38 ?_
          intro _ hu_4
          refine j_w [oB h 11 (mO b v)] rfl ?_
          refine j_st [.int (if wiB x3 1 2 then 1 else 0)] rfl ?_
          refine j_pc 41 rfl ?_
          refine j_if_eq hX 65 dX11_shape_41 (by decide) (fun b_41 => ?_) (fun b_41 => ?_)
          · skip
            refine j_bipush hX (-2) dX11_shape_65 (by decide) ?_
            exact hret () trivial 67 _ .ireturn dX11_shape_67 rfl
          · skip
            refine j_iload hX 5 dX11_shape_44 rfl ?_
            refine j_iconst hX (1) dX11_shape_46 (by decide) ?_
            refine j_iconst hX (4) dX11_shape_47 (by decide) ?_
            refine j_callS2 hX 3 (c_in l g x4 1 4 ) gX11_shape_X11_in (by decide +kernel) rfl ⟨rfl, rfl⟩ ⟨Nat.le_of_ble_eq_true rfl, Nat.le_of_ble_eq_true rfl⟩ [] [0] 1 rfl (by decide) (fun jj : Unit => [oB h 11 (mO b v)]) (fun _ => rfl) (by decide) [h] rfl (fun _ => rfl) (fun _ => rfl) [oB h 11 (mO b v)] rfl (fun _ => rfl) rfl [] rfl (Nat.le_of_ble_eq_true rfl) ⟨Nat.le_refl _, Nat.le_refl _⟩ dX11_shape_48 ?_
            intro _ hu_5
            refine j_w [oB h 11 (mO b v)] rfl ?_
            refine j_st [.int (if wiB x4 1 4 then 1 else 0)] rfl ?_
            refine j_if_eq hX 65 dX11_shape_51 (by decide) (fun b_51 => ?_) (fun b_51 => ?_)
            · skip
              refine j_pc 65 rfl ?_
              refine j_bipush hX (-2) dX11_shape_65 (by decide) ?_
              exact hret () trivial 67 _ .ireturn dX11_shape_67 rfl
            · skip
              refine j_iload hX 6 dX11_shape_54 rfl ?_
              refine j_iconst hX (1) dX11_shape_56 (by decide) ?_
              refine j_bipush hX (6) dX11_shape_57 (by decide) ?_
              refine j_callS2 hX 3 (c_in l g x5 1 6 ) gX11_shape_X11_in (by decide +kernel) rfl ⟨rfl, rfl⟩ ⟨Nat.le_of_ble_eq_true rfl, Nat.le_of_ble_eq_true rfl⟩ [] [0] 1 rfl (by decide) (fun jj : Unit => [oB h 11 (mO b v)]) (fun _ => rfl) (by decide) [h] rfl (fun _ => rfl) (fun _ => rfl) [oB h 11 (mO b v)] rfl (fun _ => rfl) rfl [] rfl (Nat.le_of_ble_eq_true rfl) ⟨Nat.le_refl _, Nat.le_refl _⟩ dX11_shape_59 ?_
              intro _ hu_6
              refine j_w [oB h 11 (mO b v)] rfl ?_
              refine j_st [.int (if wiB x5 1 6 then 1 else 0)] rfl ?_
              refine j_if_ne hX 68 dX11_shape_62 (by decide) (fun b_62 => ?_) (fun b_62 => ?_)
              · skip
                exact absurd ⟨wi_of b_6, four_of b_12 (wi_of b_22), wi_of b_31, wi_of b_41, wi_of b_51, wi_of b_62⟩ hF
              · skip
                refine j_bipush hX (-2) dX11_shape_65 (by decide) ?_
                refine j_pc 67 rfl ?_
                exact hret () trivial 67 _ .ireturn dX11_shape_67 rfl

set_option maxHeartbeats 4000000 in
set_option maxRecDepth 100000 in
/-- the reference: seed -/
theorem c_mseedT (l : Launch) (g : jG) (h : Nat) (b : Nat → Nat) (v : Nat → Int32) (sd : Nat → Int32) (w : Nat) (xh : Int64) (xw : Int64) (hw : w < 3) : jC l g yX11_seed wsX11_seed ({ frames := 1, cells := 0, slots := 0, locals := 22 } : Room) [.ref h, .int (nI w), .long xh, .long xw] [oB h 11 (mO b v), bA g (b 23) 48 sd] (fun jj : (Nat → Int32) => some (.int (nI 1))) (fun jj : (Nat → Int32) => jj = putL sd (16 * w) (Zl xh 8 ++ Zl xw 8)) (fun jj : (Nat → Int32) => [oB h 11 (mO b (upd v 24 (nI 0))), bA g (b 23) 48 jj]) := by
  refine jC.of (cc := cX11_seed) (own := RX11) (maxL := 9) (ret := (some .int)) (by decide +kernel) rfl rfl (Nat.le_of_ble_eq_true rfl) (fun u hu => ⟨_, rfl, rfl⟩) ?_
  intro p e s m below meth c A Q hX hret
  have in11 : ∀ w ∈ wsX110, w ∈ wsX11_seed := (fun w h => List.mem_cons_of_mem _ (List.mem_append_right _ h))
  refine j_iload_n hX 1 dX11_seed_0 rfl ?_
  refine j_iconst hX (0) dX11_seed_1 (by decide) ?_
  refine j_iconst hX (2) dX11_seed_2 (by decide) ?_
  refine j_callS2 hX 3 (c_in l g (nI w) 0 2 ) gX11_seed_X11_in (by decide +kernel) rfl ⟨rfl, rfl⟩ ⟨Nat.le_of_ble_eq_true rfl, Nat.le_of_ble_eq_true rfl⟩ [] [0, 1] 2 rfl (by decide) (fun jj : Unit => [oB h 11 (mO b v), bA g (b 23) 48 sd]) (fun _ => rfl) (by decide) [h, (b 23)] rfl (fun _ => rfl) (fun _ => rfl) [oB h 11 (mO b v), bA g (b 23) 48 sd] rfl (fun _ => rfl) rfl [] rfl (Nat.le_of_ble_eq_true rfl) ⟨Nat.le_refl _, Nat.le_refl _⟩ dX11_seed_3 ?_
  intro _ hu_1
  refine j_w [oB h 11 (mO b v), bA g (b 23) 48 sd] rfl ?_
  refine j_st [.int (if wiB (nI w) 0 2 then 1 else 0)] rfl ?_
  refine j_topeq _ (nI 1) (wiN 0 2 (by omega) (by omega) (by omega)) ?_
  refine j_if_neN hX 1 12 dX11_seed_6 (by decide) (by omega) (fun b_6 => ?_) (fun b_6 => absurd b_6 (by omega))
  refine j_iconst hX (0) dX11_seed_12 (by decide) ?_
  refine j_st [.int (nI 0)] rfl ?_
  refine j_istore hX [(6, .int (nI 0)), (0, .ref h), (1, .int (nI w)), (2, .long xh), (4, .long xw)] dX11_seed_13 (by decide) rfl ?_
  have lp_2 : ∀ (n_3 : Nat) (k : Nat) (F : Nat → Int32), (16 - k < n_3) → (k ≤ 16) → (F = putL sd (16 * w) ((Zl xh 8 ++ Zl xw 8).take k)) → J p l e ({ frames := 1, cells := 0, slots := 0, locals := 22 } : Room) s m ([.ref h, .int (nI w), .long xh, .long xw] : List Value).toArray below meth c g A 9 Q 0 0 [oB h 11 (mO b v), bA g (b 23) 48 F] [(0, .ref h), (1, .int (nI w)), (2, .long xh), (4, .long xw), (6, .int (nI k))] 15 [] := by
    intro n_3
    induction n_3 with
    | zero => intro k F hm; exact absurd hm (Nat.not_lt_zero _)
    | succ n_3 ih_4 =>
      intro k F hm hk hF
      refine j_pc 15 rfl ?_
      refine j_iload hX 4 dX11_seed_15 rfl ?_
      refine j_bipush hX (16) dX11_seed_17 (by decide) ?_
      refine j_icmp_geN hX k 16 77 dX11_seed_19 (by decide) (by omega) (by omega) (fun b_19 => ?_) (fun b_19 => ?_)
      · skip
        refine j_aload_n hX 0 dX11_seed_77 rfl ?_
        refine j_iconst hX (0) dX11_seed_78 (by decide) ?_
        refine j_st [.int (nI 0), .ref h] rfl ?_
        refine j_put hX (v := .int (nI 0)) (ty := .boolean) in11 tyX11 tyX11_ok nmX11 11 0 24 rfl rfl (by decide) (List.mem_of_getElem? (i := 2) rfl) rfl rfl rfl rfl rfl (Nat.le_of_ble_eq_true rfl) [oB h 11 (mO b (upd v 24 (nI 0))), bA g (b 23) 48 F] rfl dX11_seed_79 ?_
        refine j_iconst hX (1) dX11_seed_82 (by decide) ?_
        exact hret F (by rw [hF, show k = 16 by omega, List.take_of_length_le (by rw [told_len]; omega)]) 83 _ .ireturn dX11_seed_83 rfl
      · skip
        have jn_5 : ∀ (zz : Int64), (i8 zz.toInt32 = (Zl xh 8 ++ Zl xw 8).getD k 0) → J p l e ({ frames := 1, cells := 0, slots := 0, locals := 22 } : Room) s m ([.ref h, .int (nI w), .long xh, .long xw] : List Value).toArray below meth c g A 9 Q 0 0 [oB h 11 (mO b v), bA g (b 23) 48 F] [(0, .ref h), (1, .int (nI w)), (2, .long xh), (4, .long xw), (6, .int (nI k))] 53 [.long zz] := by
          intro zz hzz
          refine j_pc 53 rfl ?_
          refine j_lstore hX [(7, .long zz), (0, .ref h), (1, .int (nI w)), (2, .long xh), (4, .long xw), (6, .int (nI k))] dX11_seed_53 (by decide) rfl ?_
          refine j_aload_n hX 1 dX11_seed_55 rfl ?_
          refine j_get hX in11 11 0 23 (v := .ref (b 23)) rfl rfl (by decide) (List.mem_of_getElem? (i := 1) rfl) rfl rfl dX11_seed_56 ?_
          refine j_bipush hX (16) dX11_seed_59 (by decide) ?_
          refine j_iload_n hX 2 dX11_seed_61 rfl ?_
          refine j_imulN hX 16 w dX11_seed_62 ?_
          refine j_iload hX 5 dX11_seed_63 rfl ?_
          refine j_iaddN hX (16 * w) k dX11_seed_65 ?_
          refine j_pc 66 rfl ?_
          refine j_lload hX 0 dX11_seed_66 rfl ?_
          refine j_l2i hX dX11_seed_68 ?_
          refine j_i2b hX dX11_seed_69 ?_
          refine j_bast8 hX 1 ((16 * w) + k) rfl (by omega) (by omega) [oB h 11 (mO b v), bA g (b 23) 48 (upd F ((16 * w) + k) (i8 zz.toInt32))] rfl dX11_seed_70 ?_
          refine j_iincN hX k (k + 1) [(6, .int (nI (k + 1))), (7, .long zz), (0, .ref h), (1, .int (nI w)), (2, .long xh), (4, .long xw)] 5 dX11_seed_71 rfl (nI_1 _) (by decide) rfl ?_
          refine j_goto hX 15 dX11_seed_74 (by decide) ?_
          refine j_perm [(0, .ref h), (1, .int (nI w)), (2, .long xh), (4, .long xw), (6, .int (nI (k + 1)))] [2, 3, 4, 5, 0] rfl ?_
          exact ih_4 (k + 1) (upd F ((16 * w) + k) (i8 zz.toInt32)) (by omega) (by omega) (take_put2 hF (by rw [told_len]; omega) hzz)
        refine j_iload hX 4 dX11_seed_22 rfl ?_
        refine j_bipush hX (8) dX11_seed_24 (by decide) ?_
        refine j_pc 26 rfl ?_
        refine j_icmp_geN hX k 8 42 dX11_seed_26 (by decide) (by omega) (by omega) (fun b_26 => ?_) (fun b_26 => ?_)
        · skip
          refine j_lload hX 3 dX11_seed_42 rfl ?_
          refine j_bipush hX (120) dX11_seed_44 (by decide) ?_
          refine j_bipush hX (8) dX11_seed_46 (by decide) ?_
          refine j_iload hX 4 dX11_seed_48 rfl ?_
          refine j_imulN hX 8 k dX11_seed_50 ?_
          refine j_isubN hX 120 (8 * k) (by omega) dX11_seed_51 ?_
          refine j_lshr hX dX11_seed_52 ?_
          exact jn_5 (lshr xw (nI (120 - (8 * k)))) (by rw [told_get _ _ (by omega)]; first | (rw [if_pos (by omega)]) | (rw [if_neg (by omega)]))
        · skip
          refine j_pc 29 rfl ?_
          refine j_lload_n hX 2 dX11_seed_29 rfl ?_
          refine j_bipush hX (56) dX11_seed_30 (by decide) ?_
          refine j_bipush hX (8) dX11_seed_32 (by decide) ?_
          refine j_iload hX 4 dX11_seed_34 rfl ?_
          refine j_imulN hX 8 k dX11_seed_36 ?_
          refine j_isubN hX 56 (8 * k) (by omega) dX11_seed_37 ?_
          refine j_lshr hX dX11_seed_38 ?_
          refine j_goto hX 53 dX11_seed_39 (by decide) ?_
          exact jn_5 (lshr xh (nI (56 - (8 * k)))) (by rw [told_get _ _ (by omega)]; first | (rw [if_pos (by omega)]) | (rw [if_neg (by omega)]))
  refine j_perm [(0, .ref h), (1, .int (nI w)), (2, .long xh), (4, .long xw), (6, .int (nI 0))] [1, 2, 3, 4, 0] rfl ?_
  exact lp_2 _ 0 sd (Nat.lt_succ_self _) (by omega) (by rw [List.take_zero, putL_nil])

set_option maxHeartbeats 4000000 in
set_option maxRecDepth 100000 in
/-- the reference: seed, outside -/
theorem c_mseedF (l : Launch) (g : jG) (h : Nat) (b : Nat → Nat) (v : Nat → Int32) (xk : Int32) (xh : Int64) (xw : Int64) (hF : xk < 0 ∨ 3 ≤ xk) : jC l g yX11_seed wsX11_seed ({ frames := 1, cells := 0, slots := 0, locals := 22 } : Room) [.ref h, .int xk, .long xh, .long xw] [oB h 11 (mO b v)] (fun jj : Unit => some (.int (-2))) (fun jj : Unit => True) (fun jj : Unit => [oB h 11 (mO b v)]) := by
  refine jC.of (cc := cX11_seed) (own := RX11) (maxL := 9) (ret := (some .int)) (by decide +kernel) rfl rfl (Nat.le_of_ble_eq_true rfl) (fun u hu => ⟨_, rfl, rfl⟩) ?_
  intro p e s m below meth c A Q hX hret
  refine j_iload_n hX 1 dX11_seed_0 rfl ?_
  refine j_iconst hX (0) dX11_seed_1 (by decide) ?_
  refine j_iconst hX (2) dX11_seed_2 (by decide) ?_
  refine j_callS2 hX 3 (c_in l g xk 0 2 ) gX11_seed_X11_in (by decide +kernel) rfl ⟨rfl, rfl⟩ ⟨Nat.le_of_ble_eq_true rfl, Nat.le_of_ble_eq_true rfl⟩ [] [0] 1 rfl (by decide) (fun jj : Unit => [oB h 11 (mO b v)]) (fun _ => rfl) (by decide) [h] rfl (fun _ => rfl) (fun _ => rfl) [oB h 11 (mO b v)] rfl (fun _ => rfl) rfl [] rfl (Nat.le_of_ble_eq_true rfl) ⟨Nat.le_refl _, Nat.le_refl _⟩ dX11_seed_3 ?_
  intro _ hu_1
  refine j_w [oB h 11 (mO b v)] rfl ?_
  refine j_st [.int (if wiB xk 0 2 then 1 else 0)] rfl ?_
  refine j_if_ne hX 12 dX11_seed_6 (by decide) (fun b_6 => absurd b_6 (fun hh => by rcases hF with h | h; exact absurd h (Int32.not_lt.mpr (wi_and (wi_of hh)).1); exact absurd (Int32.le_trans h (wi_and (wi_of hh)).2) (by decide))) (fun b_6 => ?_)
  refine j_bipush hX (-2) dX11_seed_9 (by decide) ?_
  exact hret () trivial 11 _ .ireturn dX11_seed_11 rfl

set_option maxHeartbeats 4000000 in
set_option maxRecDepth 100000 in
/-- the reference: key -/
theorem c_mkey (l : Launch) (g : jG) (h : Nat) (b : Nat → Nat) (v : Nat → Int32) (n0 : Nat) (f : Nat → Int32) (dg : Nat → Int32) (w0 : Nat → Int32) (S0 : Nat → Int32) (fs : Nat → Int32) (rt : Nat → Int32) (A0 : Nat → Int64) (T0 : Nat → Int64) (U0 : Nat → Int64) (tn : Nat → Int32) (sd : Nat → Int32) (e0 : Nat → Int32) (nd : Nat → Int32) (ro : Nat → Int32) (fm : Nat) (nn : Nat) (ht : Nat) (lys : Nat) (fa : Nat) (mk : Nat) (hfs : ∀ j, j < 8 → fs j = s_first.getD j 0) (hrt : ∀ j, j < 64 → rt j = s_cube.getD j 0) (htn : ∀ k, k < 25 → tn k = s_turns.getD k 0) (hv3 : v 3 = nI n0) (hn0 : n0 ≤ 1400) (hB : isB sd) (hEB : isB e0) (hNB : isB nd) (hRoB : isB ro) (hv15 : v 15 = nI fm) (hv16 : v 16 = nI nn) (hv17 : v 17 = nI ht) (hv18 : v 18 = nI lys) (hv21 : v 21 = nI (ln nn)) (hfm : fm < 2) (hnn4 : nn = 4 ∨ nn = 8 ∨ nn = 12 ∨ nn = 16) (hht : 1 ≤ ht ∧ ht ≤ 2) (hlys : 1 ≤ lys ∧ lys ≤ 2) (hfa : 1 ≤ fa ∧ fa ≤ 4) (hmk : 1 ≤ mk ∧ mk ≤ 6) : jC l g yX11_key wsX11_key ({ frames := 8, cells := 0, slots := 0, locals := 193 } : Room) [.ref h] [oB h 11 (mO b v), bA g (b 2) 1400 f, bA g (b 4) 32 dg, iA g (b 5) 64 w0, iA g (b 6) 8 S0, iA g (b 7) 8 fs, iA g (b 8) 64 rt, lA g (b 9) 25 A0, lA g (b 10) 25 T0, lA g (b 11) 5 U0, iA g (b 12) 25 tn, bA g (b 23) 48 sd, bA g (b 30) 560 e0, bA g (b 31) 112 nd, bA g (b 32) 16 ro] (fun jj : (Nat → Int32) × (Nat → Int32) × (Nat → Int64) × (Nat → Int64) × (Nat → Int64) × Nat × (Nat → Int32) × (Nat → Int32) × (Nat → Int32) × (Nat → Int32) × (Nat → Int32) => some (.int (nI 1))) (fun jj : (Nat → Int32) × (Nat → Int32) × (Nat → Int64) × (Nat → Int64) × (Nat → Int64) × Nat × (Nat → Int32) × (Nat → Int32) × (Nat → Int32) × (Nat → Int32) × (Nat → Int32) => jj.2.2.2.2.2.1 ≤ 1400 ∧ isB jj.2.2.2.2.2.2.2.2.1 ∧ isB jj.2.2.2.2.2.2.2.2.2.1 ∧ jj.2.2.2.2.2.2.2.2.2.2 = putL ro 0 (ND fm nn sd (lys - 1) 0 ht 0)) (fun jj : (Nat → Int32) × (Nat → Int32) × (Nat → Int64) × (Nat → Int64) × (Nat → Int64) × Nat × (Nat → Int32) × (Nat → Int32) × (Nat → Int32) × (Nat → Int32) × (Nat → Int32) => [oB h 11 (mO b (upd (upd (upd (upd v 3 (nI jj.2.2.2.2.2.1)) 27 (nI (lys - 1))) 28 (nI 0)) 24 (nI 1))), bA g (b 2) 1400 jj.2.2.2.2.2.2.1, bA g (b 4) 32 jj.2.2.2.2.2.2.2.1, iA g (b 5) 64 jj.1, iA g (b 6) 8 jj.2.1, iA g (b 7) 8 fs, iA g (b 8) 64 rt, lA g (b 9) 25 jj.2.2.1, lA g (b 10) 25 jj.2.2.2.1, lA g (b 11) 5 jj.2.2.2.2.1, iA g (b 12) 25 tn, bA g (b 23) 48 sd, bA g (b 30) 560 jj.2.2.2.2.2.2.2.2.1, bA g (b 31) 112 jj.2.2.2.2.2.2.2.2.2.1, bA g (b 32) 16 jj.2.2.2.2.2.2.2.2.2.2]) := by
  refine jC.of (cc := cX11_key) (own := RX11) (maxL := 2) (ret := (some .int)) (by decide +kernel) rfl rfl (Nat.le_of_ble_eq_true rfl) (fun u hu => ⟨_, rfl, rfl⟩) ?_
  intro p e s m below meth c A Q hX hret
  have in11 : ∀ w ∈ wsX110, w ∈ wsX11_key := (fun w h => List.mem_cons_of_mem _ (List.mem_append_right _ h))
  have hnn : nn ≤ 16 := by omega
  have hp4 := pow4 hht.2
  have hcc0 := bfr_cap (h := ht) (z := ht) (i := 0) (Nat.le_refl _) (Nat.two_pow_pos _)
  refine j_w [oB h 11 (mO b (upd v 3 (nI n0))), bA g (b 2) 1400 f, bA g (b 4) 32 dg, iA g (b 5) 64 w0, iA g (b 6) 8 S0, iA g (b 7) 8 fs, iA g (b 8) 64 rt, lA g (b 9) 25 A0, lA g (b 10) 25 T0, lA g (b 11) 5 U0, iA g (b 12) 25 tn, bA g (b 23) 48 sd, bA g (b 30) 560 e0, bA g (b 31) 112 nd, bA g (b 32) 16 ro] (by rw [updS (hv3 : (v : Nat → Int32) 3 = nI n0)]) ?_
  refine j_aload_n hX 0 dX11_key_0 rfl ?_
  refine j_aload_n hX 0 dX11_key_1 rfl ?_
  refine j_gete hX (nI lys) in11 11 0 18 rfl rfl (by decide) (List.mem_of_getElem? (i := 1) rfl) rfl rfl hv18 dX11_key_2 ?_
  refine j_iconst hX (1) dX11_key_5 (by decide) ?_
  refine j_isubN hX lys 1 (by omega) dX11_key_6 ?_
  refine j_put hX (v := .int (nI (lys - 1))) (ty := .int) in11 tyX11 tyX11_ok nmX11 11 0 27 rfl rfl (by decide) (List.mem_of_getElem? (i := 2) rfl) rfl rfl rfl rfl rfl (Nat.le_of_ble_eq_true rfl) [oB h 11 (mO b (upd (upd v 3 (nI n0)) 27 (nI (lys - 1)))), bA g (b 2) 1400 f, bA g (b 4) 32 dg, iA g (b 5) 64 w0, iA g (b 6) 8 S0, iA g (b 7) 8 fs, iA g (b 8) 64 rt, lA g (b 9) 25 A0, lA g (b 10) 25 T0, lA g (b 11) 5 U0, iA g (b 12) 25 tn, bA g (b 23) 48 sd, bA g (b 30) 560 e0, bA g (b 31) 112 nd, bA g (b 32) 16 ro] rfl dX11_key_7 ?_
  refine j_aload_n hX 0 dX11_key_10 rfl ?_
  refine j_pc 11 rfl ?_
  refine j_iconst hX (0) dX11_key_11 (by decide) ?_
  refine j_st [.int (nI 0), .ref h] rfl ?_
  refine j_put hX (v := .int (nI 0)) (ty := .int) in11 tyX11 tyX11_ok nmX11 11 0 28 rfl rfl (by decide) (List.mem_of_getElem? (i := 3) rfl) rfl rfl rfl rfl rfl (Nat.le_of_ble_eq_true rfl) [oB h 11 (mO b (upd (upd (upd v 3 (nI n0)) 27 (nI (lys - 1))) 28 (nI 0))), bA g (b 2) 1400 f, bA g (b 4) 32 dg, iA g (b 5) 64 w0, iA g (b 6) 8 S0, iA g (b 7) 8 fs, iA g (b 8) 64 rt, lA g (b 9) 25 A0, lA g (b 10) 25 T0, lA g (b 11) 5 U0, iA g (b 12) 25 tn, bA g (b 23) 48 sd, bA g (b 30) 560 e0, bA g (b 31) 112 nd, bA g (b 32) 16 ro] rfl dX11_key_12 ?_
  refine j_aload_n hX 0 dX11_key_15 rfl ?_
  refine j_callV2 hX 0 (c_grow l g h b (upd (upd (upd v 3 (nI n0)) 27 (nI (lys - 1))) 28 (nI 0)) n0 f dg w0 S0 fs rt A0 T0 U0 tn sd fm nn (lys - 1) 0 ht e0 nd hv15 hv16 rfl rfl (by omega) (by omega) hB hfs hrt htn rfl (by omega) hv21 hv17 (by omega) hEB hNB) gX11_key_X11_grow (by decide +kernel) rfl ⟨rfl, rfl⟩ ⟨Nat.le_of_ble_eq_true rfl, Nat.le_of_ble_eq_true rfl⟩ 11 0 rfl rfl [0, 1, 2, 3, 4, 5, 6, 7, 8, 9, 10, 11, 12, 13] [14] 15 rfl (by decide) (fun jj : (Nat → Int32) × (Nat → Int32) × (Nat → Int64) × (Nat → Int64) × (Nat → Int64) × Nat × (Nat → Int32) × (Nat → Int32) × (Nat → Int32) × (Nat → Int32) => [oB h 11 (mO b (upd (upd (upd v 3 (nI jj.2.2.2.2.2.1)) 27 (nI (lys - 1))) 28 (nI 0))), bA g (b 2) 1400 jj.2.2.2.2.2.2.1, bA g (b 4) 32 jj.2.2.2.2.2.2.2.1, iA g (b 5) 64 jj.1, iA g (b 6) 8 jj.2.1, iA g (b 7) 8 fs, iA g (b 8) 64 rt, lA g (b 9) 25 jj.2.2.1, lA g (b 10) 25 jj.2.2.2.1, lA g (b 11) 5 jj.2.2.2.2.1, iA g (b 12) 25 tn, bA g (b 23) 48 sd, bA g (b 30) 560 jj.2.2.2.2.2.2.2.2.1, bA g (b 31) 112 jj.2.2.2.2.2.2.2.2.2, bA g (b 32) 16 ro]) (fun _ => rfl) (by decide) [h, (b 2), (b 4), (b 5), (b 6), (b 7), (b 8), (b 9), (b 10), (b 11), (b 12), (b 23), (b 30), (b 31), (b 32)] rfl (fun _ => rfl) (fun _ => rfl) [bA g (b 32) 16 ro] rfl (fun _ => rfl) rfl [] rfl (Nat.le_of_ble_eq_true rfl) ⟨Nat.le_refl _, Nat.le_refl _⟩ dX11_key_16 ?_
  rintro ⟨w5, S5, A5, T5, U5, nl5, G5, FO5, E5, N5⟩ hG
  try dsimp only at hG
  refine j_w [oB h 11 (mO b (upd (upd (upd v 3 (nI nl5)) 27 (nI (lys - 1))) 28 (nI 0))), bA g (b 2) 1400 G5, bA g (b 4) 32 FO5, iA g (b 5) 64 w5, iA g (b 6) 8 S5, iA g (b 7) 8 fs, iA g (b 8) 64 rt, lA g (b 9) 25 A5, lA g (b 10) 25 T5, lA g (b 11) 5 U5, iA g (b 12) 25 tn, bA g (b 23) 48 sd, bA g (b 30) 560 E5, bA g (b 31) 112 N5, bA g (b 32) 16 ro] rfl ?_
  refine j_st [] rfl ?_
  refine j_iconst hX (0) dX11_key_19 (by decide) ?_
  refine j_st [.int (nI 0)] rfl ?_
  refine j_istore_n hX 1 [(1, .int (nI 0)), (0, .ref h)] dX11_key_20 rfl (by decide) rfl ?_
  have lp_1 : ∀ (n_2 : Nat) (k : Nat) (R1 : Nat → Int32), (nn - k < n_2) → (k ≤ nn) → (R1 = putL ro 0 (slice N5 (16 * (bfr ht ht + 0)) k)) → J p l e ({ frames := 8, cells := 0, slots := 0, locals := 193 } : Room) s m ([.ref h] : List Value).toArray below meth c g A 2 Q 0 0 [oB h 11 (mO b (upd (upd (upd v 3 (nI nl5)) 27 (nI (lys - 1))) 28 (nI 0))), bA g (b 2) 1400 G5, bA g (b 4) 32 FO5, iA g (b 5) 64 w5, iA g (b 6) 8 S5, iA g (b 7) 8 fs, iA g (b 8) 64 rt, lA g (b 9) 25 A5, lA g (b 10) 25 T5, lA g (b 11) 5 U5, iA g (b 12) 25 tn, bA g (b 23) 48 sd, bA g (b 30) 560 E5, bA g (b 31) 112 N5, bA g (b 32) 16 R1] [(0, .ref h), (1, .int (nI k))] 21 [] := by
    intro n_2
    induction n_2 with
    | zero => intro k R1 hm; exact absurd hm (Nat.not_lt_zero _)
    | succ n_2 ih_3 =>
      intro k R1 hm hk hF
      refine j_iload_n hX 1 dX11_key_21 rfl ?_
      refine j_aload_n hX 0 dX11_key_22 rfl ?_
      refine j_pc 23 rfl ?_
      refine j_gete hX (nI nn) in11 11 0 16 rfl rfl (by decide) (List.mem_of_getElem? (i := 4) rfl) rfl rfl hv16 dX11_key_23 ?_
      refine j_icmp_geN hX k nn 57 dX11_key_26 (by decide) (by omega) (by omega) (fun b_26 => ?_) (fun b_26 => ?_)
      · skip
        refine j_aload_n hX 0 dX11_key_57 rfl ?_
        refine j_iconst hX (1) dX11_key_58 (by decide) ?_
        refine j_st [.int (nI 1), .ref h] rfl ?_
        refine j_put hX (v := .int (nI 1)) (ty := .boolean) in11 tyX11 tyX11_ok nmX11 11 0 24 rfl rfl (by decide) (List.mem_of_getElem? (i := 8) rfl) rfl rfl rfl rfl rfl (Nat.le_of_ble_eq_true rfl) [oB h 11 (mO b (upd (upd (upd (upd v 3 (nI nl5)) 27 (nI (lys - 1))) 28 (nI 0)) 24 (nI 1))), bA g (b 2) 1400 G5, bA g (b 4) 32 FO5, iA g (b 5) 64 w5, iA g (b 6) 8 S5, iA g (b 7) 8 fs, iA g (b 8) 64 rt, lA g (b 9) 25 A5, lA g (b 10) 25 T5, lA g (b 11) 5 U5, iA g (b 12) 25 tn, bA g (b 23) 48 sd, bA g (b 30) 560 E5, bA g (b 31) 112 N5, bA g (b 32) 16 R1] rfl dX11_key_59 ?_
        refine j_iconst hX (1) dX11_key_62 (by decide) ?_
        exact hret (w5, S5, A5, T5, U5, nl5, G5, FO5, E5, N5, R1) (by dsimp only; exact ⟨hG.1, hG.2.1, hG.2.2.1, by rw [hF, show k = nn by omega, hG.2.2.2 ht 0 (Nat.le_refl _) (by rw [Nat.sub_self]; decide)]⟩) 63 _ .ireturn dX11_key_63 rfl
      · skip
        refine j_aload_n hX 0 dX11_key_29 rfl ?_
        refine j_pc 30 rfl ?_
        refine j_get hX in11 11 0 32 (v := .ref (b 32)) rfl rfl (by decide) (List.mem_of_getElem? (i := 5) rfl) rfl rfl dX11_key_30 ?_
        refine j_iload_n hX 1 dX11_key_33 rfl ?_
        refine j_aload_n hX 0 dX11_key_34 rfl ?_
        refine j_get hX in11 11 0 31 (v := .ref (b 31)) rfl rfl (by decide) (List.mem_of_getElem? (i := 6) rfl) rfl rfl dX11_key_35 ?_
        refine j_aload_n hX 0 dX11_key_38 rfl ?_
        refine j_aload_n hX 0 dX11_key_39 rfl ?_
        refine j_gete hX (nI ht) in11 11 0 17 rfl rfl (by decide) (List.mem_of_getElem? (i := 7) rfl) rfl rfl hv17 dX11_key_40 ?_
        refine j_iconst hX (0) dX11_key_43 (by decide) ?_
        refine j_pc 44 rfl ?_
        refine j_callV2 hX 2 (c_nodeAt l g h b (upd (upd (upd v 3 (nI nl5)) 27 (nI (lys - 1))) 28 (nI 0)) ht ht 0 hv17 (by omega) (by omega)) gX11_key_X11_nodeAt (by decide +kernel) rfl ⟨rfl, rfl⟩ ⟨Nat.le_of_ble_eq_true rfl, Nat.le_of_ble_eq_true rfl⟩ 11 0 rfl rfl [0] [1, 2, 3, 4, 5, 6, 7, 8, 9, 10, 11, 12, 13, 14] 15 rfl (by decide) (fun jj : Unit => [oB h 11 (mO b (upd (upd (upd v 3 (nI nl5)) 27 (nI (lys - 1))) 28 (nI 0))), bA g (b 2) 1400 G5, bA g (b 4) 32 FO5, iA g (b 5) 64 w5, iA g (b 6) 8 S5, iA g (b 7) 8 fs, iA g (b 8) 64 rt, lA g (b 9) 25 A5, lA g (b 10) 25 T5, lA g (b 11) 5 U5, iA g (b 12) 25 tn, bA g (b 23) 48 sd, bA g (b 30) 560 E5, bA g (b 31) 112 N5, bA g (b 32) 16 R1]) (fun _ => rfl) (by decide) [h, (b 2), (b 4), (b 5), (b 6), (b 7), (b 8), (b 9), (b 10), (b 11), (b 12), (b 23), (b 30), (b 31), (b 32)] rfl (fun _ => rfl) (fun _ => rfl) [bA g (b 2) 1400 G5, bA g (b 4) 32 FO5, iA g (b 5) 64 w5, iA g (b 6) 8 S5, iA g (b 7) 8 fs, iA g (b 8) 64 rt, lA g (b 9) 25 A5, lA g (b 10) 25 T5, lA g (b 11) 5 U5, iA g (b 12) 25 tn, bA g (b 23) 48 sd, bA g (b 30) 560 E5, bA g (b 31) 112 N5, bA g (b 32) 16 R1] rfl (fun _ => rfl) rfl [.ref (b 31), .int (nI k), .ref (b 32)] rfl (Nat.le_of_ble_eq_true rfl) ⟨Nat.le_refl _, Nat.le_refl _⟩ dX11_key_44 ?_
        intro _ hu_4
        refine j_w [oB h 11 (mO b (upd (upd (upd v 3 (nI nl5)) 27 (nI (lys - 1))) 28 (nI 0))), bA g (b 2) 1400 G5, bA g (b 4) 32 FO5, iA g (b 5) 64 w5, iA g (b 6) 8 S5, iA g (b 7) 8 fs, iA g (b 8) 64 rt, lA g (b 9) 25 A5, lA g (b 10) 25 T5, lA g (b 11) 5 U5, iA g (b 12) 25 tn, bA g (b 23) 48 sd, bA g (b 30) 560 E5, bA g (b 31) 112 N5, bA g (b 32) 16 R1] rfl ?_
        refine j_st [.int (nI (16 * (bfr ht ht + 0))), .ref (b 31), .int (nI k), .ref (b 32)] rfl ?_
        refine j_iload_n hX 1 dX11_key_47 rfl ?_
        refine j_iaddN hX (16 * (bfr ht ht + 0)) k dX11_key_48 ?_
        refine j_baldN hX 13 ((16 * (bfr ht ht + 0)) + k) rfl (by omega) (by omega) dX11_key_49 ?_
        refine j_bastN hX 14 k rfl (by omega) (by omega) [oB h 11 (mO b (upd (upd (upd v 3 (nI nl5)) 27 (nI (lys - 1))) 28 (nI 0))), bA g (b 2) 1400 G5, bA g (b 4) 32 FO5, iA g (b 5) 64 w5, iA g (b 6) 8 S5, iA g (b 7) 8 fs, iA g (b 8) 64 rt, lA g (b 9) 25 A5, lA g (b 10) 25 T5, lA g (b 11) 5 U5, iA g (b 12) 25 tn, bA g (b 23) 48 sd, bA g (b 30) 560 E5, bA g (b 31) 112 N5, bA g (b 32) 16 (upd R1 k (i8 (N5 ((16 * (bfr ht ht + 0)) + k))))] rfl dX11_key_50 ?_
        refine j_iincN hX k (k + 1) [(1, .int (nI (k + 1))), (0, .ref h)] 1 dX11_key_51 rfl (nI_1 _) (by decide) rfl ?_
        refine j_goto hX 21 dX11_key_54 (by decide) ?_
        refine j_perm [(0, .ref h), (1, .int (nI (k + 1)))] [1, 0] rfl ?_
        exact ih_3 (k + 1) (upd R1 k (i8 (N5 ((16 * (bfr ht ht + 0)) + k)))) (by omega) (by omega) (by have h9 := slice_put_step hG.2.2.1 hF; rw [Nat.zero_add] at h9; exact h9)
  refine j_perm [(0, .ref h), (1, .int (nI 0))] [1, 0] rfl ?_
  exact lp_1 _ 0 ro (Nat.lt_succ_self _) (by omega) (by rw [slice_zero, putL_nil])

set_option maxHeartbeats 4000000 in
set_option maxRecDepth 100000 in
/-- the reference: leaf -/
theorem c_mleafT (l : Launch) (g : jG) (h : Nat) (b : Nat → Nat) (v : Nat → Int32) (n0 : Nat) (f : Nat → Int32) (dg : Nat → Int32) (w0 : Nat → Int32) (S0 : Nat → Int32) (fs : Nat → Int32) (rt : Nat → Int32) (A0 : Nat → Int64) (T0 : Nat → Int64) (U0 : Nat → Int64) (tn : Nat → Int32) (sd : Nat → Int32) (e0 : Nat → Int32) (rw : Nat → Int32) (fm : Nat) (nn : Nat) (ht : Nat) (lys : Nat) (fa : Nat) (mk : Nat) (ly : Nat) (tr : Nat) (u : Nat) (i : Nat) (hfs : ∀ j, j < 8 → fs j = s_first.getD j 0) (hrt : ∀ j, j < 64 → rt j = s_cube.getD j 0) (htn : ∀ k, k < 25 → tn k = s_turns.getD k 0) (hv3 : v 3 = nI n0) (hn0 : n0 ≤ 1400) (hB : isB sd) (hEB : isB e0) (hRwB : isB rw) (hv15 : v 15 = nI fm) (hv16 : v 16 = nI nn) (hv17 : v 17 = nI ht) (hv18 : v 18 = nI lys) (hv21 : v 21 = nI (ln nn)) (hfm : fm < 2) (hnn4 : nn = 4 ∨ nn = 8 ∨ nn = 12 ∨ nn = 16) (hht : 1 ≤ ht ∧ ht ≤ 2) (hlys : 1 ≤ lys ∧ lys ≤ 2) (hfa : 1 ≤ fa ∧ fa ≤ 4) (hmk : 1 ≤ mk ∧ mk ≤ 6) (hly : ly < lys) (htr : tr < (if ly + 1 = lys then 1 else 2 ^ ht)) (hu : u < 2 ^ ht) (hi : i < nn) : jC l g yX11_leaf wsX11_leaf ({ frames := 7, cells := 0, slots := 0, locals := 171 } : Room) [.ref h, .int (nI ly), .int (nI tr), .int (nI u), .int (nI i)] [oB h 11 (mO b v), bA g (b 2) 1400 f, bA g (b 4) 32 dg, iA g (b 5) 64 w0, iA g (b 6) 8 S0, iA g (b 7) 8 fs, iA g (b 8) 64 rt, lA g (b 9) 25 A0, lA g (b 10) 25 T0, lA g (b 11) 5 U0, iA g (b 12) 25 tn, bA g (b 23) 48 sd, bA g (b 30) 560 e0, bA g (b 41) 16 rw] (fun jj : (Nat → Int32) × (Nat → Int32) × (Nat → Int64) × (Nat → Int64) × (Nat → Int64) × Nat × (Nat → Int32) × (Nat → Int32) × (Nat → Int32) × (Nat → Int32) => some (.int ((LF fm nn sd ly tr u).getD i 0 &&& 255))) (fun jj : (Nat → Int32) × (Nat → Int32) × (Nat → Int64) × (Nat → Int64) × (Nat → Int64) × Nat × (Nat → Int32) × (Nat → Int32) × (Nat → Int32) × (Nat → Int32) => jj.2.2.2.2.2.1 ≤ 1400 ∧ isB jj.2.2.2.2.2.2.2.2.1 ∧ isB jj.2.2.2.2.2.2.2.2.2) (fun jj : (Nat → Int32) × (Nat → Int32) × (Nat → Int64) × (Nat → Int64) × (Nat → Int64) × Nat × (Nat → Int32) × (Nat → Int32) × (Nat → Int32) × (Nat → Int32) => [oB h 11 (mO b (upd (upd (upd v 3 (nI jj.2.2.2.2.2.1)) 27 (nI ly)) 28 (nI tr))), bA g (b 2) 1400 jj.2.2.2.2.2.2.1, bA g (b 4) 32 jj.2.2.2.2.2.2.2.1, iA g (b 5) 64 jj.1, iA g (b 6) 8 jj.2.1, iA g (b 7) 8 fs, iA g (b 8) 64 rt, lA g (b 9) 25 jj.2.2.1, lA g (b 10) 25 jj.2.2.2.1, lA g (b 11) 5 jj.2.2.2.2.1, iA g (b 12) 25 tn, bA g (b 23) 48 sd, bA g (b 30) 560 jj.2.2.2.2.2.2.2.2.1, bA g (b 41) 16 jj.2.2.2.2.2.2.2.2.2]) := by
  refine jC.of (cc := cX11_leaf) (own := RX11) (maxL := 5) (ret := (some .int)) (by decide +kernel) rfl rfl (Nat.le_of_ble_eq_true rfl) (fun u hu => ⟨_, rfl, rfl⟩) ?_
  intro p e s m below meth c A Q hX hret
  have in11 : ∀ w ∈ wsX110, w ∈ wsX11_leaf := (fun w h => List.mem_cons_of_mem _ (List.mem_append_right _ h))
  have hp4 := pow4 hht.2
  have hq2 := Nat.two_pow_pos ht
  have hnn : nn ≤ 16 := by omega
  refine j_w [oB h 11 (mO b (upd v 3 (nI n0))), bA g (b 2) 1400 f, bA g (b 4) 32 dg, iA g (b 5) 64 w0, iA g (b 6) 8 S0, iA g (b 7) 8 fs, iA g (b 8) 64 rt, lA g (b 9) 25 A0, lA g (b 10) 25 T0, lA g (b 11) 5 U0, iA g (b 12) 25 tn, bA g (b 23) 48 sd, bA g (b 30) 560 e0, bA g (b 41) 16 rw] (by rw [updS (hv3 : (v : Nat → Int32) 3 = nI n0)]) ?_
  refine j_iload_n hX 1 dX11_leaf_0 rfl ?_
  refine j_iconst hX (0) dX11_leaf_1 (by decide) ?_
  refine j_aload_n hX 0 dX11_leaf_2 rfl ?_
  refine j_gete hX (nI lys) in11 11 0 18 rfl rfl (by decide) (List.mem_of_getElem? (i := 1) rfl) rfl rfl hv18 dX11_leaf_3 ?_
  refine j_iconst hX (1) dX11_leaf_6 (by decide) ?_
  refine j_isubN hX lys 1 (by omega) dX11_leaf_7 ?_
  refine j_callS2 hX 3 (c_in l g (nI ly) 0 (nI (lys - 1)) ) gX11_leaf_X11_in (by decide +kernel) rfl ⟨rfl, rfl⟩ ⟨Nat.le_of_ble_eq_true rfl, Nat.le_of_ble_eq_true rfl⟩ [] [0, 1, 2, 3, 4, 5, 6, 7, 8, 9, 10, 11, 12, 13] 14 rfl (by decide) (fun jj : Unit => [oB h 11 (mO b (upd v 3 (nI n0))), bA g (b 2) 1400 f, bA g (b 4) 32 dg, iA g (b 5) 64 w0, iA g (b 6) 8 S0, iA g (b 7) 8 fs, iA g (b 8) 64 rt, lA g (b 9) 25 A0, lA g (b 10) 25 T0, lA g (b 11) 5 U0, iA g (b 12) 25 tn, bA g (b 23) 48 sd, bA g (b 30) 560 e0, bA g (b 41) 16 rw]) (fun _ => rfl) (by decide) [h, (b 2), (b 4), (b 5), (b 6), (b 7), (b 8), (b 9), (b 10), (b 11), (b 12), (b 23), (b 30), (b 41)] rfl (fun _ => rfl) (fun _ => rfl) [oB h 11 (mO b (upd v 3 (nI n0))), bA g (b 2) 1400 f, bA g (b 4) 32 dg, iA g (b 5) 64 w0, iA g (b 6) 8 S0, iA g (b 7) 8 fs, iA g (b 8) 64 rt, lA g (b 9) 25 A0, lA g (b 10) 25 T0, lA g (b 11) 5 U0, iA g (b 12) 25 tn, bA g (b 23) 48 sd, bA g (b 30) 560 e0, bA g (b 41) 16 rw] rfl (fun _ => rfl) rfl [] rfl (Nat.le_of_ble_eq_true rfl) ⟨Nat.le_refl _, Nat.le_refl _⟩ dX11_leaf_8 ?_
  intro _ hu_1
  refine j_w [oB h 11 (mO b (upd v 3 (nI n0))), bA g (b 2) 1400 f, bA g (b 4) 32 dg, iA g (b 5) 64 w0, iA g (b 6) 8 S0, iA g (b 7) 8 fs, iA g (b 8) 64 rt, lA g (b 9) 25 A0, lA g (b 10) 25 T0, lA g (b 11) 5 U0, iA g (b 12) 25 tn, bA g (b 23) 48 sd, bA g (b 30) 560 e0, bA g (b 41) 16 rw] rfl ?_
  refine j_st [.int (if wiB (nI ly) 0 (nI (lys - 1)) then 1 else 0)] rfl ?_
  refine j_topeq _ (nI 1) (wiN 0 (lys - 1) (by omega) (by omega) (by omega)) ?_
  refine j_pc 11 rfl ?_
  refine j_if_eqN hX 1 60 dX11_leaf_11 (by decide) (by omega) (fun b_11 => absurd b_11 (by omega)) (fun b_11 => ?_)
  refine j_iload_n hX 2 dX11_leaf_14 rfl ?_
  refine j_iconst hX (0) dX11_leaf_15 (by decide) ?_
  refine j_iload_n hX 1 dX11_leaf_16 rfl ?_
  refine j_aload_n hX 0 dX11_leaf_17 rfl ?_
  refine j_gete hX (nI lys) in11 11 0 18 rfl rfl (by decide) (List.mem_of_getElem? (i := 1) rfl) rfl rfl hv18 dX11_leaf_18 ?_
  refine j_iconst hX (1) dX11_leaf_21 (by decide) ?_
  refine j_isubN hX lys 1 (by omega) dX11_leaf_22 ?_
  refine j_pc 23 rfl ?_
  refine j_icmp_neN hX ly (lys - 1) 30 dX11_leaf_23 (by decide) (by omega) (by omega) (fun b_23 => ?_) (fun b_23 => ?_)
  · skip
    refine j_iconst hX (1) dX11_leaf_30 (by decide) ?_
    refine j_aload_n hX 0 dX11_leaf_31 rfl ?_
    refine j_gete hX (nI ht) in11 11 0 17 rfl rfl (by decide) (List.mem_of_getElem? (i := 2) rfl) rfl rfl hv17 dX11_leaf_32 ?_
    refine j_ishlN hX 1 ht (by omega) (by omega) dX11_leaf_35 ?_
    refine j_iconst hX (1) dX11_leaf_36 (by decide) ?_
    refine j_isubN hX (1 * 2 ^ ht) 1 (by omega) dX11_leaf_37 ?_
    refine j_callS2 hX 3 (c_in l g (nI tr) 0 (nI ((1 * 2 ^ ht) - 1)) ) gX11_leaf_X11_in (by decide +kernel) rfl ⟨rfl, rfl⟩ ⟨Nat.le_of_ble_eq_true rfl, Nat.le_of_ble_eq_true rfl⟩ [] [0, 1, 2, 3, 4, 5, 6, 7, 8, 9, 10, 11, 12, 13] 14 rfl (by decide) (fun jj : Unit => [oB h 11 (mO b (upd v 3 (nI n0))), bA g (b 2) 1400 f, bA g (b 4) 32 dg, iA g (b 5) 64 w0, iA g (b 6) 8 S0, iA g (b 7) 8 fs, iA g (b 8) 64 rt, lA g (b 9) 25 A0, lA g (b 10) 25 T0, lA g (b 11) 5 U0, iA g (b 12) 25 tn, bA g (b 23) 48 sd, bA g (b 30) 560 e0, bA g (b 41) 16 rw]) (fun _ => rfl) (by decide) [h, (b 2), (b 4), (b 5), (b 6), (b 7), (b 8), (b 9), (b 10), (b 11), (b 12), (b 23), (b 30), (b 41)] rfl (fun _ => rfl) (fun _ => rfl) [oB h 11 (mO b (upd v 3 (nI n0))), bA g (b 2) 1400 f, bA g (b 4) 32 dg, iA g (b 5) 64 w0, iA g (b 6) 8 S0, iA g (b 7) 8 fs, iA g (b 8) 64 rt, lA g (b 9) 25 A0, lA g (b 10) 25 T0, lA g (b 11) 5 U0, iA g (b 12) 25 tn, bA g (b 23) 48 sd, bA g (b 30) 560 e0, bA g (b 41) 16 rw] rfl (fun _ => rfl) rfl [] rfl (Nat.le_of_ble_eq_true rfl) ⟨Nat.le_refl _, Nat.le_refl _⟩ dX11_leaf_38 ?_
    intro _ hu_2
    refine j_w [oB h 11 (mO b (upd v 3 (nI n0))), bA g (b 2) 1400 f, bA g (b 4) 32 dg, iA g (b 5) 64 w0, iA g (b 6) 8 S0, iA g (b 7) 8 fs, iA g (b 8) 64 rt, lA g (b 9) 25 A0, lA g (b 10) 25 T0, lA g (b 11) 5 U0, iA g (b 12) 25 tn, bA g (b 23) 48 sd, bA g (b 30) 560 e0, bA g (b 41) 16 rw] rfl ?_
    refine j_st [.int (if wiB (nI tr) 0 (nI ((1 * 2 ^ ht) - 1)) then 1 else 0)] rfl ?_
    refine j_topeq _ (nI 1) (by first | exact wiN 0 0 (by omega) (by rw [if_pos (by omega)] at htr; omega) (by decide) | exact wiN 0 (1 * 2 ^ ht - 1) (by omega) (by rw [if_neg (by omega)] at htr; omega) (by omega)) ?_
    refine j_pc 41 rfl ?_
    refine j_if_eqN hX 1 60 dX11_leaf_41 (by decide) (by omega) (fun b_41 => absurd b_41 (by omega)) (fun b_41 => ?_)
    refine j_iload_n hX 3 dX11_leaf_44 rfl ?_
    refine j_iconst hX (0) dX11_leaf_45 (by decide) ?_
    refine j_iconst hX (1) dX11_leaf_46 (by decide) ?_
    refine j_aload_n hX 0 dX11_leaf_47 rfl ?_
    refine j_gete hX (nI ht) in11 11 0 17 rfl rfl (by decide) (List.mem_of_getElem? (i := 2) rfl) rfl rfl hv17 dX11_leaf_48 ?_
    refine j_ishlN hX 1 ht (by omega) (by omega) dX11_leaf_51 ?_
    refine j_iconst hX (1) dX11_leaf_52 (by decide) ?_
    refine j_pc 53 rfl ?_
    refine j_isubN hX (1 * 2 ^ ht) 1 (by omega) dX11_leaf_53 ?_
    refine j_callS2 hX 3 (c_in l g (nI u) 0 (nI ((1 * 2 ^ ht) - 1)) ) gX11_leaf_X11_in (by decide +kernel) rfl ⟨rfl, rfl⟩ ⟨Nat.le_of_ble_eq_true rfl, Nat.le_of_ble_eq_true rfl⟩ [] [0, 1, 2, 3, 4, 5, 6, 7, 8, 9, 10, 11, 12, 13] 14 rfl (by decide) (fun jj : Unit => [oB h 11 (mO b (upd v 3 (nI n0))), bA g (b 2) 1400 f, bA g (b 4) 32 dg, iA g (b 5) 64 w0, iA g (b 6) 8 S0, iA g (b 7) 8 fs, iA g (b 8) 64 rt, lA g (b 9) 25 A0, lA g (b 10) 25 T0, lA g (b 11) 5 U0, iA g (b 12) 25 tn, bA g (b 23) 48 sd, bA g (b 30) 560 e0, bA g (b 41) 16 rw]) (fun _ => rfl) (by decide) [h, (b 2), (b 4), (b 5), (b 6), (b 7), (b 8), (b 9), (b 10), (b 11), (b 12), (b 23), (b 30), (b 41)] rfl (fun _ => rfl) (fun _ => rfl) [oB h 11 (mO b (upd v 3 (nI n0))), bA g (b 2) 1400 f, bA g (b 4) 32 dg, iA g (b 5) 64 w0, iA g (b 6) 8 S0, iA g (b 7) 8 fs, iA g (b 8) 64 rt, lA g (b 9) 25 A0, lA g (b 10) 25 T0, lA g (b 11) 5 U0, iA g (b 12) 25 tn, bA g (b 23) 48 sd, bA g (b 30) 560 e0, bA g (b 41) 16 rw] rfl (fun _ => rfl) rfl [] rfl (Nat.le_of_ble_eq_true rfl) ⟨Nat.le_refl _, Nat.le_refl _⟩ dX11_leaf_54 ?_
    intro _ hu_3
    refine j_w [oB h 11 (mO b (upd v 3 (nI n0))), bA g (b 2) 1400 f, bA g (b 4) 32 dg, iA g (b 5) 64 w0, iA g (b 6) 8 S0, iA g (b 7) 8 fs, iA g (b 8) 64 rt, lA g (b 9) 25 A0, lA g (b 10) 25 T0, lA g (b 11) 5 U0, iA g (b 12) 25 tn, bA g (b 23) 48 sd, bA g (b 30) 560 e0, bA g (b 41) 16 rw] rfl ?_
    refine j_st [.int (if wiB (nI u) 0 (nI ((1 * 2 ^ ht) - 1)) then 1 else 0)] rfl ?_
    refine j_topeq _ (nI 1) (wiN 0 (1 * 2 ^ ht - 1) (by omega) (by omega) (by omega)) ?_
    refine j_if_neN hX 1 63 dX11_leaf_57 (by decide) (by omega) (fun b_57 => ?_) (fun b_57 => absurd b_57 (by omega))
    refine j_iload hX 4 dX11_leaf_63 rfl ?_
    refine j_iconst hX (0) dX11_leaf_65 (by decide) ?_
    refine j_aload_n hX 0 dX11_leaf_66 rfl ?_
    refine j_gete hX (nI nn) in11 11 0 16 rfl rfl (by decide) (List.mem_of_getElem? (i := 3) rfl) rfl rfl hv16 dX11_leaf_67 ?_
    refine j_iconst hX (1) dX11_leaf_70 (by decide) ?_
    refine j_pc 71 rfl ?_
    refine j_isubN hX nn 1 (by omega) dX11_leaf_71 ?_
    refine j_callS2 hX 3 (c_in l g (nI i) 0 (nI (nn - 1)) ) gX11_leaf_X11_in (by decide +kernel) rfl ⟨rfl, rfl⟩ ⟨Nat.le_of_ble_eq_true rfl, Nat.le_of_ble_eq_true rfl⟩ [] [0, 1, 2, 3, 4, 5, 6, 7, 8, 9, 10, 11, 12, 13] 14 rfl (by decide) (fun jj : Unit => [oB h 11 (mO b (upd v 3 (nI n0))), bA g (b 2) 1400 f, bA g (b 4) 32 dg, iA g (b 5) 64 w0, iA g (b 6) 8 S0, iA g (b 7) 8 fs, iA g (b 8) 64 rt, lA g (b 9) 25 A0, lA g (b 10) 25 T0, lA g (b 11) 5 U0, iA g (b 12) 25 tn, bA g (b 23) 48 sd, bA g (b 30) 560 e0, bA g (b 41) 16 rw]) (fun _ => rfl) (by decide) [h, (b 2), (b 4), (b 5), (b 6), (b 7), (b 8), (b 9), (b 10), (b 11), (b 12), (b 23), (b 30), (b 41)] rfl (fun _ => rfl) (fun _ => rfl) [oB h 11 (mO b (upd v 3 (nI n0))), bA g (b 2) 1400 f, bA g (b 4) 32 dg, iA g (b 5) 64 w0, iA g (b 6) 8 S0, iA g (b 7) 8 fs, iA g (b 8) 64 rt, lA g (b 9) 25 A0, lA g (b 10) 25 T0, lA g (b 11) 5 U0, iA g (b 12) 25 tn, bA g (b 23) 48 sd, bA g (b 30) 560 e0, bA g (b 41) 16 rw] rfl (fun _ => rfl) rfl [] rfl (Nat.le_of_ble_eq_true rfl) ⟨Nat.le_refl _, Nat.le_refl _⟩ dX11_leaf_72 ?_
    intro _ hu_4
    refine j_w [oB h 11 (mO b (upd v 3 (nI n0))), bA g (b 2) 1400 f, bA g (b 4) 32 dg, iA g (b 5) 64 w0, iA g (b 6) 8 S0, iA g (b 7) 8 fs, iA g (b 8) 64 rt, lA g (b 9) 25 A0, lA g (b 10) 25 T0, lA g (b 11) 5 U0, iA g (b 12) 25 tn, bA g (b 23) 48 sd, bA g (b 30) 560 e0, bA g (b 41) 16 rw] rfl ?_
    refine j_st [.int (if wiB (nI i) 0 (nI (nn - 1)) then 1 else 0)] rfl ?_
    refine j_topeq _ (nI 1) (wiN 0 (nn - 1) (by omega) (by omega) (by omega)) ?_
    refine j_if_neN hX 1 81 dX11_leaf_75 (by decide) (by omega) (fun b_75 => ?_) (fun b_75 => absurd b_75 (by omega))
    refine j_aload_n hX 0 dX11_leaf_81 rfl ?_
    refine j_iload_n hX 1 dX11_leaf_82 rfl ?_
    refine j_put hX (v := .int (nI ly)) (ty := .int) in11 tyX11 tyX11_ok nmX11 11 0 27 rfl rfl (by decide) (List.mem_of_getElem? (i := 4) rfl) rfl rfl rfl rfl rfl (Nat.le_of_ble_eq_true rfl) [oB h 11 (mO b (upd (upd v 3 (nI n0)) 27 (nI ly))), bA g (b 2) 1400 f, bA g (b 4) 32 dg, iA g (b 5) 64 w0, iA g (b 6) 8 S0, iA g (b 7) 8 fs, iA g (b 8) 64 rt, lA g (b 9) 25 A0, lA g (b 10) 25 T0, lA g (b 11) 5 U0, iA g (b 12) 25 tn, bA g (b 23) 48 sd, bA g (b 30) 560 e0, bA g (b 41) 16 rw] rfl dX11_leaf_83 ?_
    refine j_aload_n hX 0 dX11_leaf_86 rfl ?_
    refine j_iload_n hX 2 dX11_leaf_87 rfl ?_
    refine j_pc 88 rfl ?_
    refine j_put hX (v := .int (nI tr)) (ty := .int) in11 tyX11 tyX11_ok nmX11 11 0 28 rfl rfl (by decide) (List.mem_of_getElem? (i := 5) rfl) rfl rfl rfl rfl rfl (Nat.le_of_ble_eq_true rfl) [oB h 11 (mO b (upd (upd (upd v 3 (nI n0)) 27 (nI ly)) 28 (nI tr))), bA g (b 2) 1400 f, bA g (b 4) 32 dg, iA g (b 5) 64 w0, iA g (b 6) 8 S0, iA g (b 7) 8 fs, iA g (b 8) 64 rt, lA g (b 9) 25 A0, lA g (b 10) 25 T0, lA g (b 11) 5 U0, iA g (b 12) 25 tn, bA g (b 23) 48 sd, bA g (b 30) 560 e0, bA g (b 41) 16 rw] rfl dX11_leaf_88 ?_
    refine j_aload_n hX 0 dX11_leaf_91 rfl ?_
    refine j_iload_n hX 3 dX11_leaf_92 rfl ?_
    refine j_aload_n hX 0 dX11_leaf_93 rfl ?_
    refine j_get hX in11 11 0 41 (v := .ref (b 41)) rfl rfl (by decide) (List.mem_of_getElem? (i := 6) rfl) rfl rfl dX11_leaf_94 ?_
    refine j_iconst hX (0) dX11_leaf_97 (by decide) ?_
    refine j_callV2 hX 3 (c_leafOf l g h b (upd (upd (upd v 3 (nI n0)) 27 (nI ly)) 28 (nI tr)) n0 f dg w0 S0 fs rt A0 T0 U0 tn sd fm nn ly tr e0 (b 41) 16 rw u 0 hv15 hv16 rfl rfl (by omega) (by omega) hB hfs hrt htn rfl (by omega) hv21 hEB (by omega) (by omega) (by omega)) gX11_leaf_X11_leafOf (by decide +kernel) rfl ⟨rfl, rfl⟩ ⟨Nat.le_of_ble_eq_true rfl, Nat.le_of_ble_eq_true rfl⟩ 11 0 rfl rfl [0, 1, 2, 3, 4, 5, 6, 7, 8, 9, 10, 11, 12, 13] [] 14 rfl (by decide) (fun jj : (Nat → Int32) × (Nat → Int32) × (Nat → Int64) × (Nat → Int64) × (Nat → Int64) × Nat × (Nat → Int32) × (Nat → Int32) × (Nat → Int32) × (Nat → Int32) => [oB h 11 (mO b (upd (upd (upd v 3 (nI jj.2.2.2.2.2.1)) 27 (nI ly)) 28 (nI tr))), bA g (b 2) 1400 jj.2.2.2.2.2.2.1, bA g (b 4) 32 jj.2.2.2.2.2.2.2.1, iA g (b 5) 64 jj.1, iA g (b 6) 8 jj.2.1, iA g (b 7) 8 fs, iA g (b 8) 64 rt, lA g (b 9) 25 jj.2.2.1, lA g (b 10) 25 jj.2.2.2.1, lA g (b 11) 5 jj.2.2.2.2.1, iA g (b 12) 25 tn, bA g (b 23) 48 sd, bA g (b 30) 560 jj.2.2.2.2.2.2.2.2.1, bA g (b 41) 16 jj.2.2.2.2.2.2.2.2.2]) (fun _ => rfl) (by decide) [h, (b 2), (b 4), (b 5), (b 6), (b 7), (b 8), (b 9), (b 10), (b 11), (b 12), (b 23), (b 30), (b 41)] rfl (fun _ => rfl) (fun _ => rfl) [] rfl (fun _ => rfl) rfl [] rfl (Nat.le_of_ble_eq_true rfl) ⟨Nat.le_refl _, Nat.le_refl _⟩ dX11_leaf_98 ?_
    rintro ⟨w5, S5, A5, T5, U5, nl5, G5, FO5, E5, R5⟩ hL
    try dsimp only at hL
    refine j_w [oB h 11 (mO b (upd (upd (upd v 3 (nI nl5)) 27 (nI ly)) 28 (nI tr))), bA g (b 2) 1400 G5, bA g (b 4) 32 FO5, iA g (b 5) 64 w5, iA g (b 6) 8 S5, iA g (b 7) 8 fs, iA g (b 8) 64 rt, lA g (b 9) 25 A5, lA g (b 10) 25 T5, lA g (b 11) 5 U5, iA g (b 12) 25 tn, bA g (b 23) 48 sd, bA g (b 30) 560 E5, bA g (b 41) 16 R5] rfl ?_
    refine j_st [] rfl ?_
    refine j_aload_n hX 0 dX11_leaf_101 rfl ?_
    refine j_pc 102 rfl ?_
    refine j_get hX in11 11 0 41 (v := .ref (b 41)) rfl rfl (by decide) (List.mem_of_getElem? (i := 6) rfl) rfl rfl dX11_leaf_102 ?_
    refine j_iload hX 4 dX11_leaf_105 rfl ?_
    refine j_baldN hX 13 i rfl (by omega) (by omega) dX11_leaf_107 ?_
    refine j_sipush hX (255) dX11_leaf_108 (by decide) ?_
    refine j_iand hX dX11_leaf_111 ?_
    refine j_topeq _ ((LF fm nn sd ly tr u).getD i 0 &&& 255) (by rw [put_read hL.2.2 (by rw [LF_length (by omega)]; exact hi)]) ?_
    exact hret (w5, S5, A5, T5, U5, nl5, G5, FO5, E5, R5) (by dsimp only; exact ⟨hL.1, hL.2.1, by rw [hL.2.2]; exact putL_B hRwB (TT_B _ _ _ _ _ _ _ _ _ _)⟩) 112 _ .ireturn dX11_leaf_112 rfl
  · skip
    refine j_iconst hX (0) dX11_leaf_26 (by decide) ?_
    refine j_goto hX 38 dX11_leaf_27 (by decide) ?_
    refine j_pc 38 rfl ?_
    refine j_callS2 hX 3 (c_in l g (nI tr) 0 0 ) gX11_leaf_X11_in (by decide +kernel) rfl ⟨rfl, rfl⟩ ⟨Nat.le_of_ble_eq_true rfl, Nat.le_of_ble_eq_true rfl⟩ [] [0, 1, 2, 3, 4, 5, 6, 7, 8, 9, 10, 11, 12, 13] 14 rfl (by decide) (fun jj : Unit => [oB h 11 (mO b (upd v 3 (nI n0))), bA g (b 2) 1400 f, bA g (b 4) 32 dg, iA g (b 5) 64 w0, iA g (b 6) 8 S0, iA g (b 7) 8 fs, iA g (b 8) 64 rt, lA g (b 9) 25 A0, lA g (b 10) 25 T0, lA g (b 11) 5 U0, iA g (b 12) 25 tn, bA g (b 23) 48 sd, bA g (b 30) 560 e0, bA g (b 41) 16 rw]) (fun _ => rfl) (by decide) [h, (b 2), (b 4), (b 5), (b 6), (b 7), (b 8), (b 9), (b 10), (b 11), (b 12), (b 23), (b 30), (b 41)] rfl (fun _ => rfl) (fun _ => rfl) [oB h 11 (mO b (upd v 3 (nI n0))), bA g (b 2) 1400 f, bA g (b 4) 32 dg, iA g (b 5) 64 w0, iA g (b 6) 8 S0, iA g (b 7) 8 fs, iA g (b 8) 64 rt, lA g (b 9) 25 A0, lA g (b 10) 25 T0, lA g (b 11) 5 U0, iA g (b 12) 25 tn, bA g (b 23) 48 sd, bA g (b 30) 560 e0, bA g (b 41) 16 rw] rfl (fun _ => rfl) rfl [] rfl (Nat.le_of_ble_eq_true rfl) ⟨Nat.le_refl _, Nat.le_refl _⟩ dX11_leaf_38 ?_
    intro _ hu_5
    refine j_w [oB h 11 (mO b (upd v 3 (nI n0))), bA g (b 2) 1400 f, bA g (b 4) 32 dg, iA g (b 5) 64 w0, iA g (b 6) 8 S0, iA g (b 7) 8 fs, iA g (b 8) 64 rt, lA g (b 9) 25 A0, lA g (b 10) 25 T0, lA g (b 11) 5 U0, iA g (b 12) 25 tn, bA g (b 23) 48 sd, bA g (b 30) 560 e0, bA g (b 41) 16 rw] rfl ?_
    refine j_st [.int (if wiB (nI tr) 0 0 then 1 else 0)] rfl ?_
    refine j_topeq _ (nI 1) (by first | exact wiN 0 0 (by omega) (by rw [if_pos (by omega)] at htr; omega) (by decide) | exact wiN 0 (1 * 2 ^ ht - 1) (by omega) (by rw [if_neg (by omega)] at htr; omega) (by omega)) ?_
    refine j_if_eqN hX 1 60 dX11_leaf_41 (by decide) (by omega) (fun b_41 => absurd b_41 (by omega)) (fun b_41 => ?_)
    refine j_iload_n hX 3 dX11_leaf_44 rfl ?_
    refine j_iconst hX (0) dX11_leaf_45 (by decide) ?_
    refine j_iconst hX (1) dX11_leaf_46 (by decide) ?_
    refine j_aload_n hX 0 dX11_leaf_47 rfl ?_
    refine j_gete hX (nI ht) in11 11 0 17 rfl rfl (by decide) (List.mem_of_getElem? (i := 2) rfl) rfl rfl hv17 dX11_leaf_48 ?_
    refine j_ishlN hX 1 ht (by omega) (by omega) dX11_leaf_51 ?_
    refine j_pc 52 rfl ?_
    refine j_iconst hX (1) dX11_leaf_52 (by decide) ?_
    refine j_isubN hX (1 * 2 ^ ht) 1 (by omega) dX11_leaf_53 ?_
    refine j_callS2 hX 3 (c_in l g (nI u) 0 (nI ((1 * 2 ^ ht) - 1)) ) gX11_leaf_X11_in (by decide +kernel) rfl ⟨rfl, rfl⟩ ⟨Nat.le_of_ble_eq_true rfl, Nat.le_of_ble_eq_true rfl⟩ [] [0, 1, 2, 3, 4, 5, 6, 7, 8, 9, 10, 11, 12, 13] 14 rfl (by decide) (fun jj : Unit => [oB h 11 (mO b (upd v 3 (nI n0))), bA g (b 2) 1400 f, bA g (b 4) 32 dg, iA g (b 5) 64 w0, iA g (b 6) 8 S0, iA g (b 7) 8 fs, iA g (b 8) 64 rt, lA g (b 9) 25 A0, lA g (b 10) 25 T0, lA g (b 11) 5 U0, iA g (b 12) 25 tn, bA g (b 23) 48 sd, bA g (b 30) 560 e0, bA g (b 41) 16 rw]) (fun _ => rfl) (by decide) [h, (b 2), (b 4), (b 5), (b 6), (b 7), (b 8), (b 9), (b 10), (b 11), (b 12), (b 23), (b 30), (b 41)] rfl (fun _ => rfl) (fun _ => rfl) [oB h 11 (mO b (upd v 3 (nI n0))), bA g (b 2) 1400 f, bA g (b 4) 32 dg, iA g (b 5) 64 w0, iA g (b 6) 8 S0, iA g (b 7) 8 fs, iA g (b 8) 64 rt, lA g (b 9) 25 A0, lA g (b 10) 25 T0, lA g (b 11) 5 U0, iA g (b 12) 25 tn, bA g (b 23) 48 sd, bA g (b 30) 560 e0, bA g (b 41) 16 rw] rfl (fun _ => rfl) rfl [] rfl (Nat.le_of_ble_eq_true rfl) ⟨Nat.le_refl _, Nat.le_refl _⟩ dX11_leaf_54 ?_
    intro _ hu_6
    refine j_w [oB h 11 (mO b (upd v 3 (nI n0))), bA g (b 2) 1400 f, bA g (b 4) 32 dg, iA g (b 5) 64 w0, iA g (b 6) 8 S0, iA g (b 7) 8 fs, iA g (b 8) 64 rt, lA g (b 9) 25 A0, lA g (b 10) 25 T0, lA g (b 11) 5 U0, iA g (b 12) 25 tn, bA g (b 23) 48 sd, bA g (b 30) 560 e0, bA g (b 41) 16 rw] rfl ?_
    refine j_st [.int (if wiB (nI u) 0 (nI ((1 * 2 ^ ht) - 1)) then 1 else 0)] rfl ?_
    refine j_topeq _ (nI 1) (wiN 0 (1 * 2 ^ ht - 1) (by omega) (by omega) (by omega)) ?_
    refine j_if_neN hX 1 63 dX11_leaf_57 (by decide) (by omega) (fun b_57 => ?_) (fun b_57 => absurd b_57 (by omega))
    refine j_iload hX 4 dX11_leaf_63 rfl ?_
    refine j_iconst hX (0) dX11_leaf_65 (by decide) ?_
    refine j_aload_n hX 0 dX11_leaf_66 rfl ?_
    refine j_gete hX (nI nn) in11 11 0 16 rfl rfl (by decide) (List.mem_of_getElem? (i := 3) rfl) rfl rfl hv16 dX11_leaf_67 ?_
    refine j_pc 70 rfl ?_
    refine j_iconst hX (1) dX11_leaf_70 (by decide) ?_
    refine j_isubN hX nn 1 (by omega) dX11_leaf_71 ?_
    refine j_callS2 hX 3 (c_in l g (nI i) 0 (nI (nn - 1)) ) gX11_leaf_X11_in (by decide +kernel) rfl ⟨rfl, rfl⟩ ⟨Nat.le_of_ble_eq_true rfl, Nat.le_of_ble_eq_true rfl⟩ [] [0, 1, 2, 3, 4, 5, 6, 7, 8, 9, 10, 11, 12, 13] 14 rfl (by decide) (fun jj : Unit => [oB h 11 (mO b (upd v 3 (nI n0))), bA g (b 2) 1400 f, bA g (b 4) 32 dg, iA g (b 5) 64 w0, iA g (b 6) 8 S0, iA g (b 7) 8 fs, iA g (b 8) 64 rt, lA g (b 9) 25 A0, lA g (b 10) 25 T0, lA g (b 11) 5 U0, iA g (b 12) 25 tn, bA g (b 23) 48 sd, bA g (b 30) 560 e0, bA g (b 41) 16 rw]) (fun _ => rfl) (by decide) [h, (b 2), (b 4), (b 5), (b 6), (b 7), (b 8), (b 9), (b 10), (b 11), (b 12), (b 23), (b 30), (b 41)] rfl (fun _ => rfl) (fun _ => rfl) [oB h 11 (mO b (upd v 3 (nI n0))), bA g (b 2) 1400 f, bA g (b 4) 32 dg, iA g (b 5) 64 w0, iA g (b 6) 8 S0, iA g (b 7) 8 fs, iA g (b 8) 64 rt, lA g (b 9) 25 A0, lA g (b 10) 25 T0, lA g (b 11) 5 U0, iA g (b 12) 25 tn, bA g (b 23) 48 sd, bA g (b 30) 560 e0, bA g (b 41) 16 rw] rfl (fun _ => rfl) rfl [] rfl (Nat.le_of_ble_eq_true rfl) ⟨Nat.le_refl _, Nat.le_refl _⟩ dX11_leaf_72 ?_
    intro _ hu_7
    refine j_w [oB h 11 (mO b (upd v 3 (nI n0))), bA g (b 2) 1400 f, bA g (b 4) 32 dg, iA g (b 5) 64 w0, iA g (b 6) 8 S0, iA g (b 7) 8 fs, iA g (b 8) 64 rt, lA g (b 9) 25 A0, lA g (b 10) 25 T0, lA g (b 11) 5 U0, iA g (b 12) 25 tn, bA g (b 23) 48 sd, bA g (b 30) 560 e0, bA g (b 41) 16 rw] rfl ?_
    refine j_st [.int (if wiB (nI i) 0 (nI (nn - 1)) then 1 else 0)] rfl ?_
    refine j_topeq _ (nI 1) (wiN 0 (nn - 1) (by omega) (by omega) (by omega)) ?_
    refine j_if_neN hX 1 81 dX11_leaf_75 (by decide) (by omega) (fun b_75 => ?_) (fun b_75 => absurd b_75 (by omega))
    refine j_aload_n hX 0 dX11_leaf_81 rfl ?_
    refine j_iload_n hX 1 dX11_leaf_82 rfl ?_
    refine j_put hX (v := .int (nI ly)) (ty := .int) in11 tyX11 tyX11_ok nmX11 11 0 27 rfl rfl (by decide) (List.mem_of_getElem? (i := 4) rfl) rfl rfl rfl rfl rfl (Nat.le_of_ble_eq_true rfl) [oB h 11 (mO b (upd (upd v 3 (nI n0)) 27 (nI ly))), bA g (b 2) 1400 f, bA g (b 4) 32 dg, iA g (b 5) 64 w0, iA g (b 6) 8 S0, iA g (b 7) 8 fs, iA g (b 8) 64 rt, lA g (b 9) 25 A0, lA g (b 10) 25 T0, lA g (b 11) 5 U0, iA g (b 12) 25 tn, bA g (b 23) 48 sd, bA g (b 30) 560 e0, bA g (b 41) 16 rw] rfl dX11_leaf_83 ?_
    refine j_aload_n hX 0 dX11_leaf_86 rfl ?_
    refine j_pc 87 rfl ?_
    refine j_iload_n hX 2 dX11_leaf_87 rfl ?_
    refine j_put hX (v := .int (nI tr)) (ty := .int) in11 tyX11 tyX11_ok nmX11 11 0 28 rfl rfl (by decide) (List.mem_of_getElem? (i := 5) rfl) rfl rfl rfl rfl rfl (Nat.le_of_ble_eq_true rfl) [oB h 11 (mO b (upd (upd (upd v 3 (nI n0)) 27 (nI ly)) 28 (nI tr))), bA g (b 2) 1400 f, bA g (b 4) 32 dg, iA g (b 5) 64 w0, iA g (b 6) 8 S0, iA g (b 7) 8 fs, iA g (b 8) 64 rt, lA g (b 9) 25 A0, lA g (b 10) 25 T0, lA g (b 11) 5 U0, iA g (b 12) 25 tn, bA g (b 23) 48 sd, bA g (b 30) 560 e0, bA g (b 41) 16 rw] rfl dX11_leaf_88 ?_
    refine j_aload_n hX 0 dX11_leaf_91 rfl ?_
    refine j_iload_n hX 3 dX11_leaf_92 rfl ?_
    refine j_aload_n hX 0 dX11_leaf_93 rfl ?_
    refine j_get hX in11 11 0 41 (v := .ref (b 41)) rfl rfl (by decide) (List.mem_of_getElem? (i := 6) rfl) rfl rfl dX11_leaf_94 ?_
    refine j_iconst hX (0) dX11_leaf_97 (by decide) ?_
    refine j_callV2 hX 3 (c_leafOf l g h b (upd (upd (upd v 3 (nI n0)) 27 (nI ly)) 28 (nI tr)) n0 f dg w0 S0 fs rt A0 T0 U0 tn sd fm nn ly tr e0 (b 41) 16 rw u 0 hv15 hv16 rfl rfl (by omega) (by omega) hB hfs hrt htn rfl (by omega) hv21 hEB (by omega) (by omega) (by omega)) gX11_leaf_X11_leafOf (by decide +kernel) rfl ⟨rfl, rfl⟩ ⟨Nat.le_of_ble_eq_true rfl, Nat.le_of_ble_eq_true rfl⟩ 11 0 rfl rfl [0, 1, 2, 3, 4, 5, 6, 7, 8, 9, 10, 11, 12, 13] [] 14 rfl (by decide) (fun jj : (Nat → Int32) × (Nat → Int32) × (Nat → Int64) × (Nat → Int64) × (Nat → Int64) × Nat × (Nat → Int32) × (Nat → Int32) × (Nat → Int32) × (Nat → Int32) => [oB h 11 (mO b (upd (upd (upd v 3 (nI jj.2.2.2.2.2.1)) 27 (nI ly)) 28 (nI tr))), bA g (b 2) 1400 jj.2.2.2.2.2.2.1, bA g (b 4) 32 jj.2.2.2.2.2.2.2.1, iA g (b 5) 64 jj.1, iA g (b 6) 8 jj.2.1, iA g (b 7) 8 fs, iA g (b 8) 64 rt, lA g (b 9) 25 jj.2.2.1, lA g (b 10) 25 jj.2.2.2.1, lA g (b 11) 5 jj.2.2.2.2.1, iA g (b 12) 25 tn, bA g (b 23) 48 sd, bA g (b 30) 560 jj.2.2.2.2.2.2.2.2.1, bA g (b 41) 16 jj.2.2.2.2.2.2.2.2.2]) (fun _ => rfl) (by decide) [h, (b 2), (b 4), (b 5), (b 6), (b 7), (b 8), (b 9), (b 10), (b 11), (b 12), (b 23), (b 30), (b 41)] rfl (fun _ => rfl) (fun _ => rfl) [] rfl (fun _ => rfl) rfl [] rfl (Nat.le_of_ble_eq_true rfl) ⟨Nat.le_refl _, Nat.le_refl _⟩ dX11_leaf_98 ?_
    rintro ⟨w5, S5, A5, T5, U5, nl5, G5, FO5, E5, R5⟩ hL
    try dsimp only at hL
    refine j_w [oB h 11 (mO b (upd (upd (upd v 3 (nI nl5)) 27 (nI ly)) 28 (nI tr))), bA g (b 2) 1400 G5, bA g (b 4) 32 FO5, iA g (b 5) 64 w5, iA g (b 6) 8 S5, iA g (b 7) 8 fs, iA g (b 8) 64 rt, lA g (b 9) 25 A5, lA g (b 10) 25 T5, lA g (b 11) 5 U5, iA g (b 12) 25 tn, bA g (b 23) 48 sd, bA g (b 30) 560 E5, bA g (b 41) 16 R5] rfl ?_
    refine j_st [] rfl ?_
    refine j_pc 101 rfl ?_
    refine j_aload_n hX 0 dX11_leaf_101 rfl ?_
    refine j_get hX in11 11 0 41 (v := .ref (b 41)) rfl rfl (by decide) (List.mem_of_getElem? (i := 6) rfl) rfl rfl dX11_leaf_102 ?_
    refine j_iload hX 4 dX11_leaf_105 rfl ?_
    refine j_baldN hX 13 i rfl (by omega) (by omega) dX11_leaf_107 ?_
    refine j_sipush hX (255) dX11_leaf_108 (by decide) ?_
    refine j_iand hX dX11_leaf_111 ?_
    refine j_topeq _ ((LF fm nn sd ly tr u).getD i 0 &&& 255) (by rw [put_read hL.2.2 (by rw [LF_length (by omega)]; exact hi)]) ?_
    exact hret (w5, S5, A5, T5, U5, nl5, G5, FO5, E5, R5) (by dsimp only; exact ⟨hL.1, hL.2.1, by rw [hL.2.2]; exact putL_B hRwB (TT_B _ _ _ _ _ _ _ _ _ _)⟩) 112 _ .ireturn dX11_leaf_112 rfl

set_option maxHeartbeats 4000000 in
set_option maxRecDepth 100000 in
/-- the reference: leaf, none -/
theorem c_mleafN (l : Launch) (g : jG) (h : Nat) (b : Nat → Nat) (v : Nat → Int32) (fm : Nat) (nn : Nat) (ht : Nat) (lys : Nat) (fa : Nat) (mk : Nat) (ly : Nat) (tr : Nat) (u : Nat) (xi : Int32) (hv16 : v 16 = nI nn) (hv17 : v 17 = nI ht) (hv18 : v 18 = nI lys) (hfm : fm < 2) (hnn4 : nn = 4 ∨ nn = 8 ∨ nn = 12 ∨ nn = 16) (hht : 1 ≤ ht ∧ ht ≤ 2) (hlys : 1 ≤ lys ∧ lys ≤ 2) (hfa : 1 ≤ fa ∧ fa ≤ 4) (hmk : 1 ≤ mk ∧ mk ≤ 6) (hly : ly < lys) (htr : tr < (if ly + 1 = lys then 1 else 2 ^ ht)) (hu : u < 2 ^ ht) (hF : xi < 0 ∨ nI nn ≤ xi) : jC l g yX11_leaf wsX11_leaf ({ frames := 7, cells := 0, slots := 0, locals := 171 } : Room) [.ref h, .int (nI ly), .int (nI tr), .int (nI u), .int xi] [oB h 11 (mO b v)] (fun jj : Unit => some (.int (-9))) (fun jj : Unit => True) (fun jj : Unit => [oB h 11 (mO b v)]) := by
  refine jC.of (cc := cX11_leaf) (own := RX11) (maxL := 5) (ret := (some .int)) (by decide +kernel) rfl rfl (Nat.le_of_ble_eq_true rfl) (fun u hu => ⟨_, rfl, rfl⟩) ?_
  intro p e s m below meth c A Q hX hret
  have in11 : ∀ w ∈ wsX110, w ∈ wsX11_leaf := (fun w h => List.mem_cons_of_mem _ (List.mem_append_right _ h))
  have hp4 := pow4 hht.2
  have hq2 := Nat.two_pow_pos ht
  have hnn : nn ≤ 16 := by omega
  refine j_iload_n hX 1 dX11_leaf_0 rfl ?_
  refine j_iconst hX (0) dX11_leaf_1 (by decide) ?_
  refine j_aload_n hX 0 dX11_leaf_2 rfl ?_
  refine j_gete hX (nI lys) in11 11 0 18 rfl rfl (by decide) (List.mem_of_getElem? (i := 1) rfl) rfl rfl hv18 dX11_leaf_3 ?_
  refine j_iconst hX (1) dX11_leaf_6 (by decide) ?_
  refine j_isubN hX lys 1 (by omega) dX11_leaf_7 ?_
  refine j_callS2 hX 3 (c_in l g (nI ly) 0 (nI (lys - 1)) ) gX11_leaf_X11_in (by decide +kernel) rfl ⟨rfl, rfl⟩ ⟨Nat.le_of_ble_eq_true rfl, Nat.le_of_ble_eq_true rfl⟩ [] [0] 1 rfl (by decide) (fun jj : Unit => [oB h 11 (mO b v)]) (fun _ => rfl) (by decide) [h] rfl (fun _ => rfl) (fun _ => rfl) [oB h 11 (mO b v)] rfl (fun _ => rfl) rfl [] rfl (Nat.le_of_ble_eq_true rfl) ⟨Nat.le_refl _, Nat.le_refl _⟩ dX11_leaf_8 ?_
  intro _ hu_1
  refine j_w [oB h 11 (mO b v)] rfl ?_
  refine j_st [.int (if wiB (nI ly) 0 (nI (lys - 1)) then 1 else 0)] rfl ?_
  refine j_topeq _ (nI 1) (wiN 0 (lys - 1) (by omega) (by omega) (by omega)) ?_
  refine j_pc 11 rfl ?_
  refine j_if_eqN hX 1 60 dX11_leaf_11 (by decide) (by omega) (fun b_11 => absurd b_11 (by omega)) (fun b_11 => ?_)
  refine j_iload_n hX 2 dX11_leaf_14 rfl ?_
  refine j_iconst hX (0) dX11_leaf_15 (by decide) ?_
  refine j_iload_n hX 1 dX11_leaf_16 rfl ?_
  refine j_aload_n hX 0 dX11_leaf_17 rfl ?_
  refine j_gete hX (nI lys) in11 11 0 18 rfl rfl (by decide) (List.mem_of_getElem? (i := 1) rfl) rfl rfl hv18 dX11_leaf_18 ?_
  refine j_iconst hX (1) dX11_leaf_21 (by decide) ?_
  refine j_isubN hX lys 1 (by omega) dX11_leaf_22 ?_
  refine j_pc 23 rfl ?_
  refine j_icmp_neN hX ly (lys - 1) 30 dX11_leaf_23 (by decide) (by omega) (by omega) (fun b_23 => ?_) (fun b_23 => ?_)
  · skip
    refine j_iconst hX (1) dX11_leaf_30 (by decide) ?_
    refine j_aload_n hX 0 dX11_leaf_31 rfl ?_
    refine j_gete hX (nI ht) in11 11 0 17 rfl rfl (by decide) (List.mem_of_getElem? (i := 2) rfl) rfl rfl hv17 dX11_leaf_32 ?_
    refine j_ishlN hX 1 ht (by omega) (by omega) dX11_leaf_35 ?_
    refine j_iconst hX (1) dX11_leaf_36 (by decide) ?_
    refine j_isubN hX (1 * 2 ^ ht) 1 (by omega) dX11_leaf_37 ?_
    refine j_callS2 hX 3 (c_in l g (nI tr) 0 (nI ((1 * 2 ^ ht) - 1)) ) gX11_leaf_X11_in (by decide +kernel) rfl ⟨rfl, rfl⟩ ⟨Nat.le_of_ble_eq_true rfl, Nat.le_of_ble_eq_true rfl⟩ [] [0] 1 rfl (by decide) (fun jj : Unit => [oB h 11 (mO b v)]) (fun _ => rfl) (by decide) [h] rfl (fun _ => rfl) (fun _ => rfl) [oB h 11 (mO b v)] rfl (fun _ => rfl) rfl [] rfl (Nat.le_of_ble_eq_true rfl) ⟨Nat.le_refl _, Nat.le_refl _⟩ dX11_leaf_38 ?_
    intro _ hu_2
    refine j_w [oB h 11 (mO b v)] rfl ?_
    refine j_st [.int (if wiB (nI tr) 0 (nI ((1 * 2 ^ ht) - 1)) then 1 else 0)] rfl ?_
    refine j_topeq _ (nI 1) (by first | exact wiN 0 0 (by omega) (by rw [if_pos (by omega)] at htr; omega) (by decide) | exact wiN 0 (1 * 2 ^ ht - 1) (by omega) (by rw [if_neg (by omega)] at htr; omega) (by omega)) ?_
    refine j_pc 41 rfl ?_
    refine j_if_eqN hX 1 60 dX11_leaf_41 (by decide) (by omega) (fun b_41 => absurd b_41 (by omega)) (fun b_41 => ?_)
    refine j_iload_n hX 3 dX11_leaf_44 rfl ?_
    refine j_iconst hX (0) dX11_leaf_45 (by decide) ?_
    refine j_iconst hX (1) dX11_leaf_46 (by decide) ?_
    refine j_aload_n hX 0 dX11_leaf_47 rfl ?_
    refine j_gete hX (nI ht) in11 11 0 17 rfl rfl (by decide) (List.mem_of_getElem? (i := 2) rfl) rfl rfl hv17 dX11_leaf_48 ?_
    refine j_ishlN hX 1 ht (by omega) (by omega) dX11_leaf_51 ?_
    refine j_iconst hX (1) dX11_leaf_52 (by decide) ?_
    refine j_pc 53 rfl ?_
    refine j_isubN hX (1 * 2 ^ ht) 1 (by omega) dX11_leaf_53 ?_
    refine j_callS2 hX 3 (c_in l g (nI u) 0 (nI ((1 * 2 ^ ht) - 1)) ) gX11_leaf_X11_in (by decide +kernel) rfl ⟨rfl, rfl⟩ ⟨Nat.le_of_ble_eq_true rfl, Nat.le_of_ble_eq_true rfl⟩ [] [0] 1 rfl (by decide) (fun jj : Unit => [oB h 11 (mO b v)]) (fun _ => rfl) (by decide) [h] rfl (fun _ => rfl) (fun _ => rfl) [oB h 11 (mO b v)] rfl (fun _ => rfl) rfl [] rfl (Nat.le_of_ble_eq_true rfl) ⟨Nat.le_refl _, Nat.le_refl _⟩ dX11_leaf_54 ?_
    intro _ hu_3
    refine j_w [oB h 11 (mO b v)] rfl ?_
    refine j_st [.int (if wiB (nI u) 0 (nI ((1 * 2 ^ ht) - 1)) then 1 else 0)] rfl ?_
    refine j_topeq _ (nI 1) (wiN 0 (1 * 2 ^ ht - 1) (by omega) (by omega) (by omega)) ?_
    refine j_if_neN hX 1 63 dX11_leaf_57 (by decide) (by omega) (fun b_57 => ?_) (fun b_57 => absurd b_57 (by omega))
    refine j_iload hX 4 dX11_leaf_63 rfl ?_
    refine j_iconst hX (0) dX11_leaf_65 (by decide) ?_
    refine j_aload_n hX 0 dX11_leaf_66 rfl ?_
    refine j_gete hX (nI nn) in11 11 0 16 rfl rfl (by decide) (List.mem_of_getElem? (i := 3) rfl) rfl rfl hv16 dX11_leaf_67 ?_
    refine j_iconst hX (1) dX11_leaf_70 (by decide) ?_
    refine j_pc 71 rfl ?_
    refine j_isubN hX nn 1 (by omega) dX11_leaf_71 ?_
    refine j_callS2 hX 3 (c_in l g xi 0 (nI (nn - 1)) ) gX11_leaf_X11_in (by decide +kernel) rfl ⟨rfl, rfl⟩ ⟨Nat.le_of_ble_eq_true rfl, Nat.le_of_ble_eq_true rfl⟩ [] [0] 1 rfl (by decide) (fun jj : Unit => [oB h 11 (mO b v)]) (fun _ => rfl) (by decide) [h] rfl (fun _ => rfl) (fun _ => rfl) [oB h 11 (mO b v)] rfl (fun _ => rfl) rfl [] rfl (Nat.le_of_ble_eq_true rfl) ⟨Nat.le_refl _, Nat.le_refl _⟩ dX11_leaf_72 ?_
    intro _ hu_4
    refine j_w [oB h 11 (mO b v)] rfl ?_
    refine j_st [.int (if wiB xi 0 (nI (nn - 1)) then 1 else 0)] rfl ?_
    refine j_if_ne hX 81 dX11_leaf_75 (by decide) (fun b_75 => absurd b_75 (fun hh => by rcases hF with h | h; exact absurd h (Int32.not_lt.mpr (wi_and (wi_of hh)).1); (obtain ⟨q9, e9, -, c9⟩ := wi_nat 0 (nn - 1) ⟨by decide, by omega⟩ (wi_of hh); rw [e9, nI_leI (by omega) (by omega)] at h; omega))) (fun b_75 => ?_)
    refine j_bipush hX (-9) dX11_leaf_78 (by decide) ?_
    exact hret () trivial 80 _ .ireturn dX11_leaf_80 rfl
  · skip
    refine j_iconst hX (0) dX11_leaf_26 (by decide) ?_
    refine j_goto hX 38 dX11_leaf_27 (by decide) ?_
    refine j_callS2 hX 3 (c_in l g (nI tr) 0 0 ) gX11_leaf_X11_in (by decide +kernel) rfl ⟨rfl, rfl⟩ ⟨Nat.le_of_ble_eq_true rfl, Nat.le_of_ble_eq_true rfl⟩ [] [0] 1 rfl (by decide) (fun jj : Unit => [oB h 11 (mO b v)]) (fun _ => rfl) (by decide) [h] rfl (fun _ => rfl) (fun _ => rfl) [oB h 11 (mO b v)] rfl (fun _ => rfl) rfl [] rfl (Nat.le_of_ble_eq_true rfl) ⟨Nat.le_refl _, Nat.le_refl _⟩ dX11_leaf_38 ?_
    intro _ hu_5
    refine j_w [oB h 11 (mO b v)] rfl ?_
    refine j_st [.int (if wiB (nI tr) 0 0 then 1 else 0)] rfl ?_
    refine j_topeq _ (nI 1) (by first | exact wiN 0 0 (by omega) (by rw [if_pos (by omega)] at htr; omega) (by decide) | exact wiN 0 (1 * 2 ^ ht - 1) (by omega) (by rw [if_neg (by omega)] at htr; omega) (by omega)) ?_
    refine j_pc 41 rfl ?_
    refine j_if_eqN hX 1 60 dX11_leaf_41 (by decide) (by omega) (fun b_41 => absurd b_41 (by omega)) (fun b_41 => ?_)
    refine j_iload_n hX 3 dX11_leaf_44 rfl ?_
    refine j_iconst hX (0) dX11_leaf_45 (by decide) ?_
    refine j_iconst hX (1) dX11_leaf_46 (by decide) ?_
    refine j_aload_n hX 0 dX11_leaf_47 rfl ?_
    refine j_gete hX (nI ht) in11 11 0 17 rfl rfl (by decide) (List.mem_of_getElem? (i := 2) rfl) rfl rfl hv17 dX11_leaf_48 ?_
    refine j_ishlN hX 1 ht (by omega) (by omega) dX11_leaf_51 ?_
    refine j_iconst hX (1) dX11_leaf_52 (by decide) ?_
    refine j_pc 53 rfl ?_
    refine j_isubN hX (1 * 2 ^ ht) 1 (by omega) dX11_leaf_53 ?_
    refine j_callS2 hX 3 (c_in l g (nI u) 0 (nI ((1 * 2 ^ ht) - 1)) ) gX11_leaf_X11_in (by decide +kernel) rfl ⟨rfl, rfl⟩ ⟨Nat.le_of_ble_eq_true rfl, Nat.le_of_ble_eq_true rfl⟩ [] [0] 1 rfl (by decide) (fun jj : Unit => [oB h 11 (mO b v)]) (fun _ => rfl) (by decide) [h] rfl (fun _ => rfl) (fun _ => rfl) [oB h 11 (mO b v)] rfl (fun _ => rfl) rfl [] rfl (Nat.le_of_ble_eq_true rfl) ⟨Nat.le_refl _, Nat.le_refl _⟩ dX11_leaf_54 ?_
    intro _ hu_6
    refine j_w [oB h 11 (mO b v)] rfl ?_
    refine j_st [.int (if wiB (nI u) 0 (nI ((1 * 2 ^ ht) - 1)) then 1 else 0)] rfl ?_
    refine j_topeq _ (nI 1) (wiN 0 (1 * 2 ^ ht - 1) (by omega) (by omega) (by omega)) ?_
    refine j_if_neN hX 1 63 dX11_leaf_57 (by decide) (by omega) (fun b_57 => ?_) (fun b_57 => absurd b_57 (by omega))
    refine j_iload hX 4 dX11_leaf_63 rfl ?_
    refine j_iconst hX (0) dX11_leaf_65 (by decide) ?_
    refine j_aload_n hX 0 dX11_leaf_66 rfl ?_
    refine j_gete hX (nI nn) in11 11 0 16 rfl rfl (by decide) (List.mem_of_getElem? (i := 3) rfl) rfl rfl hv16 dX11_leaf_67 ?_
    refine j_iconst hX (1) dX11_leaf_70 (by decide) ?_
    refine j_pc 71 rfl ?_
    refine j_isubN hX nn 1 (by omega) dX11_leaf_71 ?_
    refine j_callS2 hX 3 (c_in l g xi 0 (nI (nn - 1)) ) gX11_leaf_X11_in (by decide +kernel) rfl ⟨rfl, rfl⟩ ⟨Nat.le_of_ble_eq_true rfl, Nat.le_of_ble_eq_true rfl⟩ [] [0] 1 rfl (by decide) (fun jj : Unit => [oB h 11 (mO b v)]) (fun _ => rfl) (by decide) [h] rfl (fun _ => rfl) (fun _ => rfl) [oB h 11 (mO b v)] rfl (fun _ => rfl) rfl [] rfl (Nat.le_of_ble_eq_true rfl) ⟨Nat.le_refl _, Nat.le_refl _⟩ dX11_leaf_72 ?_
    intro _ hu_7
    refine j_w [oB h 11 (mO b v)] rfl ?_
    refine j_st [.int (if wiB xi 0 (nI (nn - 1)) then 1 else 0)] rfl ?_
    refine j_if_ne hX 81 dX11_leaf_75 (by decide) (fun b_75 => absurd b_75 (fun hh => by rcases hF with h | h; exact absurd h (Int32.not_lt.mpr (wi_and (wi_of hh)).1); (obtain ⟨q9, e9, -, c9⟩ := wi_nat 0 (nn - 1) ⟨by decide, by omega⟩ (wi_of hh); rw [e9, nI_leI (by omega) (by omega)] at h; omega))) (fun b_75 => ?_)
    refine j_bipush hX (-9) dX11_leaf_78 (by decide) ?_
    exact hret () trivial 80 _ .ireturn dX11_leaf_80 rfl

set_option maxHeartbeats 4000000 in
set_option maxRecDepth 100000 in
/-- the reference: leaf, outside -/
theorem c_mleafO (l : Launch) (g : jG) (h : Nat) (b : Nat → Nat) (v : Nat → Int32) (fm : Nat) (nn : Nat) (ht : Nat) (lys : Nat) (fa : Nat) (mk : Nat) (xl : Int32) (xt : Int32) (xu : Int32) (xi : Int32) (hv17 : v 17 = nI ht) (hv18 : v 18 = nI lys) (hfm : fm < 2) (hnn4 : nn = 4 ∨ nn = 8 ∨ nn = 12 ∨ nn = 16) (hht : 1 ≤ ht ∧ ht ≤ 2) (hlys : 1 ≤ lys ∧ lys ≤ 2) (hfa : 1 ≤ fa ∧ fa ≤ 4) (hmk : 1 ≤ mk ∧ mk ≤ 6) (hF : ¬ (htP lys ht xl xt ∧ ∃ q : Nat, xu = nI q ∧ q < 2 ^ ht)) : jC l g yX11_leaf wsX11_leaf ({ frames := 7, cells := 0, slots := 0, locals := 171 } : Room) [.ref h, .int xl, .int xt, .int xu, .int xi] [oB h 11 (mO b v)] (fun jj : Unit => some (.int (-2))) (fun jj : Unit => True) (fun jj : Unit => [oB h 11 (mO b v)]) := by
  refine jC.of (cc := cX11_leaf) (own := RX11) (maxL := 5) (ret := (some .int)) (by decide +kernel) rfl rfl (Nat.le_of_ble_eq_true rfl) (fun u hu => ⟨_, rfl, rfl⟩) ?_
  intro p e s m below meth c A Q hX hret
  have in11 : ∀ w ∈ wsX110, w ∈ wsX11_leaf := (fun w h => List.mem_cons_of_mem _ (List.mem_append_right _ h))
  have hp4 := pow4 hht.2
  have hq2 := Nat.two_pow_pos ht
  have hnn : nn ≤ 16 := by omega
  refine j_iload_n hX 1 dX11_leaf_0 rfl ?_
  refine j_iconst hX (0) dX11_leaf_1 (by decide) ?_
  refine j_aload_n hX 0 dX11_leaf_2 rfl ?_
  refine j_gete hX (nI lys) in11 11 0 18 rfl rfl (by decide) (List.mem_of_getElem? (i := 1) rfl) rfl rfl hv18 dX11_leaf_3 ?_
  refine j_iconst hX (1) dX11_leaf_6 (by decide) ?_
  refine j_isubN hX lys 1 (by omega) dX11_leaf_7 ?_
  refine j_callS2 hX 3 (c_in l g xl 0 (nI (lys - 1)) ) gX11_leaf_X11_in (by decide +kernel) rfl ⟨rfl, rfl⟩ ⟨Nat.le_of_ble_eq_true rfl, Nat.le_of_ble_eq_true rfl⟩ [] [0] 1 rfl (by decide) (fun jj : Unit => [oB h 11 (mO b v)]) (fun _ => rfl) (by decide) [h] rfl (fun _ => rfl) (fun _ => rfl) [oB h 11 (mO b v)] rfl (fun _ => rfl) rfl [] rfl (Nat.le_of_ble_eq_true rfl) ⟨Nat.le_refl _, Nat.le_refl _⟩ dX11_leaf_8 ?_
  intro _ hu_1
  refine j_w [oB h 11 (mO b v)] rfl ?_
  refine j_st [.int (if wiB xl 0 (nI (lys - 1)) then 1 else 0)] rfl ?_
  refine j_pc 11 rfl ?_
  refine j_if_eq hX 60 dX11_leaf_11 (by decide) (fun b_11 => ?_) (fun b_11 => ?_)
  · skip
    refine j_bipush hX (-2) dX11_leaf_60 (by decide) ?_
    exact hret () trivial 62 _ .ireturn dX11_leaf_62 rfl
  · skip
    refine j_iload_n hX 2 dX11_leaf_14 rfl ?_
    refine j_iconst hX (0) dX11_leaf_15 (by decide) ?_
    refine j_iload_n hX 1 dX11_leaf_16 rfl ?_
    refine j_aload_n hX 0 dX11_leaf_17 rfl ?_
    refine j_gete hX (nI lys) in11 11 0 18 rfl rfl (by decide) (List.mem_of_getElem? (i := 1) rfl) rfl rfl hv18 dX11_leaf_18 ?_
    refine j_pc 21 rfl ?_
    refine j_iconst hX (1) dX11_leaf_21 (by decide) ?_
    refine j_isubN hX lys 1 (by omega) dX11_leaf_22 ?_
    refine j_icmp_ne hX 30 dX11_leaf_23 (by decide) (fun b_23 => ?_) (fun b_23 => ?_)
    · skip
      refine j_iconst hX (1) dX11_leaf_30 (by decide) ?_
      refine j_aload_n hX 0 dX11_leaf_31 rfl ?_
      refine j_gete hX (nI ht) in11 11 0 17 rfl rfl (by decide) (List.mem_of_getElem? (i := 2) rfl) rfl rfl hv17 dX11_leaf_32 ?_
      refine j_ishlN hX 1 ht (by omega) (by omega) dX11_leaf_35 ?_
      refine j_iconst hX (1) dX11_leaf_36 (by decide) ?_
      refine j_pc 37 rfl ?_
      refine j_isubN hX (1 * 2 ^ ht) 1 (by omega) dX11_leaf_37 ?_
      refine j_callS2 hX 3 (c_in l g xt 0 (nI ((1 * 2 ^ ht) - 1)) ) gX11_leaf_X11_in (by decide +kernel) rfl ⟨rfl, rfl⟩ ⟨Nat.le_of_ble_eq_true rfl, Nat.le_of_ble_eq_true rfl⟩ [] [0] 1 rfl (by decide) (fun jj : Unit => [oB h 11 (mO b v)]) (fun _ => rfl) (by decide) [h] rfl (fun _ => rfl) (fun _ => rfl) [oB h 11 (mO b v)] rfl (fun _ => rfl) rfl [] rfl (Nat.le_of_ble_eq_true rfl) ⟨Nat.le_refl _, Nat.le_refl _⟩ dX11_leaf_38 ?_
      intro _ hu_2
      refine j_w [oB h 11 (mO b v)] rfl ?_
      refine j_st [.int (if wiB xt 0 (nI ((1 * 2 ^ ht) - 1)) then 1 else 0)] rfl ?_
      refine j_if_eq hX 60 dX11_leaf_41 (by decide) (fun b_41 => ?_) (fun b_41 => ?_)
      · skip
        refine j_bipush hX (-2) dX11_leaf_60 (by decide) ?_
        exact hret () trivial 62 _ .ireturn dX11_leaf_62 rfl
      · skip
        refine j_iload_n hX 3 dX11_leaf_44 rfl ?_
        refine j_iconst hX (0) dX11_leaf_45 (by decide) ?_
        refine j_iconst hX (1) dX11_leaf_46 (by decide) ?_
        refine j_pc 47 rfl ?_
        refine j_aload_n hX 0 dX11_leaf_47 rfl ?_
        refine j_gete hX (nI ht) in11 11 0 17 rfl rfl (by decide) (List.mem_of_getElem? (i := 2) rfl) rfl rfl hv17 dX11_leaf_48 ?_
        refine j_ishlN hX 1 ht (by omega) (by omega) dX11_leaf_51 ?_
        refine j_iconst hX (1) dX11_leaf_52 (by decide) ?_
        refine j_isubN hX (1 * 2 ^ ht) 1 (by omega) dX11_leaf_53 ?_
        refine j_callS2 hX 3 (c_in l g xu 0 (nI ((1 * 2 ^ ht) - 1)) ) gX11_leaf_X11_in (by decide +kernel) rfl ⟨rfl, rfl⟩ ⟨Nat.le_of_ble_eq_true rfl, Nat.le_of_ble_eq_true rfl⟩ [] [0] 1 rfl (by decide) (fun jj : Unit => [oB h 11 (mO b v)]) (fun _ => rfl) (by decide) [h] rfl (fun _ => rfl) (fun _ => rfl) [oB h 11 (mO b v)] rfl (fun _ => rfl) rfl [] rfl (Nat.le_of_ble_eq_true rfl) ⟨Nat.le_refl _, Nat.le_refl _⟩ dX11_leaf_54 ?_
        intro _ hu_3
        refine j_w [oB h 11 (mO b v)] rfl ?_
        refine j_st [.int (if wiB xu 0 (nI ((1 * 2 ^ ht) - 1)) then 1 else 0)] rfl ?_
        refine j_if_ne hX 63 dX11_leaf_57 (by decide) (fun b_57 => ?_) (fun b_57 => ?_)
        · skip
          exact absurd (by obtain ⟨q1, e1, -, c1⟩ := wi_nat 0 (lys - 1) ⟨by decide, by omega⟩ (wi_of b_11); obtain ⟨q3, e3, -, c3⟩ := wi_nat 0 (1 * 2 ^ ht - 1) ⟨by decide, by omega⟩ (wi_of b_57); refine ⟨?_, q3, e3, by omega⟩; first | (obtain ⟨q2, e2, -, c2⟩ := wi_nat 0 0 ⟨by decide, by decide⟩ (wi_of b_41); exact ⟨q1, q2, e1, e2, by omega, by rw [e1] at b_23; have h9 := (nI_eq (by omega) (by omega)).mp b_23; rw [if_pos (by omega)]; omega⟩) | (obtain ⟨q2, e2, -, c2⟩ := wi_nat 0 (1 * 2 ^ ht - 1) ⟨by decide, by omega⟩ (wi_of b_41); exact ⟨q1, q2, e1, e2, by omega, by have h9 : ¬ q1 = lys - 1 := (fun e => b_23 (by rw [e1, e])); rw [if_neg (by omega)]; omega⟩)) hF
        · skip
          refine j_bipush hX (-2) dX11_leaf_60 (by decide) ?_
          refine j_pc 62 rfl ?_
          exact hret () trivial 62 _ .ireturn dX11_leaf_62 rfl
    · skip
      refine j_iconst hX (0) dX11_leaf_26 (by decide) ?_
      refine j_goto hX 38 dX11_leaf_27 (by decide) ?_
      refine j_callS2 hX 3 (c_in l g xt 0 0 ) gX11_leaf_X11_in (by decide +kernel) rfl ⟨rfl, rfl⟩ ⟨Nat.le_of_ble_eq_true rfl, Nat.le_of_ble_eq_true rfl⟩ [] [0] 1 rfl (by decide) (fun jj : Unit => [oB h 11 (mO b v)]) (fun _ => rfl) (by decide) [h] rfl (fun _ => rfl) (fun _ => rfl) [oB h 11 (mO b v)] rfl (fun _ => rfl) rfl [] rfl (Nat.le_of_ble_eq_true rfl) ⟨Nat.le_refl _, Nat.le_refl _⟩ dX11_leaf_38 ?_
      intro _ hu_4
      refine j_w [oB h 11 (mO b v)] rfl ?_
      refine j_st [.int (if wiB xt 0 0 then 1 else 0)] rfl ?_
      refine j_if_eq hX 60 dX11_leaf_41 (by decide) (fun b_41 => ?_) (fun b_41 => ?_)
      · skip
        refine j_bipush hX (-2) dX11_leaf_60 (by decide) ?_
        exact hret () trivial 62 _ .ireturn dX11_leaf_62 rfl
      · skip
        refine j_iload_n hX 3 dX11_leaf_44 rfl ?_
        refine j_pc 45 rfl ?_
        refine j_iconst hX (0) dX11_leaf_45 (by decide) ?_
        refine j_iconst hX (1) dX11_leaf_46 (by decide) ?_
        refine j_aload_n hX 0 dX11_leaf_47 rfl ?_
        refine j_gete hX (nI ht) in11 11 0 17 rfl rfl (by decide) (List.mem_of_getElem? (i := 2) rfl) rfl rfl hv17 dX11_leaf_48 ?_
        refine j_ishlN hX 1 ht (by omega) (by omega) dX11_leaf_51 ?_
        refine j_iconst hX (1) dX11_leaf_52 (by decide) ?_
        refine j_isubN hX (1 * 2 ^ ht) 1 (by omega) dX11_leaf_53 ?_
        refine j_callS2 hX 3 (c_in l g xu 0 (nI ((1 * 2 ^ ht) - 1)) ) gX11_leaf_X11_in (by decide +kernel) rfl ⟨rfl, rfl⟩ ⟨Nat.le_of_ble_eq_true rfl, Nat.le_of_ble_eq_true rfl⟩ [] [0] 1 rfl (by decide) (fun jj : Unit => [oB h 11 (mO b v)]) (fun _ => rfl) (by decide) [h] rfl (fun _ => rfl) (fun _ => rfl) [oB h 11 (mO b v)] rfl (fun _ => rfl) rfl [] rfl (Nat.le_of_ble_eq_true rfl) ⟨Nat.le_refl _, Nat.le_refl _⟩ dX11_leaf_54 ?_
        intro _ hu_5
        refine j_w [oB h 11 (mO b v)] rfl ?_
        refine j_st [.int (if wiB xu 0 (nI ((1 * 2 ^ ht) - 1)) then 1 else 0)] rfl ?_
        refine j_pc 57 rfl ?_
        refine j_if_ne hX 63 dX11_leaf_57 (by decide) (fun b_57 => ?_) (fun b_57 => ?_)
        · skip
          exact absurd (by obtain ⟨q1, e1, -, c1⟩ := wi_nat 0 (lys - 1) ⟨by decide, by omega⟩ (wi_of b_11); obtain ⟨q3, e3, -, c3⟩ := wi_nat 0 (1 * 2 ^ ht - 1) ⟨by decide, by omega⟩ (wi_of b_57); refine ⟨?_, q3, e3, by omega⟩; first | (obtain ⟨q2, e2, -, c2⟩ := wi_nat 0 0 ⟨by decide, by decide⟩ (wi_of b_41); exact ⟨q1, q2, e1, e2, by omega, by rw [e1] at b_23; have h9 := (nI_eq (by omega) (by omega)).mp b_23; rw [if_pos (by omega)]; omega⟩) | (obtain ⟨q2, e2, -, c2⟩ := wi_nat 0 (1 * 2 ^ ht - 1) ⟨by decide, by omega⟩ (wi_of b_41); exact ⟨q1, q2, e1, e2, by omega, by have h9 : ¬ q1 = lys - 1 := (fun e => b_23 (by rw [e1, e])); rw [if_neg (by omega)]; omega⟩)) hF
        · skip
          refine j_bipush hX (-2) dX11_leaf_60 (by decide) ?_
          exact hret () trivial 62 _ .ireturn dX11_leaf_62 rfl

set_option maxHeartbeats 4000000 in
set_option maxRecDepth 100000 in
/-- the reference: told -/
theorem c_mtold0 (l : Launch) (g : jG) (h : Nat) (b : Nat → Nat) (v : Nat → Int32) (ntp : Nat) (hv1 : v 1 = nI ntp) : jC l g yX11_told wsX11_told ({ frames := 0, cells := 0, slots := 0, locals := 0 } : Room) [.ref h, .int (nI 0)] [oB h 11 (mO b v)] (fun jj : Unit => some (.int (nI ntp))) (fun jj : Unit => True) (fun jj : Unit => [oB h 11 (mO b v)]) := by
  refine jC.of (cc := cX11_told) (own := RX11) (maxL := 2) (ret := (some .int)) (by decide +kernel) rfl rfl (Nat.le_of_ble_eq_true rfl) (fun u hu => ⟨_, rfl, rfl⟩) ?_
  intro p e s m below meth c A Q hX hret
  have in11 : ∀ w ∈ wsX110, w ∈ wsX11_told := (fun w h => List.mem_cons_of_mem _ (List.mem_append_right _ h))
  refine j_iload_n hX 1 dX11_told_0 rfl ?_
  refine j_tableIn hX (off := 39) 40 dX11_told_1 (by decide) (by decide) (by decide) (by decide) ?_
  refine j_aload_n hX 0 dX11_told_40 rfl ?_
  refine j_gete hX (nI ntp) in11 11 0 1 rfl rfl (by decide) (List.mem_of_getElem? (i := 1) rfl) rfl rfl hv1 dX11_told_41 ?_
  exact hret () trivial 44 _ .ireturn dX11_told_44 rfl

set_option maxHeartbeats 4000000 in
set_option maxRecDepth 100000 in
/-- the reference: told -/
theorem c_mtold1 (l : Launch) (g : jG) (h : Nat) (b : Nat → Nat) (v : Nat → Int32) (nsg : Nat) (hv25 : v 25 = nI nsg) : jC l g yX11_told wsX11_told ({ frames := 0, cells := 0, slots := 0, locals := 0 } : Room) [.ref h, .int (nI 1)] [oB h 11 (mO b v)] (fun jj : Unit => some (.int (nI nsg))) (fun jj : Unit => True) (fun jj : Unit => [oB h 11 (mO b v)]) := by
  refine jC.of (cc := cX11_told) (own := RX11) (maxL := 2) (ret := (some .int)) (by decide +kernel) rfl rfl (Nat.le_of_ble_eq_true rfl) (fun u hu => ⟨_, rfl, rfl⟩) ?_
  intro p e s m below meth c A Q hX hret
  have in11 : ∀ w ∈ wsX110, w ∈ wsX11_told := (fun w h => List.mem_cons_of_mem _ (List.mem_append_right _ h))
  refine j_iload_n hX 1 dX11_told_0 rfl ?_
  refine j_tableIn hX (off := 44) 45 dX11_told_1 (by decide) (by decide) (by decide) (by decide) ?_
  refine j_aload_n hX 0 dX11_told_45 rfl ?_
  refine j_gete hX (nI nsg) in11 11 0 25 rfl rfl (by decide) (List.mem_of_getElem? (i := 2) rfl) rfl rfl hv25 dX11_told_46 ?_
  exact hret () trivial 49 _ .ireturn dX11_told_49 rfl

set_option maxHeartbeats 4000000 in
set_option maxRecDepth 100000 in
/-- the reference: told -/
theorem c_mtold2 (l : Launch) (g : jG) (h : Nat) (b : Nat → Nat) (v : Nat → Int32) (fm : Nat) (nn : Nat) (ht : Nat) (lys : Nat) (fa : Nat) (mk : Nat) (hv22 : v 22 = nI (sgS nn ht lys fa mk)) : jC l g yX11_told wsX11_told ({ frames := 0, cells := 0, slots := 0, locals := 0 } : Room) [.ref h, .int (nI 2)] [oB h 11 (mO b v)] (fun jj : Unit => some (.int (nI (sgS nn ht lys fa mk)))) (fun jj : Unit => True) (fun jj : Unit => [oB h 11 (mO b v)]) := by
  refine jC.of (cc := cX11_told) (own := RX11) (maxL := 2) (ret := (some .int)) (by decide +kernel) rfl rfl (Nat.le_of_ble_eq_true rfl) (fun u hu => ⟨_, rfl, rfl⟩) ?_
  intro p e s m below meth c A Q hX hret
  have in11 : ∀ w ∈ wsX110, w ∈ wsX11_told := (fun w h => List.mem_cons_of_mem _ (List.mem_append_right _ h))
  refine j_iload_n hX 1 dX11_told_0 rfl ?_
  refine j_tableIn hX (off := 49) 50 dX11_told_1 (by decide) (by decide) (by decide) (by decide) ?_
  refine j_aload_n hX 0 dX11_told_50 rfl ?_
  refine j_gete hX (nI (sgS nn ht lys fa mk)) in11 11 0 22 rfl rfl (by decide) (List.mem_of_getElem? (i := 3) rfl) rfl rfl hv22 dX11_told_51 ?_
  exact hret () trivial 54 _ .ireturn dX11_told_54 rfl

set_option maxHeartbeats 4000000 in
set_option maxRecDepth 100000 in
/-- the reference: told -/
theorem c_mtold3 (l : Launch) (g : jG) (h : Nat) (b : Nat → Nat) (v : Nat → Int32) (nn : Nat) (hv21 : v 21 = nI (ln nn)) : jC l g yX11_told wsX11_told ({ frames := 0, cells := 0, slots := 0, locals := 0 } : Room) [.ref h, .int (nI 3)] [oB h 11 (mO b v)] (fun jj : Unit => some (.int (nI (ln nn)))) (fun jj : Unit => True) (fun jj : Unit => [oB h 11 (mO b v)]) := by
  refine jC.of (cc := cX11_told) (own := RX11) (maxL := 2) (ret := (some .int)) (by decide +kernel) rfl rfl (Nat.le_of_ble_eq_true rfl) (fun u hu => ⟨_, rfl, rfl⟩) ?_
  intro p e s m below meth c A Q hX hret
  have in11 : ∀ w ∈ wsX110, w ∈ wsX11_told := (fun w h => List.mem_cons_of_mem _ (List.mem_append_right _ h))
  refine j_iload_n hX 1 dX11_told_0 rfl ?_
  refine j_tableIn hX (off := 54) 55 dX11_told_1 (by decide) (by decide) (by decide) (by decide) ?_
  refine j_aload_n hX 0 dX11_told_55 rfl ?_
  refine j_gete hX (nI (ln nn)) in11 11 0 21 rfl rfl (by decide) (List.mem_of_getElem? (i := 4) rfl) rfl rfl hv21 dX11_told_56 ?_
  exact hret () trivial 59 _ .ireturn dX11_told_59 rfl

set_option maxHeartbeats 4000000 in
set_option maxRecDepth 100000 in
/-- the reference: told -/
theorem c_mtold4 (l : Launch) (g : jG) (h : Nat) (b : Nat → Nat) (v : Nat → Int32) (nn : Nat) (hv16 : v 16 = nI nn) : jC l g yX11_told wsX11_told ({ frames := 0, cells := 0, slots := 0, locals := 0 } : Room) [.ref h, .int (nI 4)] [oB h 11 (mO b v)] (fun jj : Unit => some (.int (nI nn))) (fun jj : Unit => True) (fun jj : Unit => [oB h 11 (mO b v)]) := by
  refine jC.of (cc := cX11_told) (own := RX11) (maxL := 2) (ret := (some .int)) (by decide +kernel) rfl rfl (Nat.le_of_ble_eq_true rfl) (fun u hu => ⟨_, rfl, rfl⟩) ?_
  intro p e s m below meth c A Q hX hret
  have in11 : ∀ w ∈ wsX110, w ∈ wsX11_told := (fun w h => List.mem_cons_of_mem _ (List.mem_append_right _ h))
  refine j_iload_n hX 1 dX11_told_0 rfl ?_
  refine j_tableIn hX (off := 59) 60 dX11_told_1 (by decide) (by decide) (by decide) (by decide) ?_
  refine j_aload_n hX 0 dX11_told_60 rfl ?_
  refine j_gete hX (nI nn) in11 11 0 16 rfl rfl (by decide) (List.mem_of_getElem? (i := 5) rfl) rfl rfl hv16 dX11_told_61 ?_
  exact hret () trivial 64 _ .ireturn dX11_told_64 rfl

set_option maxHeartbeats 4000000 in
set_option maxRecDepth 100000 in
/-- the reference: told -/
theorem c_mtold5T (l : Launch) (g : jG) (h : Nat) (b : Nat → Nat) (v : Nat → Int32) (hv24 : v 24 = nI 1) : jC l g yX11_told wsX11_told ({ frames := 0, cells := 0, slots := 0, locals := 0 } : Room) [.ref h, .int (nI 5)] [oB h 11 (mO b v)] (fun jj : Unit => some (.int (nI 1))) (fun jj : Unit => True) (fun jj : Unit => [oB h 11 (mO b v)]) := by
  refine jC.of (cc := cX11_told) (own := RX11) (maxL := 2) (ret := (some .int)) (by decide +kernel) rfl rfl (Nat.le_of_ble_eq_true rfl) (fun u hu => ⟨_, rfl, rfl⟩) ?_
  intro p e s m below meth c A Q hX hret
  have in11 : ∀ w ∈ wsX110, w ∈ wsX11_told := (fun w h => List.mem_cons_of_mem _ (List.mem_append_right _ h))
  refine j_iload_n hX 1 dX11_told_0 rfl ?_
  refine j_tableIn hX (off := 64) 65 dX11_told_1 (by decide) (by decide) (by decide) (by decide) ?_
  refine j_aload_n hX 0 dX11_told_65 rfl ?_
  refine j_gete hX (nI 1) in11 11 0 24 rfl rfl (by decide) (List.mem_of_getElem? (i := 6) rfl) rfl rfl hv24 dX11_told_66 ?_
  refine j_if_eqN hX 1 76 dX11_told_69 (by decide) (by omega) (fun b_69 => absurd b_69 (by omega)) (fun b_69 => ?_)
  refine j_iconst hX (1) dX11_told_72 (by decide) ?_
  refine j_goto hX 77 dX11_told_73 (by decide) ?_
  refine j_pc 77 rfl ?_
  exact hret () trivial 77 _ .ireturn dX11_told_77 rfl

set_option maxHeartbeats 4000000 in
set_option maxRecDepth 100000 in
/-- the reference: told -/
theorem c_mtold5F (l : Launch) (g : jG) (h : Nat) (b : Nat → Nat) (v : Nat → Int32) (hv24 : v 24 = nI 0) : jC l g yX11_told wsX11_told ({ frames := 0, cells := 0, slots := 0, locals := 0 } : Room) [.ref h, .int (nI 5)] [oB h 11 (mO b v)] (fun jj : Unit => some (.int (nI 0))) (fun jj : Unit => True) (fun jj : Unit => [oB h 11 (mO b v)]) := by
  refine jC.of (cc := cX11_told) (own := RX11) (maxL := 2) (ret := (some .int)) (by decide +kernel) rfl rfl (Nat.le_of_ble_eq_true rfl) (fun u hu => ⟨_, rfl, rfl⟩) ?_
  intro p e s m below meth c A Q hX hret
  have in11 : ∀ w ∈ wsX110, w ∈ wsX11_told := (fun w h => List.mem_cons_of_mem _ (List.mem_append_right _ h))
  refine j_iload_n hX 1 dX11_told_0 rfl ?_
  refine j_tableIn hX (off := 64) 65 dX11_told_1 (by decide) (by decide) (by decide) (by decide) ?_
  refine j_aload_n hX 0 dX11_told_65 rfl ?_
  refine j_gete hX (nI 0) in11 11 0 24 rfl rfl (by decide) (List.mem_of_getElem? (i := 6) rfl) rfl rfl hv24 dX11_told_66 ?_
  refine j_if_eqN hX 0 76 dX11_told_69 (by decide) (by omega) (fun b_69 => ?_) (fun b_69 => absurd b_69 (by omega))
  refine j_iconst hX (0) dX11_told_76 (by decide) ?_
  exact hret () trivial 77 _ .ireturn dX11_told_77 rfl

set_option maxHeartbeats 4000000 in
set_option maxRecDepth 100000 in
/-- the reference: told, outside -/
theorem c_mtoldX (l : Launch) (g : jG) (h : Nat) (b : Nat → Nat) (v : Nat → Int32) (xw : Int32) (hF : xw.toInt < 0 ∨ 5 < xw.toInt) : jC l g yX11_told wsX11_told ({ frames := 0, cells := 0, slots := 0, locals := 0 } : Room) [.ref h, .int xw] [oB h 11 (mO b v)] (fun jj : Unit => some (.int (-2))) (fun jj : Unit => True) (fun jj : Unit => [oB h 11 (mO b v)]) := by
  refine jC.of (cc := cX11_told) (own := RX11) (maxL := 2) (ret := (some .int)) (by decide +kernel) rfl rfl (Nat.le_of_ble_eq_true rfl) (fun u hu => ⟨_, rfl, rfl⟩) ?_
  intro p e s m below meth c A Q hX hret
  refine j_iload_n hX 1 dX11_told_0 rfl ?_
  refine j_tableOut hX 78 dX11_told_1 hF (by decide) ?_
  refine j_bipush hX (-2) dX11_told_78 (by decide) ?_
  exact hret () trivial 80 _ .ireturn dX11_told_80 rfl

