/-- ONE's chains for a row f -/
def oneC (fm n : Nat) (sd : Nat → Int32) (ly tr u : Nat) (f : Nat → Int32) : Nat → List Int32
  | 0 => []
  | k + 1 => oneC fm n sd ly tr u f k ++ chT fm n sd ly tr u k (secT fm n sd ly tr 5 u k 0) 0 (dgt f n k)
theorem oneC_length {fm n : Nat} (hn : n ≤ 32) (sd : Nat → Int32) (ly tr u : Nat) (f : Nat → Int32) : ∀ k, (oneC fm n sd ly tr u f k).length = k * n
  | 0 => by rw [Nat.zero_mul]; rfl
  | k + 1 => by rw [oneC, List.length_append, oneC_length hn, chT_length hn _ _ _ _ _ (secT_length hn _ _ _ _ _ _ _), Nat.succ_mul]
theorem oneC_congr {fm n : Nat} {sd : Nat → Int32} {ly tr u : Nat} {f h : Nat → Int32} (e : ∀ j, j < n → f j = h j) : ∀ k, oneC fm n sd ly tr u f k = oneC fm n sd ly tr u h k
  | 0 => rfl
  | k + 1 => by rw [oneC, oneC, oneC_congr e k, dgt_congr e]
theorem oneC_step {fm n : Nat} {sd : Nat → Int32} {ly tr u k t b : Nat} {f e0 E E1 E2 : Nat → Int32} (hn : n ≤ 16) (ht : t = b + k * n) (hE : E = putL e0 b (oneC fm n sd ly tr u f k)) (h1 : E1 = putL E t (secT fm n sd ly tr 5 u k 0)) (h2 : E2 = putL E1 t (chT fm n sd ly tr u k (slice E1 t n) 0 (dgt f n k))) : E2 = putL e0 b (oneC fm n sd ly tr u f (k + 1)) := by
  have hs : slice E1 t n = secT fm n sd ly tr 5 u k 0 := by rw [h1, slice_put (by rw [secT_length (by omega)])]
  rw [hs] at h2
  rw [h2, h1, putL_over (by rw [secT_length (by omega), chT_length (by omega) _ _ _ _ _ (secT_length (by omega) _ _ _ _ _ _ _)]), hE, putL_app' (by rw [oneC_length (by omega)]; exact ht)]
  rfl
/-- the ends to which the chains at t of a signature f2 lead from a row f -/
def ldE (fm n : Nat) (sd : Nat → Int32) (ly tr u : Nat) (f f2 : Nat → Int32) (t : Nat) : Nat → List Int32
  | 0 => []
  | k + 1 => ldE fm n sd ly tr u f f2 t k ++ chT fm n sd ly tr u k (slice f2 (t + k * n) n) (dgt f n k) (15 - dgt f n k)
theorem ldE_length {fm n : Nat} (hn : n ≤ 32) (sd : Nat → Int32) (ly tr u : Nat) (f f2 : Nat → Int32) (t : Nat) : ∀ k, (ldE fm n sd ly tr u f f2 t k).length = k * n
  | 0 => by rw [Nat.zero_mul]; rfl
  | k + 1 => by rw [ldE, List.length_append, ldE_length hn, chT_length hn _ _ _ _ _ (slice_length _ _ _), Nat.succ_mul]
theorem ldE_congr {fm n : Nat} {sd : Nat → Int32} {ly tr u : Nat} {f h f2 h2 : Nat → Int32} {t t2 : Nat} (e : ∀ j, j < n → f j = h j) : ∀ k, (∀ j, j < k * n → f2 (t + j) = h2 (t2 + j)) → ldE fm n sd ly tr u f f2 t k = ldE fm n sd ly tr u h h2 t2 k
  | 0, _ => rfl
  | k + 1, e2 => by
    rw [Nat.succ_mul] at e2
    rw [ldE, ldE, ldE_congr e k (fun j hj => e2 j (by omega)), dgt_congr e, slice_congr (f := f2) (h := h2) (s := t + k * n) (t := t2 + k * n) (fun j hj => by rw [Nat.add_assoc, Nat.add_assoc]; exact e2 _ (by omega))]
theorem ldE_step {fm n : Nat} {sd : Nat → Int32} {ly tr u k w t : Nat} {f f2 e0 E E1 E2 : Nat → Int32} (hn : n ≤ 16) (hw : w = k * n) (hE : E = putL e0 0 (ldE fm n sd ly tr u f f2 t k)) (h1 : E1 = putL E w (slice f2 (t + k * n) n)) (h2 : E2 = putL E1 w (chT fm n sd ly tr u k (slice E1 w n) (dgt f n k) (15 - dgt f n k))) : E2 = putL e0 0 (ldE fm n sd ly tr u f f2 t (k + 1)) := by
  have hs : slice E1 w n = slice f2 (t + k * n) n := by rw [h1, slice_put (by rw [slice_length])]
  rw [hs] at h2
  rw [h2, h1, putL_over (by rw [slice_length, chT_length (by omega) _ _ _ _ _ (slice_length _ _ _)]), hE, putL_app' (by rw [ldE_length (by omega)]; omega)]
  rfl
theorem mul_lt2 {n k : Nat} (hk : k < ln n) : k * n + n ≤ ln n * n := by
  have := Nat.mul_le_mul_right n (show k + 1 ≤ ln n by omega)
  rw [Nat.succ_mul] at this
  exact this
theorem lnn {n : Nat} (hn : n ≤ 16) : ln n * n ≤ 560 := Nat.le_trans (Nat.mul_le_mul (show ln n ≤ 35 by have := ln_le n; omega) hn) (by decide)

set_option maxRecDepth 20000 in
theorem ggX0_write_X0_readDigits : GoodIn wsX0_write wsX0_readDigits := goodIn_r _ [9, 1, 10, 4, 11, 12, 13, 14, 15, 16, 17, 18, 19, 20, 21, 22, 23, 138, 139, 140, 141, 142, 143, 146, 147, 148, 149, 150, 151, 144, 145] rfl (by decide +kernel)
set_option maxRecDepth 20000 in
theorem gX0_write_X0_readDigits : GoodIn wsX0_write (wsV RX0 89 RX0 yX0_readDigits wsX0_readDigits) := goodIn_app (goodIn_of _ (by decide +kernel)) ggX0_write_X0_readDigits
set_option maxRecDepth 20000 in
theorem ggX0_write_X8_len : GoodIn wsX0_write wsX8_len := goodIn_r _ [22, 23, 146, 147, 148, 149, 150, 151] rfl (by decide +kernel)
set_option maxRecDepth 20000 in
theorem gX0_write_X8_len : GoodIn wsX0_write (wsV RX0 56 RX8 yX8_len wsX8_len) := goodIn_app (goodIn_of _ (by decide +kernel)) ggX0_write_X8_len
set_option maxRecDepth 20000 in
theorem ggX0_write_X5_addSecret : GoodIn wsX0_write wsX5_addSecret := goodIn_r _ [28, 29, 30, 31, 32, 33, 34, 35, 36, 27, 37, 38, 39, 40, 41, 42, 43, 14, 44, 16, 45, 46, 47, 48, 17, 49, 50, 51, 52, 53, 54, 55, 56, 57, 58, 59, 60, 61, 62, 63, 64, 65, 66, 67, 68, 69, 70, 71, 72, 73, 74, 75, 76, 77, 78, 79, 80, 81, 82, 83, 84, 85, 86, 87, 88, 89, 12, 13, 15, 90, 91, 92, 93, 94, 95, 96, 97, 98, 99, 100, 101, 102, 103, 104, 105, 106, 107, 108, 109, 110, 111, 112, 113, 114, 115, 116, 117, 118, 119, 120, 121, 122, 123, 124, 125, 126, 127, 128, 129, 130, 131, 132, 133, 152, 153, 154, 155, 156, 157, 158, 159, 146, 147, 148, 149, 150, 151, 144, 145, 160, 161, 162, 163] rfl (by decide +kernel)
set_option maxRecDepth 20000 in
theorem gX0_write_X5_addSecret : GoodIn wsX0_write (wsV RX0 62 RX5 yX5_addSecret wsX5_addSecret) := goodIn_app (goodIn_of _ (by decide +kernel)) ggX0_write_X5_addSecret
set_option maxRecDepth 20000 in
theorem ggX0_write_X5_chain : GoodIn wsX0_write wsX5_chain := goodIn_r _ [137, 29, 31, 32, 34, 35, 36, 27, 37, 38, 30, 39, 40, 41, 42, 43, 14, 44, 16, 45, 46, 47, 48, 17, 49, 50, 51, 52, 53, 54, 55, 56, 57, 58, 59, 60, 61, 62, 63, 64, 65, 66, 67, 68, 69, 70, 71, 72, 73, 74, 75, 76, 77, 78, 79, 80, 81, 82, 83, 84, 85, 86, 87, 88, 89, 12, 13, 15, 90, 91, 92, 93, 94, 95, 96, 97, 98, 99, 100, 101, 102, 103, 104, 105, 106, 107, 108, 109, 110, 111, 112, 113, 114, 115, 116, 117, 118, 119, 120, 121, 122, 123, 124, 125, 126, 127, 128, 129, 130, 131, 132, 133, 152, 153, 154, 155, 156, 157, 158, 159, 146, 147, 148, 149, 150, 151, 144, 145, 160, 161, 162, 163] rfl (by decide +kernel)
set_option maxRecDepth 20000 in
theorem gX0_write_X5_chain : GoodIn wsX0_write (wsV RX0 70 RX5 yX5_chain wsX5_chain) := goodIn_app (goodIn_of _ (by decide +kernel)) ggX0_write_X5_chain
theorem dX0_write_0 : decode cX0_write 0 = .ok (.aload_n 0, 1) := by decide +kernel
theorem dX0_write_1 : decode cX0_write 1 = .ok (.aload_n 1, 1) := by decide +kernel
theorem dX0_write_2 : decode cX0_write 2 = .ok (.invokevirtual 89, 3) := by decide +kernel
theorem dX0_write_5 : decode cX0_write 5 = .ok (.iconst 0, 1) := by decide +kernel
theorem dX0_write_6 : decode cX0_write 6 = .ok (.istore 4, 2) := by decide +kernel
theorem dX0_write_8 : decode cX0_write 8 = .ok (.iload 4, 2) := by decide +kernel
theorem dX0_write_10 : decode cX0_write 10 = .ok (.aload_n 0, 1) := by decide +kernel
theorem dX0_write_11 : decode cX0_write 11 = .ok (.getfield 31, 3) := by decide +kernel
theorem dX0_write_14 : decode cX0_write 14 = .ok (.invokevirtual 56, 3) := by decide +kernel
theorem dX0_write_17 : decode cX0_write 17 = .ok (.if_icmp .ge 49, 3) := by decide +kernel
theorem dX0_write_20 : decode cX0_write 20 = .ok (.aload_n 3, 1) := by decide +kernel
theorem dX0_write_21 : decode cX0_write 21 = .ok (.getfield 92, 3) := by decide +kernel
theorem dX0_write_24 : decode cX0_write 24 = .ok (.istore 5, 2) := by decide +kernel
theorem dX0_write_26 : decode cX0_write 26 = .ok (.aload_n 0, 1) := by decide +kernel
theorem dX0_write_27 : decode cX0_write 27 = .ok (.getfield 35, 3) := by decide +kernel
theorem dX0_write_30 : decode cX0_write 30 = .ok (.iconst 5, 1) := by decide +kernel
theorem dX0_write_31 : decode cX0_write 31 = .ok (.iload_n 2, 1) := by decide +kernel
theorem dX0_write_32 : decode cX0_write 32 = .ok (.iload 4, 2) := by decide +kernel
theorem dX0_write_34 : decode cX0_write 34 = .ok (.iconst 0, 1) := by decide +kernel
theorem dX0_write_35 : decode cX0_write 35 = .ok (.aload_n 3, 1) := by decide +kernel
theorem dX0_write_36 : decode cX0_write 36 = .ok (.invokevirtual 62, 3) := by decide +kernel
theorem dX0_write_39 : decode cX0_write 39 = .ok (.aload_n 0, 1) := by decide +kernel
theorem dX0_write_40 : decode cX0_write 40 = .ok (.getfield 35, 3) := by decide +kernel
theorem dX0_write_43 : decode cX0_write 43 = .ok (.aload_n 3, 1) := by decide +kernel
theorem dX0_write_44 : decode cX0_write 44 = .ok (.iload 5, 2) := by decide +kernel
theorem dX0_write_46 : decode cX0_write 46 = .ok (.iconst 0, 1) := by decide +kernel
theorem dX0_write_47 : decode cX0_write 47 = .ok (.aload_n 0, 1) := by decide +kernel
theorem dX0_write_48 : decode cX0_write 48 = .ok (.getfield 24, 3) := by decide +kernel
theorem dX0_write_51 : decode cX0_write 51 = .ok (.iload 4, 2) := by decide +kernel
theorem dX0_write_53 : decode cX0_write 53 = .ok (.iaload, 1) := by decide +kernel
theorem dX0_write_54 : decode cX0_write 54 = .ok (.iload_n 2, 1) := by decide +kernel
theorem dX0_write_55 : decode cX0_write 55 = .ok (.iload 4, 2) := by decide +kernel
theorem dX0_write_57 : decode cX0_write 57 = .ok (.invokevirtual 70, 3) := by decide +kernel
theorem dX0_write_60 : decode cX0_write 60 = .ok (.iinc 4 1, 3) := by decide +kernel
theorem dX0_write_63 : decode cX0_write 63 = .ok (.goto (-55), 3) := by decide +kernel
theorem dX0_write_66 : decode cX0_write 66 = .ok (.return_, 1) := by decide +kernel
set_option maxRecDepth 20000 in
theorem ggX0_lead_X0_readDigits : GoodIn wsX0_lead wsX0_readDigits := goodIn_r _ [11, 2, 3, 5, 12, 13, 14, 15, 16, 17, 18, 19, 20, 21, 22, 23, 24, 142, 143, 144, 145, 146, 147, 148, 149, 150, 151, 152, 153, 162, 163] rfl (by decide +kernel)
set_option maxRecDepth 20000 in
theorem gX0_lead_X0_readDigits : GoodIn wsX0_lead (wsV RX0 89 RX0 yX0_readDigits wsX0_readDigits) := goodIn_app (goodIn_of _ (by decide +kernel)) ggX0_lead_X0_readDigits
set_option maxRecDepth 20000 in
theorem ggX0_lead_X7_clear : GoodIn wsX0_lead wsX7_clear := goodIn_r _ [28, 17, 162, 163] rfl (by decide +kernel)
set_option maxRecDepth 20000 in
theorem gX0_lead_X7_clear : GoodIn wsX0_lead (wsV RX0 53 RX7 yX7_clear wsX7_clear) := goodIn_app (goodIn_of _ (by decide +kernel)) ggX0_lead_X7_clear
set_option maxRecDepth 20000 in
theorem ggX0_lead_X8_len : GoodIn wsX0_lead wsX8_len := goodIn_r _ [23, 24, 148, 149, 150, 151, 152, 153] rfl (by decide +kernel)
set_option maxRecDepth 20000 in
theorem gX0_lead_X8_len : GoodIn wsX0_lead (wsV RX0 56 RX8 yX8_len wsX8_len) := goodIn_app (goodIn_of _ (by decide +kernel)) ggX0_lead_X8_len
set_option maxRecDepth 20000 in
theorem ggX0_lead_X7_add : GoodIn wsX0_lead wsX7_add := goodIn_r _ [32, 17, 33, 34, 35, 15, 36, 18, 37, 38, 39, 40, 41, 42, 43, 44, 162, 163] rfl (by decide +kernel)
set_option maxRecDepth 20000 in
theorem gX0_lead_X7_add : GoodIn wsX0_lead (wsV RX0 95 RX7 yX7_add wsX7_add) := goodIn_app (goodIn_of _ (by decide +kernel)) ggX0_lead_X7_add
set_option maxRecDepth 20000 in
theorem ggX0_lead_X5_chain : GoodIn wsX0_lead wsX5_chain := goodIn_r _ [49, 50, 51, 52, 53, 54, 55, 48, 56, 57, 58, 59, 60, 61, 26, 27, 15, 28, 17, 62, 34, 35, 36, 18, 37, 38, 39, 40, 41, 42, 43, 44, 63, 64, 65, 66, 67, 30, 31, 32, 33, 68, 69, 70, 71, 72, 73, 74, 75, 76, 77, 78, 79, 80, 81, 82, 83, 84, 85, 86, 87, 88, 89, 90, 91, 13, 14, 16, 92, 93, 94, 95, 96, 97, 98, 99, 100, 101, 102, 103, 104, 105, 106, 107, 108, 109, 110, 111, 112, 113, 114, 115, 116, 117, 118, 119, 120, 121, 122, 123, 124, 125, 126, 127, 128, 129, 130, 131, 132, 133, 134, 135, 154, 155, 156, 157, 158, 159, 160, 161, 148, 149, 150, 151, 152, 153, 162, 163, 164, 165, 166, 167] rfl (by decide +kernel)
set_option maxRecDepth 20000 in
theorem gX0_lead_X5_chain : GoodIn wsX0_lead (wsV RX0 70 RX5 yX5_chain wsX5_chain) := goodIn_app (goodIn_of _ (by decide +kernel)) ggX0_lead_X5_chain
set_option maxRecDepth 20000 in
theorem ggX0_lead_X5_start : GoodIn wsX0_lead wsX5_start := goodIn_r _ [56, 51, 57, 50, 58, 52, 59, 60, 61, 26, 27, 15, 28, 17, 62, 34, 35, 36, 18, 37, 38, 39, 40, 41, 42, 43, 44, 63, 64, 65, 66, 154, 155, 156, 157, 158, 159, 160, 161, 148, 149, 150, 151, 152, 153, 162, 163] rfl (by decide +kernel)
set_option maxRecDepth 20000 in
theorem gX0_lead_X5_start : GoodIn wsX0_lead (wsV RX0 74 RX5 yX5_start wsX5_start) := goodIn_app (goodIn_of _ (by decide +kernel)) ggX0_lead_X5_start
set_option maxRecDepth 20000 in
theorem ggX0_lead_X7_addAll : GoodIn wsX0_lead wsX7_addAll := goodIn_r _ [140, 17, 33, 34, 35, 15, 36, 18, 37, 38, 39, 40, 41, 42, 43, 44, 162, 163] rfl (by decide +kernel)
set_option maxRecDepth 20000 in
theorem gX0_lead_X7_addAll : GoodIn wsX0_lead (wsV RX0 81 RX7 yX7_addAll wsX7_addAll) := goodIn_app (goodIn_of _ (by decide +kernel)) ggX0_lead_X7_addAll
set_option maxRecDepth 20000 in
theorem ggX0_lead_X5_finish : GoodIn wsX0_lead wsX5_finish := goodIn_r _ [71, 51, 57, 50, 72, 52, 73, 74, 75, 48, 76, 77, 78, 79, 80, 81, 82, 83, 84, 85, 86, 87, 88, 89, 90, 64, 65, 15, 66, 17, 18, 91, 13, 14, 16, 92, 93, 94, 95, 96, 97, 98, 99, 100, 101, 102, 103, 104, 105, 106, 107, 108, 109, 110, 111, 112, 113, 26, 27, 28, 114, 115, 116, 117, 118, 119, 120, 121, 122, 123, 124, 125, 126, 127, 128, 129, 130, 131, 132, 133, 134, 135, 62, 34, 35, 36, 37, 38, 39, 40, 41, 42, 43, 44, 154, 155, 156, 157, 158, 159, 160, 161, 148, 149, 150, 151, 152, 153, 162, 163, 164, 165, 166, 167] rfl (by decide +kernel)
set_option maxRecDepth 20000 in
theorem gX0_lead_X5_finish : GoodIn wsX0_lead (wsV RX0 85 RX5 yX5_finish wsX5_finish) := goodIn_app (goodIn_of _ (by decide +kernel)) ggX0_lead_X5_finish
theorem dX0_lead_0 : decode cX0_lead 0 = .ok (.aload_n 0, 1) := by decide +kernel
theorem dX0_lead_1 : decode cX0_lead 1 = .ok (.aload 4, 2) := by decide +kernel
theorem dX0_lead_3 : decode cX0_lead 3 = .ok (.invokevirtual 89, 3) := by decide +kernel
theorem dX0_lead_6 : decode cX0_lead 6 = .ok (.aload_n 0, 1) := by decide +kernel
theorem dX0_lead_7 : decode cX0_lead 7 = .ok (.getfield 28, 3) := by decide +kernel
theorem dX0_lead_10 : decode cX0_lead 10 = .ok (.invokevirtual 53, 3) := by decide +kernel
theorem dX0_lead_13 : decode cX0_lead 13 = .ok (.iconst 0, 1) := by decide +kernel
theorem dX0_lead_14 : decode cX0_lead 14 = .ok (.istore 5, 2) := by decide +kernel
theorem dX0_lead_16 : decode cX0_lead 16 = .ok (.iload 5, 2) := by decide +kernel
theorem dX0_lead_18 : decode cX0_lead 18 = .ok (.aload_n 0, 1) := by decide +kernel
theorem dX0_lead_19 : decode cX0_lead 19 = .ok (.getfield 31, 3) := by decide +kernel
theorem dX0_lead_22 : decode cX0_lead 22 = .ok (.invokevirtual 56, 3) := by decide +kernel
theorem dX0_lead_25 : decode cX0_lead 25 = .ok (.if_icmp .ge 77, 3) := by decide +kernel
theorem dX0_lead_28 : decode cX0_lead 28 = .ok (.aload_n 0, 1) := by decide +kernel
theorem dX0_lead_29 : decode cX0_lead 29 = .ok (.getfield 28, 3) := by decide +kernel
theorem dX0_lead_32 : decode cX0_lead 32 = .ok (.aload_n 1, 1) := by decide +kernel
theorem dX0_lead_33 : decode cX0_lead 33 = .ok (.iload_n 2, 1) := by decide +kernel
theorem dX0_lead_34 : decode cX0_lead 34 = .ok (.iload 5, 2) := by decide +kernel
theorem dX0_lead_36 : decode cX0_lead 36 = .ok (.aload_n 0, 1) := by decide +kernel
theorem dX0_lead_37 : decode cX0_lead 37 = .ok (.getfield 31, 3) := by decide +kernel
theorem dX0_lead_40 : decode cX0_lead 40 = .ok (.getfield 66, 3) := by decide +kernel
theorem dX0_lead_43 : decode cX0_lead 43 = .ok (.imul, 1) := by decide +kernel
theorem dX0_lead_44 : decode cX0_lead 44 = .ok (.iadd, 1) := by decide +kernel
theorem dX0_lead_45 : decode cX0_lead 45 = .ok (.aload_n 0, 1) := by decide +kernel
theorem dX0_lead_46 : decode cX0_lead 46 = .ok (.getfield 31, 3) := by decide +kernel
theorem dX0_lead_49 : decode cX0_lead 49 = .ok (.getfield 66, 3) := by decide +kernel
theorem dX0_lead_52 : decode cX0_lead 52 = .ok (.invokevirtual 95, 3) := by decide +kernel
theorem dX0_lead_55 : decode cX0_lead 55 = .ok (.aload_n 0, 1) := by decide +kernel
theorem dX0_lead_56 : decode cX0_lead 56 = .ok (.getfield 35, 3) := by decide +kernel
theorem dX0_lead_59 : decode cX0_lead 59 = .ok (.aload_n 0, 1) := by decide +kernel
theorem dX0_lead_60 : decode cX0_lead 60 = .ok (.getfield 28, 3) := by decide +kernel
theorem dX0_lead_63 : decode cX0_lead 63 = .ok (.iload 5, 2) := by decide +kernel
theorem dX0_lead_65 : decode cX0_lead 65 = .ok (.aload_n 0, 1) := by decide +kernel
theorem dX0_lead_66 : decode cX0_lead 66 = .ok (.getfield 31, 3) := by decide +kernel
theorem dX0_lead_69 : decode cX0_lead 69 = .ok (.getfield 66, 3) := by decide +kernel
theorem dX0_lead_72 : decode cX0_lead 72 = .ok (.imul, 1) := by decide +kernel
theorem dX0_lead_73 : decode cX0_lead 73 = .ok (.aload_n 0, 1) := by decide +kernel
theorem dX0_lead_74 : decode cX0_lead 74 = .ok (.getfield 24, 3) := by decide +kernel
theorem dX0_lead_77 : decode cX0_lead 77 = .ok (.iload 5, 2) := by decide +kernel
theorem dX0_lead_79 : decode cX0_lead 79 = .ok (.iaload, 1) := by decide +kernel
theorem dX0_lead_80 : decode cX0_lead 80 = .ok (.bipush 15, 2) := by decide +kernel
theorem dX0_lead_82 : decode cX0_lead 82 = .ok (.aload_n 0, 1) := by decide +kernel
theorem dX0_lead_83 : decode cX0_lead 83 = .ok (.getfield 24, 3) := by decide +kernel
theorem dX0_lead_86 : decode cX0_lead 86 = .ok (.iload 5, 2) := by decide +kernel
theorem dX0_lead_88 : decode cX0_lead 88 = .ok (.iaload, 1) := by decide +kernel
theorem dX0_lead_89 : decode cX0_lead 89 = .ok (.isub, 1) := by decide +kernel
theorem dX0_lead_90 : decode cX0_lead 90 = .ok (.iload_n 3, 1) := by decide +kernel
theorem dX0_lead_91 : decode cX0_lead 91 = .ok (.iload 5, 2) := by decide +kernel
theorem dX0_lead_93 : decode cX0_lead 93 = .ok (.invokevirtual 70, 3) := by decide +kernel
theorem dX0_lead_96 : decode cX0_lead 96 = .ok (.iinc 5 1, 3) := by decide +kernel
theorem dX0_lead_99 : decode cX0_lead 99 = .ok (.goto (-83), 3) := by decide +kernel
theorem dX0_lead_102 : decode cX0_lead 102 = .ok (.aload_n 0, 1) := by decide +kernel
theorem dX0_lead_103 : decode cX0_lead 103 = .ok (.getfield 35, 3) := by decide +kernel
theorem dX0_lead_106 : decode cX0_lead 106 = .ok (.iconst 1, 1) := by decide +kernel
theorem dX0_lead_107 : decode cX0_lead 107 = .ok (.iload_n 3, 1) := by decide +kernel
theorem dX0_lead_108 : decode cX0_lead 108 = .ok (.iconst 0, 1) := by decide +kernel
theorem dX0_lead_109 : decode cX0_lead 109 = .ok (.iconst 0, 1) := by decide +kernel
theorem dX0_lead_110 : decode cX0_lead 110 = .ok (.invokevirtual 74, 3) := by decide +kernel
theorem dX0_lead_113 : decode cX0_lead 113 = .ok (.aload_n 0, 1) := by decide +kernel
theorem dX0_lead_114 : decode cX0_lead 114 = .ok (.getfield 35, 3) := by decide +kernel
theorem dX0_lead_117 : decode cX0_lead 117 = .ok (.getfield 78, 3) := by decide +kernel
theorem dX0_lead_120 : decode cX0_lead 120 = .ok (.aload_n 0, 1) := by decide +kernel
theorem dX0_lead_121 : decode cX0_lead 121 = .ok (.getfield 28, 3) := by decide +kernel
theorem dX0_lead_124 : decode cX0_lead 124 = .ok (.invokevirtual 81, 3) := by decide +kernel
theorem dX0_lead_127 : decode cX0_lead 127 = .ok (.aload_n 0, 1) := by decide +kernel
theorem dX0_lead_128 : decode cX0_lead 128 = .ok (.getfield 35, 3) := by decide +kernel
theorem dX0_lead_131 : decode cX0_lead 131 = .ok (.aload 4, 2) := by decide +kernel
theorem dX0_lead_133 : decode cX0_lead 133 = .ok (.iconst 0, 1) := by decide +kernel
theorem dX0_lead_134 : decode cX0_lead 134 = .ok (.invokevirtual 85, 3) := by decide +kernel
theorem dX0_lead_137 : decode cX0_lead 137 = .ok (.return_, 1) := by decide +kernel
set_option maxHeartbeats 1000000 in
set_option maxRecDepth 100000 in
/-- Chains.write -/
theorem c_write (l : Launch) (g : jG) (ch : Nat) (lvr : Nat) (kna : Nat) (dga : Nat) (enr : Nat) (hh : Nat) (inr : Nat) (outr : Nat) (zo : Nat) (on : Nat) (sp : Nat) (fm : Nat) (nn : Nat) (ht : Nat) (lys : Nat) (fa : Nat) (mk : Nat) (sdr : Nat) (ly : Nat) (tr : Nat) (sda : Nat) (sd : Nat → Int32) (ina : Nat) (ni : Nat) (fi : Nat → Int32) (outa : Nat) (no : Nat) (fo : Nat → Int32) (sa : Nat) (wa : Nat) (S0 : Nat → Int32) (w0 : Nat → Int32) (aa : Nat) (ba : Nat) (A0 : Nat → Int64) (B0 : Nat → Int64) (D0 : Nat → Int32) (rr : Nat) (rra : Nat) (n1 : Nat) (rcap : Nat) (rf : Nat → Int32) (tor : Nat) (toa : Nat) (nt : Nat) (tcap : Nat) (tf : Nat → Int32) (u : Nat) (hfm : fm < 2) (hnn : nn ≤ 16) (hB : isB sd) (hno : no ≤ 32) (hBo : isB fo) (hnt : nt ≤ tcap) (htc : tcap < 2 ^ 31) (hni0 : ni ≤ 768) (hn4 : 1 ≤ nn) (hn1 : nn ≤ n1) (hn1c : n1 ≤ rcap) (hrc : rcap < 2 ^ 31) (hTB : isB tf) (hcap : nt + ln nn * nn ≤ tcap) : jC l g yX0_write wsX0_write ({ frames := 4, cells := 0, slots := 0, locals := 117 } : Room) [.ref ch, .ref rr, .int (nI u), .ref tor] [oB ch 0 [.ref lvr, .ref kna, .ref dga, .ref enr, .ref sp, .ref hh], oB hh 5 [.ref inr, .ref outr, .ref zo, .ref on, .ref sp, .ref sdr, .int (nI ly), .int (nI tr)], oB sp 8 [.int (nI fm), .int (nI nn), .int (nI ht), .int (nI lys), .int (nI fa), .int (nI mk)], oB sdr 7 [.ref sda, .int (nI 48)], bA g sda 48 sd, oB inr 7 [.ref ina, .int (nI ni)], bA g ina 768 fi, oB outr 7 [.ref outa, .int (nI no)], bA g outa 32 fo, oB zo 4 [.ref sa, .ref wa], iA g sa 8 S0, iA g wa 64 w0, oB on 3 [.ref aa, .ref ba], lA g aa 25 A0, lA g ba 25 B0, iA g dga 35 D0, oB rr 7 [.ref rra, .int (nI n1)], bA g rra rcap rf, oB tor 7 [.ref toa, .int (nI nt)], bA g toa tcap tf] (fun jj : Nat × (Nat → Int32) × (Nat → Int32) × (Nat → Int64) × (Nat → Int64) × Nat × (Nat → Int32) × (Nat → Int32) × (Nat → Int32) × (Nat → Int32) => none) (fun jj : Nat × (Nat → Int32) × (Nat → Int32) × (Nat → Int64) × (Nat → Int64) × Nat × (Nat → Int32) × (Nat → Int32) × (Nat → Int32) × (Nat → Int32) => (jj.2.2.2.2.2.1 ≤ 768 ∧ jj.1 ≤ 32) ∧ isB jj.2.2.2.2.2.2.2.1 ∧ isB jj.2.2.2.2.2.2.2.2.2 ∧ jj.2.2.2.2.2.2.2.2.2 = putL tf nt (oneC fm nn sd ly tr u rf (ln nn))) (fun jj : Nat × (Nat → Int32) × (Nat → Int32) × (Nat → Int64) × (Nat → Int64) × Nat × (Nat → Int32) × (Nat → Int32) × (Nat → Int32) × (Nat → Int32) => [oB ch 0 [.ref lvr, .ref kna, .ref dga, .ref enr, .ref sp, .ref hh], oB hh 5 [.ref inr, .ref outr, .ref zo, .ref on, .ref sp, .ref sdr, .int (nI ly), .int (nI tr)], oB sp 8 [.int (nI fm), .int (nI nn), .int (nI ht), .int (nI lys), .int (nI fa), .int (nI mk)], oB sdr 7 [.ref sda, .int (nI 48)], bA g sda 48 sd, oB inr 7 [.ref ina, .int (nI jj.2.2.2.2.2.1)], bA g ina 768 jj.2.2.2.2.2.2.1, oB outr 7 [.ref outa, .int (nI jj.1)], bA g outa 32 jj.2.2.2.2.2.2.2.1, oB zo 4 [.ref sa, .ref wa], iA g sa 8 jj.2.1, iA g wa 64 jj.2.2.1, oB on 3 [.ref aa, .ref ba], lA g aa 25 jj.2.2.2.1, lA g ba 25 jj.2.2.2.2.1, iA g dga 35 jj.2.2.2.2.2.2.2.2.1, oB rr 7 [.ref rra, .int (nI n1)], bA g rra rcap rf, oB tor 7 [.ref toa, .int (nI (nt + ln nn * nn))], bA g toa tcap jj.2.2.2.2.2.2.2.2.2]) := by
  refine jC.of (cc := cX0_write) (own := RX0) (maxL := 6) (ret := none) (by decide +kernel) rfl rfl (Nat.le_of_ble_eq_true rfl) (fun u hu => rfl) ?_
  intro p e s m below meth c A Q hX hret
  have in0 : ∀ w ∈ wsX00, w ∈ wsX0_write := (fun w h => List.mem_cons_of_mem _ (List.mem_append_left _ (List.mem_append_left _ (List.mem_append_left _ (List.mem_append_left _ (List.mem_append_left _ (List.mem_append_right _ h)))))))
  have in7 : ∀ w ∈ wsX70, w ∈ wsX0_write := (fun w h => List.mem_cons_of_mem _ (List.mem_append_left _ (List.mem_append_left _ (List.mem_append_left _ (List.mem_append_left _ (List.mem_append_right _ h))))))
  have hln := ln_le nn
  have hlnn := lnn hnn
  have hh2 := hl_le (fm := fm) hnn
  have hlo := hl_or fm nn
  refine j_aload_n hX 0 dX0_write_0 rfl ?_
  refine j_aload_n hX 1 dX0_write_1 rfl ?_
  refine j_callV hX 1 (c_readDigits l g ch lvr kna dga enr hh sp fm nn ht lys fa mk D0 rr rra n1 rcap rf (by omega) (by omega) (by omega) hn1c hrc) gX0_write_X0_readDigits (by decide +kernel) rfl ⟨rfl, rfl⟩ ⟨Nat.le_of_ble_eq_true rfl, Nat.le_of_ble_eq_true rfl⟩ 0 0 rfl rfl [0, 2, 15, 16, 17] rfl (by decide) (fun _ => rfl) rfl [] rfl (Nat.le_of_ble_eq_true rfl) ⟨Nat.le_refl _, Nat.le_refl _⟩ dX0_write_2 ?_
  intro D1 hD
  try dsimp only at hD
  refine j_w [oB ch 0 [.ref lvr, .ref kna, .ref dga, .ref enr, .ref sp, .ref hh], oB hh 5 [.ref inr, .ref outr, .ref zo, .ref on, .ref sp, .ref sdr, .int (nI ly), .int (nI tr)], oB sp 8 [.int (nI fm), .int (nI nn), .int (nI ht), .int (nI lys), .int (nI fa), .int (nI mk)], oB sdr 7 [.ref sda, .int (nI 48)], bA g sda 48 sd, oB inr 7 [.ref ina, .int (nI ni)], bA g ina 768 fi, oB outr 7 [.ref outa, .int (nI no)], bA g outa 32 fo, oB zo 4 [.ref sa, .ref wa], iA g sa 8 S0, iA g wa 64 w0, oB on 3 [.ref aa, .ref ba], lA g aa 25 A0, lA g ba 25 B0, iA g dga 35 D1, oB rr 7 [.ref rra, .int (nI n1)], bA g rra rcap rf, oB tor 7 [.ref toa, .int (nI nt)], bA g toa tcap tf] rfl ?_
  refine j_st [] rfl ?_
  refine j_iconst hX (0) dX0_write_5 (by decide) ?_
  refine j_st [.int (nI 0)] rfl ?_
  refine j_istore hX [(4, .int (nI 0)), (0, .ref ch), (1, .ref rr), (2, .int (nI u)), (3, .ref tor)] dX0_write_6 (by decide) rfl ?_
  have lp_1 : ∀ (n_2 : Nat) (k : Nat) (no1 : Nat) (S1 : Nat → Int32) (w1 : Nat → Int32) (A1 : Nat → Int64) (B1 : Nat → Int64) (nl : Nat) (G : Nat → Int32) (FO : Nat → Int32) (nt1 : Nat) (TO : Nat → Int32), (ln nn - k < n_2) → (k ≤ ln nn) → (nl ≤ 768 ∧ no1 ≤ 32) → (isB FO) → (isB TO) → (nt1 = nt + k * nn) → (TO = putL tf nt (oneC fm nn sd ly tr u rf k)) → J p l e ({ frames := 4, cells := 0, slots := 0, locals := 117 } : Room) s m ([.ref ch, .ref rr, .int (nI u), .ref tor] : List Value).toArray below meth c g A 6 Q 0 0 [oB ch 0 [.ref lvr, .ref kna, .ref dga, .ref enr, .ref sp, .ref hh], oB hh 5 [.ref inr, .ref outr, .ref zo, .ref on, .ref sp, .ref sdr, .int (nI ly), .int (nI tr)], oB sp 8 [.int (nI fm), .int (nI nn), .int (nI ht), .int (nI lys), .int (nI fa), .int (nI mk)], oB sdr 7 [.ref sda, .int (nI 48)], bA g sda 48 sd, oB inr 7 [.ref ina, .int (nI nl)], bA g ina 768 G, oB outr 7 [.ref outa, .int (nI no1)], bA g outa 32 FO, oB zo 4 [.ref sa, .ref wa], iA g sa 8 S1, iA g wa 64 w1, oB on 3 [.ref aa, .ref ba], lA g aa 25 A1, lA g ba 25 B1, iA g dga 35 D1, oB rr 7 [.ref rra, .int (nI n1)], bA g rra rcap rf, oB tor 7 [.ref toa, .int (nI nt1)], bA g toa tcap TO] [(0, .ref ch), (1, .ref rr), (2, .int (nI u)), (3, .ref tor), (4, .int (nI k))] 8 [] := by
    intro n_2
    induction n_2 with
    | zero => intro k no1 S1 w1 A1 B1 nl G FO nt1 TO hm; exact absurd hm (Nat.not_lt_zero _)
    | succ n_2 ih_3 =>
      intro k no1 S1 w1 A1 B1 nl G FO nt1 TO hm hk hnl hFO hB2 hnt1 hO
      refine j_iload hX 4 dX0_write_8 rfl ?_
      refine j_aload_n hX 0 dX0_write_10 rfl ?_
      refine j_pc 11 rfl ?_
      refine j_get hX in0 0 0 4 (v := .ref sp) rfl rfl (by decide) (List.mem_of_getElem? (i := 1) rfl) rfl rfl dX0_write_11 ?_
      refine j_callV hX 0 (c_len l g sp fm nn ht lys fa mk (by omega)) gX0_write_X8_len (by decide +kernel) rfl ⟨rfl, rfl⟩ ⟨Nat.le_of_ble_eq_true rfl, Nat.le_of_ble_eq_true rfl⟩ 8 2 rfl rfl [2] rfl (by decide) (fun _ => rfl) rfl [.int (nI k)] rfl (Nat.le_of_ble_eq_true rfl) ⟨Nat.le_refl _, Nat.le_refl _⟩ dX0_write_14 ?_
      intro _ hu_4
      refine j_w [oB ch 0 [.ref lvr, .ref kna, .ref dga, .ref enr, .ref sp, .ref hh], oB hh 5 [.ref inr, .ref outr, .ref zo, .ref on, .ref sp, .ref sdr, .int (nI ly), .int (nI tr)], oB sp 8 [.int (nI fm), .int (nI nn), .int (nI ht), .int (nI lys), .int (nI fa), .int (nI mk)], oB sdr 7 [.ref sda, .int (nI 48)], bA g sda 48 sd, oB inr 7 [.ref ina, .int (nI nl)], bA g ina 768 G, oB outr 7 [.ref outa, .int (nI no1)], bA g outa 32 FO, oB zo 4 [.ref sa, .ref wa], iA g sa 8 S1, iA g wa 64 w1, oB on 3 [.ref aa, .ref ba], lA g aa 25 A1, lA g ba 25 B1, iA g dga 35 D1, oB rr 7 [.ref rra, .int (nI n1)], bA g rra rcap rf, oB tor 7 [.ref toa, .int (nI nt1)], bA g toa tcap TO] rfl ?_
      refine j_st [.int (nI (ln nn)), .int (nI k)] rfl ?_
      refine j_icmp_geN hX k (ln nn) 66 dX0_write_17 (by decide) (by omega) (by omega) (fun b_17 => ?_) (fun b_17 => ?_)
      · skip
        have hkl : k = ln nn := by omega
        rw [hkl] at hO hnt1
        refine j_w [oB ch 0 [.ref lvr, .ref kna, .ref dga, .ref enr, .ref sp, .ref hh], oB hh 5 [.ref inr, .ref outr, .ref zo, .ref on, .ref sp, .ref sdr, .int (nI ly), .int (nI tr)], oB sp 8 [.int (nI fm), .int (nI nn), .int (nI ht), .int (nI lys), .int (nI fa), .int (nI mk)], oB sdr 7 [.ref sda, .int (nI 48)], bA g sda 48 sd, oB inr 7 [.ref ina, .int (nI nl)], bA g ina 768 G, oB outr 7 [.ref outa, .int (nI no1)], bA g outa 32 FO, oB zo 4 [.ref sa, .ref wa], iA g sa 8 S1, iA g wa 64 w1, oB on 3 [.ref aa, .ref ba], lA g aa 25 A1, lA g ba 25 B1, iA g dga 35 D1, oB rr 7 [.ref rra, .int (nI n1)], bA g rra rcap rf, oB tor 7 [.ref toa, .int (nI (nt + ln nn * nn))], bA g toa tcap TO] (by rw [hnt1]) ?_
        exact hret (no1, S1, w1, A1, B1, nl, G, FO, D1, TO) (by dsimp only; exact ⟨hnl, hFO, hB2, hO⟩) 66 _ .return_ dX0_write_66 rfl
      · skip
        have hml := mul_lt2 (n := nn) (show k < ln nn by omega)
        refine j_aload_n hX 3 dX0_write_20 rfl ?_
        refine j_get hX in7 7 18 1 (v := .int (nI nt1)) rfl rfl (by decide) (List.mem_of_getElem? (i := 2) rfl) rfl rfl dX0_write_21 ?_
        refine j_istore hX [(5, .int (nI nt1)), (0, .ref ch), (1, .ref rr), (2, .int (nI u)), (3, .ref tor), (4, .int (nI k))] dX0_write_24 (by decide) rfl ?_
        refine j_aload_n hX 1 dX0_write_26 rfl ?_
        refine j_pc 27 rfl ?_
        refine j_get hX in0 0 0 5 (v := .ref hh) rfl rfl (by decide) (List.mem_of_getElem? (i := 3) rfl) rfl rfl dX0_write_27 ?_
        refine j_iconst hX (5) dX0_write_30 (by decide) ?_
        refine j_iload_n hX 3 dX0_write_31 rfl ?_
        refine j_iload hX 5 dX0_write_32 rfl ?_
        refine j_iconst hX (0) dX0_write_34 (by decide) ?_
        refine j_aload_n hX 4 dX0_write_35 rfl ?_
        refine j_callV hX 5 (c_addSecret l g hh inr outr zo on sp fm nn ht lys fa mk sdr ly tr sda sd ina nl G outa no1 FO sa wa S1 w1 aa ba A1 B1 tor toa nt1 tcap TO 5 u k 0 (by omega) (by omega) hB hnl.2 hFO (by omega) (by omega) (by omega)) gX0_write_X5_addSecret (by decide +kernel) rfl ⟨rfl, rfl⟩ ⟨Nat.le_of_ble_eq_true rfl, Nat.le_of_ble_eq_true rfl⟩ 5 1 rfl rfl [1, 2, 3, 4, 5, 6, 7, 8, 9, 10, 11, 12, 13, 14, 18, 19] rfl (by decide) (fun _ => rfl) rfl [] rfl (Nat.le_of_ble_eq_true rfl) ⟨Nat.le_refl _, Nat.le_refl _⟩ dX0_write_36 ?_
        rintro ⟨S5, w5, A5, B5, nl5, G5, FO5, TO5⟩ hS
        try dsimp only at hS
        refine j_w [oB ch 0 [.ref lvr, .ref kna, .ref dga, .ref enr, .ref sp, .ref hh], oB hh 5 [.ref inr, .ref outr, .ref zo, .ref on, .ref sp, .ref sdr, .int (nI ly), .int (nI tr)], oB sp 8 [.int (nI fm), .int (nI nn), .int (nI ht), .int (nI lys), .int (nI fa), .int (nI mk)], oB sdr 7 [.ref sda, .int (nI 48)], bA g sda 48 sd, oB inr 7 [.ref ina, .int (nI nl5)], bA g ina 768 G5, oB outr 7 [.ref outa, .int (nI 32)], bA g outa 32 FO5, oB zo 4 [.ref sa, .ref wa], iA g sa 8 S5, iA g wa 64 w5, oB on 3 [.ref aa, .ref ba], lA g aa 25 A5, lA g ba 25 B5, iA g dga 35 D1, oB rr 7 [.ref rra, .int (nI n1)], bA g rra rcap rf, oB tor 7 [.ref toa, .int (nI (nt1 + nn))], bA g toa tcap TO5] rfl ?_
        refine j_st [] rfl ?_
        refine j_aload_n hX 1 dX0_write_39 rfl ?_
        refine j_pc 40 rfl ?_
        refine j_get hX in0 0 0 5 (v := .ref hh) rfl rfl (by decide) (List.mem_of_getElem? (i := 3) rfl) rfl rfl dX0_write_40 ?_
        refine j_aload_n hX 4 dX0_write_43 rfl ?_
        refine j_iload hX 0 dX0_write_44 rfl ?_
        refine j_iconst hX (0) dX0_write_46 (by decide) ?_
        refine j_aload_n hX 1 dX0_write_47 rfl ?_
        refine j_get hX in0 0 0 2 (v := .ref dga) rfl rfl (by decide) (List.mem_of_getElem? (i := 4) rfl) rfl rfl dX0_write_48 ?_
        refine j_iload hX 5 dX0_write_51 rfl ?_
        refine j_ialdN hX 15 k rfl (by omega) (by omega) dX0_write_53 ?_
        refine j_topeq _ (nI (dgt rf nn k)) (hD k (by omega)) ?_
        refine j_pc 54 rfl ?_
        refine j_iload_n hX 3 dX0_write_54 rfl ?_
        refine j_iload hX 5 dX0_write_55 rfl ?_
        refine j_callV hX 6 (c_hchain l g hh inr outr zo on sp fm nn ht lys fa mk sdr ly tr sda sd ina nl5 G5 outa 32 FO5 sa wa S5 w5 aa ba A5 B5 tor toa (nt1 + nn) tcap TO5 nt1 0 (dgt rf nn k) u k (by omega) (by omega) hB (by omega) hS.2.1 (by omega) (by omega) hS.1 (by omega) (by rw [hS.2.2]; exact putL_B hB2 (TT_B _ _ _ _ _ _ _ _ _ _)) (by have := dgt_lt rf nn k; omega)) gX0_write_X5_chain (by decide +kernel) rfl ⟨rfl, rfl⟩ ⟨Nat.le_of_ble_eq_true rfl, Nat.le_of_ble_eq_true rfl⟩ 5 1 rfl rfl [1, 2, 3, 4, 5, 6, 7, 8, 9, 10, 11, 12, 13, 14, 18, 19] rfl (by decide) (fun _ => rfl) rfl [] rfl (Nat.le_of_ble_eq_true rfl) ⟨Nat.le_refl _, Nat.le_refl _⟩ dX0_write_57 ?_
        rintro ⟨no6, S6, w6, A6, B6, nl6, G6, FO6, TO6⟩ hC
        try dsimp only at hC
        refine j_w [oB ch 0 [.ref lvr, .ref kna, .ref dga, .ref enr, .ref sp, .ref hh], oB hh 5 [.ref inr, .ref outr, .ref zo, .ref on, .ref sp, .ref sdr, .int (nI ly), .int (nI tr)], oB sp 8 [.int (nI fm), .int (nI nn), .int (nI ht), .int (nI lys), .int (nI fa), .int (nI mk)], oB sdr 7 [.ref sda, .int (nI 48)], bA g sda 48 sd, oB inr 7 [.ref ina, .int (nI nl6)], bA g ina 768 G6, oB outr 7 [.ref outa, .int (nI no6)], bA g outa 32 FO6, oB zo 4 [.ref sa, .ref wa], iA g sa 8 S6, iA g wa 64 w6, oB on 3 [.ref aa, .ref ba], lA g aa 25 A6, lA g ba 25 B6, iA g dga 35 D1, oB rr 7 [.ref rra, .int (nI n1)], bA g rra rcap rf, oB tor 7 [.ref toa, .int (nI (nt1 + nn))], bA g toa tcap TO6] rfl ?_
        refine j_st [] rfl ?_
        refine j_iincN hX k (k + 1) [(4, .int (nI (k + 1))), (5, .int (nI nt1)), (0, .ref ch), (1, .ref rr), (2, .int (nI u)), (3, .ref tor)] 5 dX0_write_60 rfl (nI_1 _) (by decide) rfl ?_
        refine j_goto hX 8 dX0_write_63 (by decide) ?_
        refine j_perm [(0, .ref ch), (1, .ref rr), (2, .int (nI u)), (3, .ref tor), (4, .int (nI (k + 1)))] [2, 3, 4, 5, 0] rfl ?_
        exact ih_3 (k + 1) no6 S6 w6 A6 B6 nl6 G6 FO6 (nt1 + nn) TO6 (by omega) (by omega) hC.1 hC.2.1 hC.2.2.1 (by rw [hnt1, Nat.succ_mul]; omega) (oneC_step hnn hnt1 hO hS.2.2 hC.2.2.2)
  refine j_perm [(0, .ref ch), (1, .ref rr), (2, .int (nI u)), (3, .ref tor), (4, .int (nI 0))] [1, 2, 3, 4, 0] rfl ?_
  exact lp_1 _ 0 no S0 w0 A0 B0 ni fi fo nt tf (Nat.lt_succ_self _) (by omega) ⟨hni0, hno⟩ hBo hTB (by rw [Nat.zero_mul]; rfl) (by rw [oneC, putL_nil])

set_option maxHeartbeats 1000000 in
set_option maxRecDepth 100000 in
/-- Chains.lead -/
theorem c_lead (l : Launch) (g : jG) (ch : Nat) (lvr : Nat) (kna : Nat) (dga : Nat) (enr : Nat) (hh : Nat) (inr : Nat) (outr : Nat) (zo : Nat) (on : Nat) (sp : Nat) (fm : Nat) (nn : Nat) (ht : Nat) (lys : Nat) (fa : Nat) (mk : Nat) (sdr : Nat) (ly : Nat) (tr : Nat) (sda : Nat) (sd : Nat → Int32) (ina : Nat) (ni : Nat) (fi : Nat → Int32) (outa : Nat) (no : Nat) (fo : Nat → Int32) (sa : Nat) (wa : Nat) (S0 : Nat → Int32) (w0 : Nat → Int32) (aa : Nat) (ba : Nat) (A0 : Nat → Int64) (B0 : Nat → Int64) (D0 : Nat → Int32) (ena : Nat) (ne : Nat) (ef : Nat → Int32) (fr : Nat) (fra : Nat) (nf : Nat) (fcap : Nat) (ff : Nat → Int32) (rr : Nat) (rra : Nat) (n1 : Nat) (rcap : Nat) (rf : Nat → Int32) (t : Nat) (u : Nat) (hfm : fm < 2) (hnn : nn ≤ 16) (hB : isB sd) (hno : no ≤ 32) (hBo : isB fo) (hni0 : ni ≤ 768) (hn4 : 1 ≤ nn) (hn1 : nn ≤ n1) (hn1c : n1 ≤ rcap) (hrc : rcap < 2 ^ 31) (hne : ne ≤ 560) (hEB : isB ef) (hnf : nf ≤ fcap) (hfc : fcap < 2 ^ 31) (hFB : isB ff) (hcap : t + ln nn * nn ≤ nf) : jC l g yX0_lead wsX0_lead ({ frames := 4, cells := 0, slots := 0, locals := 117 } : Room) [.ref ch, .ref fr, .int (nI t), .int (nI u), .ref rr] [oB ch 0 [.ref lvr, .ref kna, .ref dga, .ref enr, .ref sp, .ref hh], oB hh 5 [.ref inr, .ref outr, .ref zo, .ref on, .ref sp, .ref sdr, .int (nI ly), .int (nI tr)], oB sp 8 [.int (nI fm), .int (nI nn), .int (nI ht), .int (nI lys), .int (nI fa), .int (nI mk)], oB sdr 7 [.ref sda, .int (nI 48)], bA g sda 48 sd, oB inr 7 [.ref ina, .int (nI ni)], bA g ina 768 fi, oB outr 7 [.ref outa, .int (nI no)], bA g outa 32 fo, oB zo 4 [.ref sa, .ref wa], iA g sa 8 S0, iA g wa 64 w0, oB on 3 [.ref aa, .ref ba], lA g aa 25 A0, lA g ba 25 B0, iA g dga 35 D0, oB enr 7 [.ref ena, .int (nI ne)], bA g ena 560 ef, oB fr 7 [.ref fra, .int (nI nf)], bA g fra fcap ff, oB rr 7 [.ref rra, .int (nI n1)], bA g rra rcap rf] (fun jj : Nat × (Nat → Int32) × (Nat → Int32) × (Nat → Int64) × (Nat → Int64) × Nat × (Nat → Int32) × (Nat → Int32) × (Nat → Int32) × Nat × (Nat → Int32) × (Nat → Int32) => none) (fun jj : Nat × (Nat → Int32) × (Nat → Int32) × (Nat → Int64) × (Nat → Int64) × Nat × (Nat → Int32) × (Nat → Int32) × (Nat → Int32) × Nat × (Nat → Int32) × (Nat → Int32) => (jj.2.2.2.2.2.1 ≤ 768 ∧ jj.1 ≤ 32 ∧ jj.2.2.2.2.2.2.2.2.2.1 ≤ 560) ∧ isB jj.2.2.2.2.2.2.2.1 ∧ isB jj.2.2.2.2.2.2.2.2.2.2.1 ∧ jj.2.2.2.2.2.2.2.2.2.2.2 = putL rf 0 (TT fm nn sd ly tr 1 u 0 0 (ldE fm nn sd ly tr u rf ff t (ln nn)))) (fun jj : Nat × (Nat → Int32) × (Nat → Int32) × (Nat → Int64) × (Nat → Int64) × Nat × (Nat → Int32) × (Nat → Int32) × (Nat → Int32) × Nat × (Nat → Int32) × (Nat → Int32) => [oB ch 0 [.ref lvr, .ref kna, .ref dga, .ref enr, .ref sp, .ref hh], oB hh 5 [.ref inr, .ref outr, .ref zo, .ref on, .ref sp, .ref sdr, .int (nI ly), .int (nI tr)], oB sp 8 [.int (nI fm), .int (nI nn), .int (nI ht), .int (nI lys), .int (nI fa), .int (nI mk)], oB sdr 7 [.ref sda, .int (nI 48)], bA g sda 48 sd, oB inr 7 [.ref ina, .int (nI jj.2.2.2.2.2.1)], bA g ina 768 jj.2.2.2.2.2.2.1, oB outr 7 [.ref outa, .int (nI jj.1)], bA g outa 32 jj.2.2.2.2.2.2.2.1, oB zo 4 [.ref sa, .ref wa], iA g sa 8 jj.2.1, iA g wa 64 jj.2.2.1, oB on 3 [.ref aa, .ref ba], lA g aa 25 jj.2.2.2.1, lA g ba 25 jj.2.2.2.2.1, iA g dga 35 jj.2.2.2.2.2.2.2.2.1, oB enr 7 [.ref ena, .int (nI jj.2.2.2.2.2.2.2.2.2.1)], bA g ena 560 jj.2.2.2.2.2.2.2.2.2.2.1, oB fr 7 [.ref fra, .int (nI nf)], bA g fra fcap ff, oB rr 7 [.ref rra, .int (nI n1)], bA g rra rcap jj.2.2.2.2.2.2.2.2.2.2.2]) := by
  refine jC.of (cc := cX0_lead) (own := RX0) (maxL := 6) (ret := none) (by decide +kernel) rfl rfl (Nat.le_of_ble_eq_true rfl) (fun u hu => rfl) ?_
  intro p e s m below meth c A Q hX hret
  have in0 : ∀ w ∈ wsX00, w ∈ wsX0_lead := (fun w h => List.mem_cons_of_mem _ (List.mem_append_left _ (List.mem_append_left _ (List.mem_append_left _ (List.mem_append_left _ (List.mem_append_left _ (List.mem_append_right _ h)))))))
  have in5 : ∀ w ∈ wsX50, w ∈ wsX0_lead := (fun w h => List.mem_cons_of_mem _ (List.mem_append_left _ (List.mem_append_left _ (List.mem_append_left _ (List.mem_append_right _ h)))))
  have in8 : ∀ w ∈ wsX80, w ∈ wsX0_lead := (fun w h => List.mem_cons_of_mem _ (List.mem_append_left _ (List.mem_append_left _ (List.mem_append_left _ (List.mem_append_left _ (List.mem_append_right _ h))))))
  have hln := ln_le nn
  have hlnn := lnn hnn
  have hh2 := hl_le (fm := fm) hnn
  have hlo := hl_or fm nn
  have hdl := hd_length (fm := fm) (n := nn) (by omega) sd ly tr 1 u 0 0
  refine j_aload_n hX 0 dX0_lead_0 rfl ?_
  refine j_aload hX 4 dX0_lead_1 rfl ?_
  refine j_callV hX 1 (c_readDigits l g ch lvr kna dga enr hh sp fm nn ht lys fa mk D0 rr rra n1 rcap rf (by omega) (by omega) (by omega) hn1c hrc) gX0_lead_X0_readDigits (by decide +kernel) rfl ⟨rfl, rfl⟩ ⟨Nat.le_of_ble_eq_true rfl, Nat.le_of_ble_eq_true rfl⟩ 0 0 rfl rfl [0, 2, 15, 20, 21] rfl (by decide) (fun _ => rfl) rfl [] rfl (Nat.le_of_ble_eq_true rfl) ⟨Nat.le_refl _, Nat.le_refl _⟩ dX0_lead_3 ?_
  intro D1 hD
  try dsimp only at hD
  refine j_w [oB ch 0 [.ref lvr, .ref kna, .ref dga, .ref enr, .ref sp, .ref hh], oB hh 5 [.ref inr, .ref outr, .ref zo, .ref on, .ref sp, .ref sdr, .int (nI ly), .int (nI tr)], oB sp 8 [.int (nI fm), .int (nI nn), .int (nI ht), .int (nI lys), .int (nI fa), .int (nI mk)], oB sdr 7 [.ref sda, .int (nI 48)], bA g sda 48 sd, oB inr 7 [.ref ina, .int (nI ni)], bA g ina 768 fi, oB outr 7 [.ref outa, .int (nI no)], bA g outa 32 fo, oB zo 4 [.ref sa, .ref wa], iA g sa 8 S0, iA g wa 64 w0, oB on 3 [.ref aa, .ref ba], lA g aa 25 A0, lA g ba 25 B0, iA g dga 35 D1, oB enr 7 [.ref ena, .int (nI ne)], bA g ena 560 ef, oB fr 7 [.ref fra, .int (nI nf)], bA g fra fcap ff, oB rr 7 [.ref rra, .int (nI n1)], bA g rra rcap rf] rfl ?_
  refine j_st [] rfl ?_
  refine j_aload_n hX 0 dX0_lead_6 rfl ?_
  refine j_get hX in0 0 0 3 (v := .ref enr) rfl rfl (by decide) (List.mem_of_getElem? (i := 1) rfl) rfl rfl dX0_lead_7 ?_
  refine j_callV hX 0 (c_clear l g enr ena (nI ne) ) gX0_lead_X7_clear (by decide +kernel) rfl ⟨rfl, rfl⟩ ⟨Nat.le_of_ble_eq_true rfl, Nat.le_of_ble_eq_true rfl⟩ 7 16 rfl rfl [16] rfl (by decide) (fun _ => rfl) rfl [] rfl (Nat.le_of_ble_eq_true rfl) ⟨Nat.le_refl _, Nat.le_refl _⟩ dX0_lead_10 ?_
  intro _ hu_1
  refine j_w [oB ch 0 [.ref lvr, .ref kna, .ref dga, .ref enr, .ref sp, .ref hh], oB hh 5 [.ref inr, .ref outr, .ref zo, .ref on, .ref sp, .ref sdr, .int (nI ly), .int (nI tr)], oB sp 8 [.int (nI fm), .int (nI nn), .int (nI ht), .int (nI lys), .int (nI fa), .int (nI mk)], oB sdr 7 [.ref sda, .int (nI 48)], bA g sda 48 sd, oB inr 7 [.ref ina, .int (nI ni)], bA g ina 768 fi, oB outr 7 [.ref outa, .int (nI no)], bA g outa 32 fo, oB zo 4 [.ref sa, .ref wa], iA g sa 8 S0, iA g wa 64 w0, oB on 3 [.ref aa, .ref ba], lA g aa 25 A0, lA g ba 25 B0, iA g dga 35 D1, oB enr 7 [.ref ena, .int (nI 0)], bA g ena 560 ef, oB fr 7 [.ref fra, .int (nI nf)], bA g fra fcap ff, oB rr 7 [.ref rra, .int (nI n1)], bA g rra rcap rf] rfl ?_
  refine j_st [] rfl ?_
  refine j_iconst hX (0) dX0_lead_13 (by decide) ?_
  refine j_pc 14 rfl ?_
  refine j_st [.int (nI 0)] rfl ?_
  refine j_istore hX [(5, .int (nI 0)), (0, .ref ch), (1, .ref fr), (2, .int (nI t)), (3, .int (nI u)), (4, .ref rr)] dX0_lead_14 (by decide) rfl ?_
  have lp_2 : ∀ (n_3 : Nat) (k : Nat) (no1 : Nat) (S1 : Nat → Int32) (w1 : Nat → Int32) (A1 : Nat → Int64) (B1 : Nat → Int64) (nl : Nat) (G : Nat → Int32) (FO : Nat → Int32) (ne1 : Nat) (E1 : Nat → Int32), (ln nn - k < n_3) → (k ≤ ln nn) → (nl ≤ 768 ∧ no1 ≤ 32) → (isB FO) → (isB E1) → (ne1 = k * nn) → (E1 = putL ef 0 (ldE fm nn sd ly tr u rf ff t k)) → J p l e ({ frames := 4, cells := 0, slots := 0, locals := 117 } : Room) s m ([.ref ch, .ref fr, .int (nI t), .int (nI u), .ref rr] : List Value).toArray below meth c g A 6 Q 0 0 [oB ch 0 [.ref lvr, .ref kna, .ref dga, .ref enr, .ref sp, .ref hh], oB hh 5 [.ref inr, .ref outr, .ref zo, .ref on, .ref sp, .ref sdr, .int (nI ly), .int (nI tr)], oB sp 8 [.int (nI fm), .int (nI nn), .int (nI ht), .int (nI lys), .int (nI fa), .int (nI mk)], oB sdr 7 [.ref sda, .int (nI 48)], bA g sda 48 sd, oB inr 7 [.ref ina, .int (nI nl)], bA g ina 768 G, oB outr 7 [.ref outa, .int (nI no1)], bA g outa 32 FO, oB zo 4 [.ref sa, .ref wa], iA g sa 8 S1, iA g wa 64 w1, oB on 3 [.ref aa, .ref ba], lA g aa 25 A1, lA g ba 25 B1, iA g dga 35 D1, oB enr 7 [.ref ena, .int (nI ne1)], bA g ena 560 E1, oB fr 7 [.ref fra, .int (nI nf)], bA g fra fcap ff, oB rr 7 [.ref rra, .int (nI n1)], bA g rra rcap rf] [(0, .ref ch), (1, .ref fr), (2, .int (nI t)), (3, .int (nI u)), (4, .ref rr), (5, .int (nI k))] 16 [] := by
    intro n_3
    induction n_3 with
    | zero => intro k no1 S1 w1 A1 B1 nl G FO ne1 E1 hm; exact absurd hm (Nat.not_lt_zero _)
    | succ n_3 ih_4 =>
      intro k no1 S1 w1 A1 B1 nl G FO ne1 E1 hm hk hnl hFO hB2 hne1 hO
      refine j_iload hX 5 dX0_lead_16 rfl ?_
      refine j_aload_n hX 0 dX0_lead_18 rfl ?_
      refine j_get hX in0 0 0 4 (v := .ref sp) rfl rfl (by decide) (List.mem_of_getElem? (i := 2) rfl) rfl rfl dX0_lead_19 ?_
      refine j_callV hX 0 (c_len l g sp fm nn ht lys fa mk (by omega)) gX0_lead_X8_len (by decide +kernel) rfl ⟨rfl, rfl⟩ ⟨Nat.le_of_ble_eq_true rfl, Nat.le_of_ble_eq_true rfl⟩ 8 2 rfl rfl [2] rfl (by decide) (fun _ => rfl) rfl [.int (nI k)] rfl (Nat.le_of_ble_eq_true rfl) ⟨Nat.le_refl _, Nat.le_refl _⟩ dX0_lead_22 ?_
      intro _ hu_5
      refine j_w [oB ch 0 [.ref lvr, .ref kna, .ref dga, .ref enr, .ref sp, .ref hh], oB hh 5 [.ref inr, .ref outr, .ref zo, .ref on, .ref sp, .ref sdr, .int (nI ly), .int (nI tr)], oB sp 8 [.int (nI fm), .int (nI nn), .int (nI ht), .int (nI lys), .int (nI fa), .int (nI mk)], oB sdr 7 [.ref sda, .int (nI 48)], bA g sda 48 sd, oB inr 7 [.ref ina, .int (nI nl)], bA g ina 768 G, oB outr 7 [.ref outa, .int (nI no1)], bA g outa 32 FO, oB zo 4 [.ref sa, .ref wa], iA g sa 8 S1, iA g wa 64 w1, oB on 3 [.ref aa, .ref ba], lA g aa 25 A1, lA g ba 25 B1, iA g dga 35 D1, oB enr 7 [.ref ena, .int (nI ne1)], bA g ena 560 E1, oB fr 7 [.ref fra, .int (nI nf)], bA g fra fcap ff, oB rr 7 [.ref rra, .int (nI n1)], bA g rra rcap rf] rfl ?_
      refine j_st [.int (nI (ln nn)), .int (nI k)] rfl ?_
      refine j_icmp_geN hX k (ln nn) 102 dX0_lead_25 (by decide) (by omega) (by omega) (fun b_25 => ?_) (fun b_25 => ?_)
      · skip
        have hkl : k = ln nn := by omega
        have hne560 : ne1 ≤ 560 := by rw [hne1, hkl]; exact hlnn
        refine j_aload_n hX 0 dX0_lead_102 rfl ?_
        refine j_get hX in0 0 0 5 (v := .ref hh) rfl rfl (by decide) (List.mem_of_getElem? (i := 4) rfl) rfl rfl dX0_lead_103 ?_
        refine j_pc 106 rfl ?_
        refine j_iconst hX (1) dX0_lead_106 (by decide) ?_
        refine j_iload_n hX 3 dX0_lead_107 rfl ?_
        refine j_iconst hX (0) dX0_lead_108 (by decide) ?_
        refine j_iconst hX (0) dX0_lead_109 (by decide) ?_
        refine j_callV hX 4 (c_start l g hh inr outr zo on sp fm nn ht lys fa mk sdr ly tr sda sd ina nl G 1 u 0 0 (by omega) (by omega) hB) gX0_lead_X5_start (by decide +kernel) rfl ⟨rfl, rfl⟩ ⟨Nat.le_of_ble_eq_true rfl, Nat.le_of_ble_eq_true rfl⟩ 5 1 rfl rfl [1, 2, 3, 4, 5, 6] rfl (by decide) (fun _ => rfl) rfl [] rfl (Nat.le_of_ble_eq_true rfl) ⟨Nat.le_refl _, Nat.le_refl _⟩ dX0_lead_110 ?_
        intro F1 hF1
        try dsimp only at hF1
        refine j_w [oB ch 0 [.ref lvr, .ref kna, .ref dga, .ref enr, .ref sp, .ref hh], oB hh 5 [.ref inr, .ref outr, .ref zo, .ref on, .ref sp, .ref sdr, .int (nI ly), .int (nI tr)], oB sp 8 [.int (nI fm), .int (nI nn), .int (nI ht), .int (nI lys), .int (nI fa), .int (nI mk)], oB sdr 7 [.ref sda, .int (nI 48)], bA g sda 48 sd, oB inr 7 [.ref ina, .int (nI (hl fm nn))], bA g ina 768 F1, oB outr 7 [.ref outa, .int (nI no1)], bA g outa 32 FO, oB zo 4 [.ref sa, .ref wa], iA g sa 8 S1, iA g wa 64 w1, oB on 3 [.ref aa, .ref ba], lA g aa 25 A1, lA g ba 25 B1, iA g dga 35 D1, oB enr 7 [.ref ena, .int (nI ne1)], bA g ena 560 E1, oB fr 7 [.ref fra, .int (nI nf)], bA g fra fcap ff, oB rr 7 [.ref rra, .int (nI n1)], bA g rra rcap rf] rfl ?_
        refine j_st [] rfl ?_
        refine j_aload_n hX 0 dX0_lead_113 rfl ?_
        refine j_get hX in0 0 0 5 (v := .ref hh) rfl rfl (by decide) (List.mem_of_getElem? (i := 4) rfl) rfl rfl dX0_lead_114 ?_
        refine j_get hX in5 5 1 0 (v := .ref inr) rfl rfl (by decide) (List.mem_of_getElem? (i := 6) rfl) rfl rfl dX0_lead_117 ?_
        refine j_pc 120 rfl ?_
        refine j_aload_n hX 0 dX0_lead_120 rfl ?_
        refine j_get hX in0 0 0 3 (v := .ref enr) rfl rfl (by decide) (List.mem_of_getElem? (i := 1) rfl) rfl rfl dX0_lead_121 ?_
        refine j_callV hX 1 (c_addAll l g inr ina (hl fm nn) 768 F1 enr ena ne1 560 E1 (by omega) (by omega) (by omega) (by omega) hB2 (by omega)) gX0_lead_X7_addAll (by decide +kernel) rfl ⟨rfl, rfl⟩ ⟨Nat.le_of_ble_eq_true rfl, Nat.le_of_ble_eq_true rfl⟩ 7 5 rfl rfl [5, 6, 16, 17] rfl (by decide) (fun _ => rfl) rfl [] rfl (Nat.le_of_ble_eq_true rfl) ⟨Nat.le_refl _, Nat.le_refl _⟩ dX0_lead_124 ?_
        intro F2 hF2
        try dsimp only at hF2
        refine j_w [oB ch 0 [.ref lvr, .ref kna, .ref dga, .ref enr, .ref sp, .ref hh], oB hh 5 [.ref inr, .ref outr, .ref zo, .ref on, .ref sp, .ref sdr, .int (nI ly), .int (nI tr)], oB sp 8 [.int (nI fm), .int (nI nn), .int (nI ht), .int (nI lys), .int (nI fa), .int (nI mk)], oB sdr 7 [.ref sda, .int (nI 48)], bA g sda 48 sd, oB inr 7 [.ref ina, .int (nI ((hl fm nn) + ne1))], bA g ina 768 F2, oB outr 7 [.ref outa, .int (nI no1)], bA g outa 32 FO, oB zo 4 [.ref sa, .ref wa], iA g sa 8 S1, iA g wa 64 w1, oB on 3 [.ref aa, .ref ba], lA g aa 25 A1, lA g ba 25 B1, iA g dga 35 D1, oB enr 7 [.ref ena, .int (nI ne1)], bA g ena 560 E1, oB fr 7 [.ref fra, .int (nI nf)], bA g fra fcap ff, oB rr 7 [.ref rra, .int (nI n1)], bA g rra rcap rf] rfl ?_
        refine j_st [] rfl ?_
        refine j_aload_n hX 0 dX0_lead_127 rfl ?_
        refine j_get hX in0 0 0 5 (v := .ref hh) rfl rfl (by decide) (List.mem_of_getElem? (i := 4) rfl) rfl rfl dX0_lead_128 ?_
        refine j_aload hX 4 dX0_lead_131 rfl ?_
        refine j_iconst hX (0) dX0_lead_133 (by decide) ?_
        refine j_callV hX 2 (c_finish l g hh inr outr zo on sp fm nn ht lys fa mk sdr ly tr ina ((hl fm nn) + ne1) F2 outa no1 FO sa wa S1 w1 aa ba A1 B1 rr rra n1 rcap rf 0 (by omega) (by omega) (by omega) (by omega) hnl.2 hFO (by omega) (by omega) (by omega) (by omega)) gX0_lead_X5_finish (by decide +kernel) rfl ⟨rfl, rfl⟩ ⟨Nat.le_of_ble_eq_true rfl, Nat.le_of_ble_eq_true rfl⟩ 5 1 rfl rfl [1, 2, 5, 6, 7, 8, 9, 10, 11, 12, 13, 14, 20, 21] rfl (by decide) (fun _ => rfl) rfl [] rfl (Nat.le_of_ble_eq_true rfl) ⟨Nat.le_refl _, Nat.le_refl _⟩ dX0_lead_134 ?_
        rintro ⟨S7, w7, A7, B7, nl7, G7, FO7, TO7⟩ hE
        try dsimp only at hE
        refine j_w [oB ch 0 [.ref lvr, .ref kna, .ref dga, .ref enr, .ref sp, .ref hh], oB hh 5 [.ref inr, .ref outr, .ref zo, .ref on, .ref sp, .ref sdr, .int (nI ly), .int (nI tr)], oB sp 8 [.int (nI fm), .int (nI nn), .int (nI ht), .int (nI lys), .int (nI fa), .int (nI mk)], oB sdr 7 [.ref sda, .int (nI 48)], bA g sda 48 sd, oB inr 7 [.ref ina, .int (nI nl7)], bA g ina 768 G7, oB outr 7 [.ref outa, .int (nI 32)], bA g outa 32 FO7, oB zo 4 [.ref sa, .ref wa], iA g sa 8 S7, iA g wa 64 w7, oB on 3 [.ref aa, .ref ba], lA g aa 25 A7, lA g ba 25 B7, iA g dga 35 D1, oB enr 7 [.ref ena, .int (nI ne1)], bA g ena 560 E1, oB fr 7 [.ref fra, .int (nI nf)], bA g fra fcap ff, oB rr 7 [.ref rra, .int (nI (max n1 (0 + nn)))], bA g rra rcap TO7] rfl ?_
        refine j_st [] rfl ?_
        rw [hF2, hF1, putL_app' (by rw [hdl, Nat.zero_add]), slice_put (by rw [List.length_append, hdl, slice_length]), hO, slice_put (by rw [ldE_length (by omega), hne1]), hkl] at hE
        refine j_w [oB ch 0 [.ref lvr, .ref kna, .ref dga, .ref enr, .ref sp, .ref hh], oB hh 5 [.ref inr, .ref outr, .ref zo, .ref on, .ref sp, .ref sdr, .int (nI ly), .int (nI tr)], oB sp 8 [.int (nI fm), .int (nI nn), .int (nI ht), .int (nI lys), .int (nI fa), .int (nI mk)], oB sdr 7 [.ref sda, .int (nI 48)], bA g sda 48 sd, oB inr 7 [.ref ina, .int (nI nl7)], bA g ina 768 G7, oB outr 7 [.ref outa, .int (nI 32)], bA g outa 32 FO7, oB zo 4 [.ref sa, .ref wa], iA g sa 8 S7, iA g wa 64 w7, oB on 3 [.ref aa, .ref ba], lA g aa 25 A7, lA g ba 25 B7, iA g dga 35 D1, oB enr 7 [.ref ena, .int (nI ne1)], bA g ena 560 E1, oB fr 7 [.ref fra, .int (nI nf)], bA g fra fcap ff, oB rr 7 [.ref rra, .int (nI n1)], bA g rra rcap TO7] (by rw [show max n1 (0 + nn) = n1 by omega]) ?_
        refine j_pc 137 rfl ?_
        exact hret (32, S7, w7, A7, B7, nl7, G7, FO7, D1, ne1, E1, TO7) (by dsimp only; exact ⟨⟨hE.1, Nat.le_refl _, hne560⟩, hE.2.1, hB2, hE.2.2⟩) 137 _ .return_ dX0_lead_137 rfl
      · skip
        have hml := mul_lt2 (n := nn) (show k < ln nn by omega)
        refine j_aload_n hX 0 dX0_lead_28 rfl ?_
        refine j_get hX in0 0 0 3 (v := .ref enr) rfl rfl (by decide) (List.mem_of_getElem? (i := 1) rfl) rfl rfl dX0_lead_29 ?_
        refine j_aload_n hX 1 dX0_lead_32 rfl ?_
        refine j_iload_n hX 2 dX0_lead_33 rfl ?_
        refine j_iload hX 5 dX0_lead_34 rfl ?_
        refine j_aload_n hX 0 dX0_lead_36 rfl ?_
        refine j_get hX in0 0 0 4 (v := .ref sp) rfl rfl (by decide) (List.mem_of_getElem? (i := 2) rfl) rfl rfl dX0_lead_37 ?_
        refine j_pc 40 rfl ?_
        refine j_get hX in8 8 2 1 (v := .int (nI nn)) rfl rfl (by decide) (List.mem_of_getElem? (i := 3) rfl) rfl rfl dX0_lead_40 ?_
        refine j_imulN hX k nn dX0_lead_43 ?_
        refine j_iaddN hX t (k * nn) dX0_lead_44 ?_
        refine j_aload_n hX 0 dX0_lead_45 rfl ?_
        refine j_get hX in0 0 0 4 (v := .ref sp) rfl rfl (by decide) (List.mem_of_getElem? (i := 2) rfl) rfl rfl dX0_lead_46 ?_
        refine j_get hX in8 8 2 1 (v := .int (nI nn)) rfl rfl (by decide) (List.mem_of_getElem? (i := 3) rfl) rfl rfl dX0_lead_49 ?_
        refine j_callV hX 3 (c_add l g enr ena ne1 560 E1 fr fra nf fcap ff (t + (k * nn)) nn (by omega) (by omega) (by omega) (by omega) hFB (by omega) (by omega)) gX0_lead_X7_add (by decide +kernel) rfl ⟨rfl, rfl⟩ ⟨Nat.le_of_ble_eq_true rfl, Nat.le_of_ble_eq_true rfl⟩ 7 16 rfl rfl [16, 17, 18, 19] rfl (by decide) (fun _ => rfl) rfl [] rfl (Nat.le_of_ble_eq_true rfl) ⟨Nat.le_refl _, Nat.le_refl _⟩ dX0_lead_52 ?_
        intro E5 hS
        try dsimp only at hS
        refine j_w [oB ch 0 [.ref lvr, .ref kna, .ref dga, .ref enr, .ref sp, .ref hh], oB hh 5 [.ref inr, .ref outr, .ref zo, .ref on, .ref sp, .ref sdr, .int (nI ly), .int (nI tr)], oB sp 8 [.int (nI fm), .int (nI nn), .int (nI ht), .int (nI lys), .int (nI fa), .int (nI mk)], oB sdr 7 [.ref sda, .int (nI 48)], bA g sda 48 sd, oB inr 7 [.ref ina, .int (nI nl)], bA g ina 768 G, oB outr 7 [.ref outa, .int (nI no1)], bA g outa 32 FO, oB zo 4 [.ref sa, .ref wa], iA g sa 8 S1, iA g wa 64 w1, oB on 3 [.ref aa, .ref ba], lA g aa 25 A1, lA g ba 25 B1, iA g dga 35 D1, oB enr 7 [.ref ena, .int (nI (ne1 + nn))], bA g ena 560 E5, oB fr 7 [.ref fra, .int (nI nf)], bA g fra fcap ff, oB rr 7 [.ref rra, .int (nI n1)], bA g rra rcap rf] rfl ?_
        refine j_st [] rfl ?_
        refine j_aload_n hX 0 dX0_lead_55 rfl ?_
        refine j_pc 56 rfl ?_
        refine j_get hX in0 0 0 5 (v := .ref hh) rfl rfl (by decide) (List.mem_of_getElem? (i := 4) rfl) rfl rfl dX0_lead_56 ?_
        refine j_aload_n hX 0 dX0_lead_59 rfl ?_
        refine j_get hX in0 0 0 3 (v := .ref enr) rfl rfl (by decide) (List.mem_of_getElem? (i := 1) rfl) rfl rfl dX0_lead_60 ?_
        refine j_iload hX 5 dX0_lead_63 rfl ?_
        refine j_aload_n hX 0 dX0_lead_65 rfl ?_
        refine j_get hX in0 0 0 4 (v := .ref sp) rfl rfl (by decide) (List.mem_of_getElem? (i := 2) rfl) rfl rfl dX0_lead_66 ?_
        refine j_get hX in8 8 2 1 (v := .int (nI nn)) rfl rfl (by decide) (List.mem_of_getElem? (i := 3) rfl) rfl rfl dX0_lead_69 ?_
        refine j_imulN hX k nn dX0_lead_72 ?_
        refine j_pc 73 rfl ?_
        refine j_aload_n hX 0 dX0_lead_73 rfl ?_
        refine j_get hX in0 0 0 2 (v := .ref dga) rfl rfl (by decide) (List.mem_of_getElem? (i := 5) rfl) rfl rfl dX0_lead_74 ?_
        refine j_iload hX 5 dX0_lead_77 rfl ?_
        refine j_ialdN hX 15 k rfl (by omega) (by omega) dX0_lead_79 ?_
        refine j_topeq _ (nI (dgt rf nn k)) (hD k (by omega)) ?_
        refine j_bipush hX (15) dX0_lead_80 (by decide) ?_
        refine j_aload_n hX 0 dX0_lead_82 rfl ?_
        refine j_get hX in0 0 0 2 (v := .ref dga) rfl rfl (by decide) (List.mem_of_getElem? (i := 5) rfl) rfl rfl dX0_lead_83 ?_
        refine j_iload hX 5 dX0_lead_86 rfl ?_
        refine j_pc 88 rfl ?_
        refine j_ialdN hX 15 k rfl (by omega) (by omega) dX0_lead_88 ?_
        refine j_topeq _ (nI (dgt rf nn k)) (hD k (by omega)) ?_
        refine j_isubN hX 15 (dgt rf nn k) (by have := dgt_lt rf nn k; omega) dX0_lead_89 ?_
        refine j_iload_n hX 3 dX0_lead_90 rfl ?_
        refine j_iload hX 5 dX0_lead_91 rfl ?_
        refine j_callV hX 6 (c_hchain l g hh inr outr zo on sp fm nn ht lys fa mk sdr ly tr sda sd ina nl G outa no1 FO sa wa S1 w1 aa ba A1 B1 enr ena (ne1 + nn) 560 E5 (k * nn) (dgt rf nn k) (15 - (dgt rf nn k)) u k (by omega) (by omega) hB hnl.2 hFO (by omega) (by omega) hnl.1 (by omega) (by rw [hS]; exact putL_B hB2 (slice_B hFB _ _)) (by have := dgt_lt rf nn k; omega)) gX0_lead_X5_chain (by decide +kernel) rfl ⟨rfl, rfl⟩ ⟨Nat.le_of_ble_eq_true rfl, Nat.le_of_ble_eq_true rfl⟩ 5 1 rfl rfl [1, 2, 3, 4, 5, 6, 7, 8, 9, 10, 11, 12, 13, 14, 16, 17] rfl (by decide) (fun _ => rfl) rfl [] rfl (Nat.le_of_ble_eq_true rfl) ⟨Nat.le_refl _, Nat.le_refl _⟩ dX0_lead_93 ?_
        rintro ⟨no6, S6, w6, A6, B6, nl6, G6, FO6, TO6⟩ hC
        try dsimp only at hC
        refine j_w [oB ch 0 [.ref lvr, .ref kna, .ref dga, .ref enr, .ref sp, .ref hh], oB hh 5 [.ref inr, .ref outr, .ref zo, .ref on, .ref sp, .ref sdr, .int (nI ly), .int (nI tr)], oB sp 8 [.int (nI fm), .int (nI nn), .int (nI ht), .int (nI lys), .int (nI fa), .int (nI mk)], oB sdr 7 [.ref sda, .int (nI 48)], bA g sda 48 sd, oB inr 7 [.ref ina, .int (nI nl6)], bA g ina 768 G6, oB outr 7 [.ref outa, .int (nI no6)], bA g outa 32 FO6, oB zo 4 [.ref sa, .ref wa], iA g sa 8 S6, iA g wa 64 w6, oB on 3 [.ref aa, .ref ba], lA g aa 25 A6, lA g ba 25 B6, iA g dga 35 D1, oB enr 7 [.ref ena, .int (nI (ne1 + nn))], bA g ena 560 TO6, oB fr 7 [.ref fra, .int (nI nf)], bA g fra fcap ff, oB rr 7 [.ref rra, .int (nI n1)], bA g rra rcap rf] rfl ?_
        refine j_st [] rfl ?_
        refine j_iincN hX k (k + 1) [(5, .int (nI (k + 1))), (0, .ref ch), (1, .ref fr), (2, .int (nI t)), (3, .int (nI u)), (4, .ref rr)] 5 dX0_lead_96 rfl (nI_1 _) (by decide) rfl ?_
        refine j_goto hX 16 dX0_lead_99 (by decide) ?_
        refine j_perm [(0, .ref ch), (1, .ref fr), (2, .int (nI t)), (3, .int (nI u)), (4, .ref rr), (5, .int (nI (k + 1)))] [1, 2, 3, 4, 5, 0] rfl ?_
        exact ih_4 (k + 1) no6 S6 w6 A6 B6 nl6 G6 FO6 (ne1 + nn) TO6 (by omega) (by omega) hC.1 hC.2.1 hC.2.2.1 (by rw [hne1, Nat.succ_mul]) (ldE_step hnn rfl hO (by rw [hS, hne1]) hC.2.2.2)
  refine j_perm [(0, .ref ch), (1, .ref fr), (2, .int (nI t)), (3, .int (nI u)), (4, .ref rr), (5, .int (nI 0))] [1, 2, 3, 4, 5, 0] rfl ?_
  exact lp_2 _ 0 no S0 w0 A0 B0 ni fi fo 0 ef (Nat.lt_succ_self _) (by omega) ⟨hni0, hno⟩ hBo hEB (by rw [Nat.zero_mul]) (by rw [ldE, putL_nil])

