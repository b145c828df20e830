/-! T, SECRET, CHAIN, said plainly -/
def zl (x c : Nat) : List Int32 := Zl (nI x).toInt64 c
theorem zl_length (x c : Nat) : (zl x c).length = c := Zl_length _ _
theorem zl_B (x c : Nat) : isBL (zl x c) := Zl_B _ _
/-- what T hashes ahead of the row -/
def hd (fm n : Nat) (sd : Nat → Int32) (ly tr kd u v w : Nat) : List Int32 := ((((((slice sd 32 n ++ (if fm = 0 then List.replicate (64 - n) 0 else [])) ++ zl ly (if fm = 0 then 1 else 4)) ++ zl tr (if fm = 0 then 8 else 12)) ++ zl kd (if fm = 0 then 1 else 4)) ++ zl u 4) ++ zl v 4) ++ zl w 4
def hl (fm n : Nat) : Nat := if fm = 0 then 86 else n + 32
theorem hd_length {fm n : Nat} (hn : n ≤ 64) (sd : Nat → Int32) (ly tr kd u v w : Nat) : (hd fm n sd ly tr kd u v w).length = hl fm n := by
  unfold hd hl
  by_cases h : fm = 0
  · simp only [List.length_append, zl_length, slice_length, if_pos h, List.length_replicate]; omega
  · simp only [List.length_append, zl_length, slice_length, if_neg h, List.length_nil]
theorem hl_le {fm n : Nat} (hn : n ≤ 16) : hl fm n ≤ 86 := by unfold hl; split <;> omega
def TT (fm n : Nat) (sd : Nat → Int32) (ly tr kd u v w : Nat) (row : List Int32) : List Int32 := (HH fm (hd fm n sd ly tr kd u v w ++ row)).take n
theorem TT_length {fm n : Nat} (hn : n ≤ 32) (sd : Nat → Int32) (ly tr kd u v w : Nat) (row : List Int32) : (TT fm n sd ly tr kd u v w row).length = n := by
  unfold TT
  rw [List.length_take, HH_length]
  omega
theorem isBL_take {l : List Int32} (h : isBL l) (n : Nat) : isBL (l.take n) := fun x hx => h x (List.mem_of_mem_take hx)
theorem TT_B (fm n : Nat) (sd : Nat → Int32) (ly tr kd u v w : Nat) (row : List Int32) : isBL (TT fm n sd ly tr kd u v w row) := isBL_take (HH_B _ _) _
def secT (fm n : Nat) (sd : Nat → Int32) (ly tr kd u v w : Nat) : List Int32 := TT fm n sd ly tr kd u v w (slice sd 0 n)
def chT (fm n : Nat) (sd : Nat → Int32) (ly tr u v : Nat) (row : List Int32) (b : Nat) : Nat → List Int32
  | 0 => row
  | k + 1 => TT fm n sd ly tr 0 u v (b + k) (chT fm n sd ly tr u v row b k)
theorem chT_length {fm n : Nat} (hn : n ≤ 32) (sd : Nat → Int32) (ly tr u v : Nat) {row : List Int32} (hr : row.length = n) (b : Nat) : ∀ k, (chT fm n sd ly tr u v row b k).length = n
  | 0 => hr
  | k + 1 => TT_length hn _ _ _ _ _ _ _ _
theorem chT_B {fm n : Nat} (sd : Nat → Int32) (ly tr u v : Nat) {row : List Int32} (hr : isBL row) (b : Nat) : ∀ k, isBL (chT fm n sd ly tr u v row b k)
  | 0 => hr
  | k + 1 => TT_B _ _ _ _ _ _ _ _ _ _
theorem take_put2 {d D : Nat → Int32} {l : List Int32} {t k : Nat} {x : Int32} (hD : D = putL d t (l.take k)) (hk : k < l.length) (hx : x = l.getD k 0) : upd D (t + k) x = putL d t (l.take (k + 1)) := by
  rw [hD, putL_snoc (by rw [List.length_take]; omega), List.take_succ, hx]
  congr 2
  simp only [List.getD, List.getElem?_eq_getElem hk]
  rfl
theorem getD_B {l : List Int32} (h : isBL l) (k : Nat) : i8 (l.getD k 0) = l.getD k 0 := by
  by_cases hk : k < l.length
  · simp only [List.getD, List.getElem?_eq_getElem hk, Option.getD_some]
    exact h _ (List.getElem_mem hk)
  · simp only [List.getD, List.getElem?_eq_none (Nat.le_of_not_lt hk), Option.getD_none]
    exact i8_0
theorem slice_put_step {f F h : Nat → Int32} {n s k : Nat} (hB : isB h) (hF : F = putL f n (slice h s k)) : upd F (n + k) (i8 (h (s + k))) = putL f n (slice h s (k + 1)) := by
  rw [hF, putL_snoc (by rw [slice_length]), slice_succ, hB]
theorem put_read {d D : Nat → Int32} {l : List Int32} {k : Nat} (h : D = putL d 0 l) (hk : k < l.length) : D k = l.getD k 0 := by
  have := putL_in (f := d) (n := 0) (L := l) hk
  rw [Nat.zero_add] at this
  rw [h, this]
theorem begin_fin {f F2 F3 F4 F5 F6 F7 F8 sd : Nat → Int32} {fm nn ly tr kd ku kv kw m2 cn cm cp : Nat} (hnn : nn ≤ 16) (hm2 : m2 = if fm = 0 then 64 else nn) (hcn : cn = if fm = 0 then 1 else 4) (hcm : cm = if fm = 0 then 8 else 12) (hcp : cp = if fm = 0 then 1 else 4) (hF2 : F2 = putL f 0 (slice sd 32 nn ++ (if fm = 0 then List.replicate (64 - nn) 0 else []))) (hF3 : F3 = putL F2 m2 (Zl (nI ly).toInt64 cn)) (hF4 : F4 = putL F3 (m2 + cn) (Zl (nI tr).toInt64 cm)) (hF5 : F5 = putL F4 (m2 + cn + cm) (Zl (nI kd).toInt64 cp)) (hF6 : F6 = putL F5 (m2 + cn + cm + cp) (Zl (nI ku).toInt64 4)) (hF7 : F7 = putL F6 (m2 + cn + cm + cp + 4) (Zl (nI kv).toInt64 4)) (hF8 : F8 = putL F7 (m2 + cn + cm + cp + 4 + 4) (Zl (nI kw).toInt64 4)) : F8 = putL f 0 (hd fm nn sd ly tr kd ku kv kw) ∧ m2 + cn + cm + cp + 4 + 4 + 4 = hl fm nn := by
  have hm3 : (slice sd 32 nn ++ (if fm = 0 then List.replicate (64 - nn) 0 else ([] : List Int32))).length = m2 := by
    rw [hm2, List.length_append, slice_length]
    by_cases h0 : fm = 0
    · rw [if_pos h0, if_pos h0, List.length_replicate]; omega
    · rw [if_neg h0, if_neg h0]; rfl
  constructor
  · have e3 := hF3; rw [hF2, putL_app' (by rw [hm3, Nat.zero_add])] at e3
    have e4 := hF4; rw [e3, putL_app' (by rw [List.length_append, hm3, Zl_length, Nat.zero_add])] at e4
    have e5 := hF5; rw [e4, putL_app' (by rw [List.length_append, List.length_append, hm3, Zl_length, Zl_length, Nat.zero_add])] at e5
    have e6 := hF6; rw [e5, putL_app' (by rw [List.length_append, List.length_append, List.length_append, hm3, Zl_length, Zl_length, Zl_length, Nat.zero_add])] at e6
    have e7 := hF7; rw [e6, putL_app' (by rw [List.length_append, List.length_append, List.length_append, List.length_append, hm3, Zl_length, Zl_length, Zl_length, Zl_length, Nat.zero_add])] at e7
    have e8 := hF8; rw [e7, putL_app' (by rw [List.length_append, List.length_append, List.length_append, List.length_append, List.length_append, hm3, Zl_length, Zl_length, Zl_length, Zl_length, Zl_length, Nat.zero_add])] at e8
    rw [e8, hcn, hcm, hcp]
    rfl
  · unfold hl
    by_cases h0 : fm = 0
    · rw [if_pos h0] at *; rw [hm2, hcn, hcm, hcp]
    · rw [if_neg h0] at *; rw [hm2, hcn, hcm, hcp]

set_option maxRecDepth 20000 in
theorem ggX11_layTape_X11_lay : GoodIn wsX11_layTape wsX11_lay := goodIn_r _ [7, 8, 9, 10, 11, 12, 13, 14, 15, 16, 17, 18, 19, 20, 21, 22, 23, 24, 25, 26, 27, 28, 29, 30, 31, 32, 33, 34, 35, 36, 37, 38, 39, 40, 41, 42, 43, 44, 45, 46, 47, 48, 49, 50, 51, 52] rfl (by decide +kernel)
set_option maxRecDepth 20000 in
theorem gX11_layTape_X11_lay : GoodIn wsX11_layTape (wsV RX11 198 RX11 yX11_lay wsX11_lay) := goodIn_app (goodIn_of _ (by decide +kernel)) ggX11_layTape_X11_lay
theorem dX11_layTape_0 : decode cX11_layTape 0 = .ok (.iconst 0, 1) := by decide +kernel
theorem dX11_layTape_1 : decode cX11_layTape 1 = .ok (.istore_n 1, 1) := by decide +kernel
theorem dX11_layTape_2 : decode cX11_layTape 2 = .ok (.iload_n 1, 1) := by decide +kernel
theorem dX11_layTape_3 : decode cX11_layTape 3 = .ok (.aload_n 0, 1) := by decide +kernel
theorem dX11_layTape_4 : decode cX11_layTape 4 = .ok (.getfield 188, 3) := by decide +kernel
theorem dX11_layTape_7 : decode cX11_layTape 7 = .ok (.if_icmp .ge 19, 3) := by decide +kernel
theorem dX11_layTape_10 : decode cX11_layTape 10 = .ok (.aload_n 0, 1) := by decide +kernel
theorem dX11_layTape_11 : decode cX11_layTape 11 = .ok (.aload_n 0, 1) := by decide +kernel
theorem dX11_layTape_12 : decode cX11_layTape 12 = .ok (.getfield 7, 3) := by decide +kernel
theorem dX11_layTape_15 : decode cX11_layTape 15 = .ok (.iload_n 1, 1) := by decide +kernel
theorem dX11_layTape_16 : decode cX11_layTape 16 = .ok (.baload, 1) := by decide +kernel
theorem dX11_layTape_17 : decode cX11_layTape 17 = .ok (.invokevirtual 198, 3) := by decide +kernel
theorem dX11_layTape_20 : decode cX11_layTape 20 = .ok (.iinc 1 1, 3) := by decide +kernel
theorem dX11_layTape_23 : decode cX11_layTape 23 = .ok (.goto (-21), 3) := by decide +kernel
theorem dX11_layTape_26 : decode cX11_layTape 26 = .ok (.return_, 1) := by decide +kernel
set_option maxRecDepth 20000 in
theorem ggX11_laySeed_X11_lay : GoodIn wsX11_laySeed wsX11_lay := goodIn_r _ [7, 8, 9, 10, 11, 12, 13, 14, 15, 16, 17, 18, 19, 20, 21, 22, 23, 24, 25, 26, 27, 28, 29, 30, 31, 32, 33, 34, 35, 36, 37, 38, 39, 40, 41, 42, 43, 44, 45, 46, 47, 48, 49, 50, 51, 52] rfl (by decide +kernel)
set_option maxRecDepth 20000 in
theorem gX11_laySeed_X11_lay : GoodIn wsX11_laySeed (wsV RX11 198 RX11 yX11_lay wsX11_lay) := goodIn_app (goodIn_of _ (by decide +kernel)) ggX11_laySeed_X11_lay
theorem dX11_laySeed_0 : decode cX11_laySeed 0 = .ok (.iconst 0, 1) := by decide +kernel
theorem dX11_laySeed_1 : decode cX11_laySeed 1 = .ok (.istore_n 2, 1) := by decide +kernel
theorem dX11_laySeed_2 : decode cX11_laySeed 2 = .ok (.iload_n 2, 1) := by decide +kernel
theorem dX11_laySeed_3 : decode cX11_laySeed 3 = .ok (.aload_n 0, 1) := by decide +kernel
theorem dX11_laySeed_4 : decode cX11_laySeed 4 = .ok (.getfield 166, 3) := by decide +kernel
theorem dX11_laySeed_7 : decode cX11_laySeed 7 = .ok (.if_icmp .ge 24, 3) := by decide +kernel
theorem dX11_laySeed_10 : decode cX11_laySeed 10 = .ok (.aload_n 0, 1) := by decide +kernel
theorem dX11_laySeed_11 : decode cX11_laySeed 11 = .ok (.aload_n 0, 1) := by decide +kernel
theorem dX11_laySeed_12 : decode cX11_laySeed 12 = .ok (.getfield 120, 3) := by decide +kernel
theorem dX11_laySeed_15 : decode cX11_laySeed 15 = .ok (.bipush 16, 2) := by decide +kernel
theorem dX11_laySeed_17 : decode cX11_laySeed 17 = .ok (.iload_n 1, 1) := by decide +kernel
theorem dX11_laySeed_18 : decode cX11_laySeed 18 = .ok (.imul, 1) := by decide +kernel
theorem dX11_laySeed_19 : decode cX11_laySeed 19 = .ok (.iload_n 2, 1) := by decide +kernel
theorem dX11_laySeed_20 : decode cX11_laySeed 20 = .ok (.iadd, 1) := by decide +kernel
theorem dX11_laySeed_21 : decode cX11_laySeed 21 = .ok (.baload, 1) := by decide +kernel
theorem dX11_laySeed_22 : decode cX11_laySeed 22 = .ok (.invokevirtual 198, 3) := by decide +kernel
theorem dX11_laySeed_25 : decode cX11_laySeed 25 = .ok (.iinc 2 1, 3) := by decide +kernel
theorem dX11_laySeed_28 : decode cX11_laySeed 28 = .ok (.goto (-26), 3) := by decide +kernel
theorem dX11_laySeed_31 : decode cX11_laySeed 31 = .ok (.return_, 1) := by decide +kernel
set_option maxRecDepth 20000 in
theorem ggX11_layRow_X11_lay : GoodIn wsX11_layRow wsX11_lay := goodIn_r _ [5, 6, 7, 8, 9, 10, 11, 12, 13, 14, 15, 16, 17, 18, 19, 20, 21, 22, 23, 24, 25, 26, 27, 28, 29, 30, 31, 32, 33, 34, 35, 36, 37, 38, 39, 40, 41, 42, 43, 44, 45, 46, 47, 48, 49, 50] rfl (by decide +kernel)
set_option maxRecDepth 20000 in
theorem gX11_layRow_X11_lay : GoodIn wsX11_layRow (wsV RX11 198 RX11 yX11_lay wsX11_lay) := goodIn_app (goodIn_of _ (by decide +kernel)) ggX11_layRow_X11_lay
theorem dX11_layRow_0 : decode cX11_layRow 0 = .ok (.iconst 0, 1) := by decide +kernel
theorem dX11_layRow_1 : decode cX11_layRow 1 = .ok (.istore 4, 2) := by decide +kernel
theorem dX11_layRow_3 : decode cX11_layRow 3 = .ok (.iload 4, 2) := by decide +kernel
theorem dX11_layRow_5 : decode cX11_layRow 5 = .ok (.iload_n 3, 1) := by decide +kernel
theorem dX11_layRow_6 : decode cX11_layRow 6 = .ok (.if_icmp .ge 19, 3) := by decide +kernel
theorem dX11_layRow_9 : decode cX11_layRow 9 = .ok (.aload_n 0, 1) := by decide +kernel
theorem dX11_layRow_10 : decode cX11_layRow 10 = .ok (.aload_n 1, 1) := by decide +kernel
theorem dX11_layRow_11 : decode cX11_layRow 11 = .ok (.iload_n 2, 1) := by decide +kernel
theorem dX11_layRow_12 : decode cX11_layRow 12 = .ok (.iload 4, 2) := by decide +kernel
theorem dX11_layRow_14 : decode cX11_layRow 14 = .ok (.iadd, 1) := by decide +kernel
theorem dX11_layRow_15 : decode cX11_layRow 15 = .ok (.baload, 1) := by decide +kernel
theorem dX11_layRow_16 : decode cX11_layRow 16 = .ok (.invokevirtual 198, 3) := by decide +kernel
theorem dX11_layRow_19 : decode cX11_layRow 19 = .ok (.iinc 4 1, 3) := by decide +kernel
theorem dX11_layRow_22 : decode cX11_layRow 22 = .ok (.goto (-19), 3) := by decide +kernel
theorem dX11_layRow_25 : decode cX11_layRow 25 = .ok (.return_, 1) := by decide +kernel
set_option maxHeartbeats 1000000 in
set_option maxRecDepth 100000 in
/-- the reference: layTape -/
theorem c_layTape (l : Launch) (g : jG) (h : Nat) (b : Nat → Nat) (v : Nat → Int32) (n : Nat) (f : Nat → Int32) (tp : Nat → Int32) (sz : Nat) (hv3 : v 3 = nI n) (hv1 : v 1 = nI sz) (hsz : sz ≤ 600) (hn : n + sz ≤ 1400) (hB : isB tp) : jC l g yX11_layTape wsX11_layTape ({ frames := 1, cells := 0, slots := 0, locals := 21 } : Room) [.ref h] [oB h 11 (mO b v), bA g (b 2) 1400 f, bA g (b 0) 600 tp] (fun u : (Nat → Int32) => none) (fun u : (Nat → Int32) => u = putL f n (slice tp 0 sz)) (fun u : (Nat → Int32) => [oB h 11 (mO b (upd v 3 (nI (n + sz)))), bA g (b 2) 1400 u, bA g (b 0) 600 tp]) := by
  refine jC.of (cc := cX11_layTape) (own := RX11) (maxL := 2) (ret := none) (by decide +kernel) rfl rfl (Nat.le_of_ble_eq_true rfl) (fun u hu => rfl) ?_
  intro p e s m below meth c A Q hX hret
  have in11 : ∀ w ∈ wsX110, w ∈ wsX11_layTape := (fun w h => List.mem_cons_of_mem _ (List.mem_append_right _ h))
  refine j_w [oB h 11 (mO b (upd v 3 (nI n))), bA g (b 2) 1400 f, bA g (b 0) 600 tp] (by rw [updS (hv3 : (v : Nat → Int32) 3 = nI n)]) ?_
  refine j_iconst hX (0) dX11_layTape_0 (by decide) ?_
  refine j_st [.int (nI 0)] rfl ?_
  refine j_istore_n hX 1 [(1, .int (nI 0)), (0, .ref h)] dX11_layTape_1 rfl (by decide) rfl ?_
  have lp_1 : ∀ (n_2 : Nat) (k : Nat) (F : Nat → Int32), (sz - k < n_2) → (k ≤ sz) → (F = putL f n (slice tp 0 k)) → J p l e ({ frames := 1, cells := 0, slots := 0, locals := 21 } : Room) s m ([.ref h] : List Value).toArray below meth c g A 2 Q 0 0 [oB h 11 (mO b (upd v 3 (nI (n + k)))), bA g (b 2) 1400 F, bA g (b 0) 600 tp] [(0, .ref h), (1, .int (nI k))] 2 [] := by
    intro n_2
    induction n_2 with
    | zero => intro k F hm; exact absurd hm (Nat.not_lt_zero _)
    | succ n_2 ih_3 =>
      intro k F hm hk hF
      refine j_iload_n hX 1 dX11_layTape_2 rfl ?_
      refine j_aload_n hX 0 dX11_layTape_3 rfl ?_
      refine j_gete hX (nI sz) in11 11 0 1 rfl rfl (by decide) (List.mem_of_getElem? (i := 1) rfl) rfl rfl hv1 dX11_layTape_4 ?_
      refine j_icmp_geN hX k sz 26 dX11_layTape_7 (by decide) (by omega) (by omega) (fun b_7 => ?_) (fun b_7 => ?_)
      · skip
        have hks : sz = k := by omega
        subst hks
        exact hret F hF 26 _ .return_ dX11_layTape_26 rfl
      · skip
        refine j_pc 10 rfl ?_
        refine j_aload_n hX 0 dX11_layTape_10 rfl ?_
        refine j_aload_n hX 0 dX11_layTape_11 rfl ?_
        refine j_get hX in11 11 0 0 (v := .ref (b 0)) rfl rfl (by decide) (List.mem_of_getElem? (i := 2) rfl) rfl rfl dX11_layTape_12 ?_
        refine j_iload_n hX 1 dX11_layTape_15 rfl ?_
        refine j_baldN hX 2 k rfl (by omega) (by omega) dX11_layTape_16 ?_
        refine j_callV hX 1 (c_mlay l g h b (upd v 3 (nI (n + k))) (n + k) F (tp k) rfl (by omega)) gX11_layTape_X11_lay (by decide +kernel) rfl ⟨rfl, rfl⟩ ⟨Nat.le_of_ble_eq_true rfl, Nat.le_of_ble_eq_true rfl⟩ 11 0 rfl rfl [0, 1] rfl (by decide) (fun _ => rfl) rfl [] rfl (Nat.le_of_ble_eq_true rfl) ⟨Nat.le_refl _, Nat.le_refl _⟩ dX11_layTape_17 ?_
        intro _ hu_4
        refine j_w [oB h 11 (mO b (upd v 3 (nI ((n + k) + 1)))), bA g (b 2) 1400 (upd F (n + k) (i8 (tp k))), bA g (b 0) 600 tp] rfl ?_
        refine j_st [] rfl ?_
        refine j_iincN hX k (k + 1) [(1, .int (nI (k + 1))), (0, .ref h)] 1 dX11_layTape_20 rfl (nI_1 _) (by decide) rfl ?_
        refine j_goto hX 2 dX11_layTape_23 (by decide) ?_
        refine j_perm [(0, .ref h), (1, .int (nI (k + 1)))] [1, 0] rfl ?_
        exact ih_3 (k + 1) (upd F (n + k) (i8 (tp k))) (by omega) (by omega) (by have h9 := slice_put_step hB hF; rw [Nat.zero_add] at h9; exact h9)
  refine j_perm [(0, .ref h), (1, .int (nI 0))] [1, 0] rfl ?_
  exact lp_1 _ 0 f (Nat.lt_succ_self _) (by omega) (by rw [slice_zero, putL_nil])

set_option maxHeartbeats 1000000 in
set_option maxRecDepth 100000 in
/-- the reference: laySeed -/
theorem c_laySeed (l : Launch) (g : jG) (h : Nat) (b : Nat → Nat) (v : Nat → Int32) (n : Nat) (f : Nat → Int32) (sd : Nat → Int32) (nn : Nat) (q : Nat) (hv3 : v 3 = nI n) (hv16 : v 16 = nI nn) (hnn : nn ≤ 16) (hq : q < 3) (hn : n + nn ≤ 1400) (hB : isB sd) : jC l g yX11_laySeed wsX11_laySeed ({ frames := 1, cells := 0, slots := 0, locals := 21 } : Room) [.ref h, .int (nI q)] [oB h 11 (mO b v), bA g (b 2) 1400 f, bA g (b 23) 48 sd] (fun u : (Nat → Int32) => none) (fun u : (Nat → Int32) => u = putL f n (slice sd (16 * q) nn)) (fun u : (Nat → Int32) => [oB h 11 (mO b (upd v 3 (nI (n + nn)))), bA g (b 2) 1400 u, bA g (b 23) 48 sd]) := by
  refine jC.of (cc := cX11_laySeed) (own := RX11) (maxL := 3) (ret := none) (by decide +kernel) rfl rfl (Nat.le_of_ble_eq_true rfl) (fun u hu => rfl) ?_
  intro p e s m below meth c A Q hX hret
  have in11 : ∀ w ∈ wsX110, w ∈ wsX11_laySeed := (fun w h => List.mem_cons_of_mem _ (List.mem_append_right _ h))
  refine j_w [oB h 11 (mO b (upd v 3 (nI n))), bA g (b 2) 1400 f, bA g (b 23) 48 sd] (by rw [updS (hv3 : (v : Nat → Int32) 3 = nI n)]) ?_
  refine j_iconst hX (0) dX11_laySeed_0 (by decide) ?_
  refine j_st [.int (nI 0)] rfl ?_
  refine j_istore_n hX 2 [(2, .int (nI 0)), (0, .ref h), (1, .int (nI q))] dX11_laySeed_1 rfl (by decide) rfl ?_
  have lp_1 : ∀ (n_2 : Nat) (k : Nat) (F : Nat → Int32), (nn - k < n_2) → (k ≤ nn) → (F = putL f n (slice sd (16 * q) k)) → J p l e ({ frames := 1, cells := 0, slots := 0, locals := 21 } : Room) s m ([.ref h, .int (nI q)] : List Value).toArray below meth c g A 3 Q 0 0 [oB h 11 (mO b (upd v 3 (nI (n + k)))), bA g (b 2) 1400 F, bA g (b 23) 48 sd] [(0, .ref h), (1, .int (nI q)), (2, .int (nI k))] 2 [] := by
    intro n_2
    induction n_2 with
    | zero => intro k F hm; exact absurd hm (Nat.not_lt_zero _)
    | succ n_2 ih_3 =>
      intro k F hm hk hF
      refine j_iload_n hX 2 dX11_laySeed_2 rfl ?_
      refine j_aload_n hX 0 dX11_laySeed_3 rfl ?_
      refine j_gete hX (nI nn) in11 11 0 16 rfl rfl (by decide) (List.mem_of_getElem? (i := 1) rfl) rfl rfl hv16 dX11_laySeed_4 ?_
      refine j_icmp_geN hX k nn 31 dX11_laySeed_7 (by decide) (by omega) (by omega) (fun b_7 => ?_) (fun b_7 => ?_)
      · skip
        have hks : nn = k := by omega
        subst hks
        exact hret F hF 31 _ .return_ dX11_laySeed_31 rfl
      · skip
        refine j_pc 10 rfl ?_
        refine j_aload_n hX 0 dX11_laySeed_10 rfl ?_
        refine j_aload_n hX 0 dX11_laySeed_11 rfl ?_
        refine j_get hX in11 11 0 23 (v := .ref (b 23)) rfl rfl (by decide) (List.mem_of_getElem? (i := 2) rfl) rfl rfl dX11_laySeed_12 ?_
        refine j_bipush hX (16) dX11_laySeed_15 (by decide) ?_
        refine j_iload_n hX 1 dX11_laySeed_17 rfl ?_
        refine j_imulN hX 16 q dX11_laySeed_18 ?_
        refine j_iload_n hX 2 dX11_laySeed_19 rfl ?_
        refine j_iaddN hX (16 * q) k dX11_laySeed_20 ?_
        refine j_pc 21 rfl ?_
        refine j_baldN hX 2 ((16 * q) + k) rfl (by omega) (by omega) dX11_laySeed_21 ?_
        refine j_callV hX 1 (c_mlay l g h b (upd v 3 (nI (n + k))) (n + k) F (sd ((16 * q) + k)) rfl (by omega)) gX11_laySeed_X11_lay (by decide +kernel) rfl ⟨rfl, rfl⟩ ⟨Nat.le_of_ble_eq_true rfl, Nat.le_of_ble_eq_true rfl⟩ 11 0 rfl rfl [0, 1] rfl (by decide) (fun _ => rfl) rfl [] rfl (Nat.le_of_ble_eq_true rfl) ⟨Nat.le_refl _, Nat.le_refl _⟩ dX11_laySeed_22 ?_
        intro _ hu_4
        refine j_w [oB h 11 (mO b (upd v 3 (nI ((n + k) + 1)))), bA g (b 2) 1400 (upd F (n + k) (i8 (sd ((16 * q) + k)))), bA g (b 23) 48 sd] rfl ?_
        refine j_st [] rfl ?_
        refine j_iincN hX k (k + 1) [(2, .int (nI (k + 1))), (0, .ref h), (1, .int (nI q))] 2 dX11_laySeed_25 rfl (nI_1 _) (by decide) rfl ?_
        refine j_goto hX 2 dX11_laySeed_28 (by decide) ?_
        refine j_perm [(0, .ref h), (1, .int (nI q)), (2, .int (nI (k + 1)))] [1, 2, 0] rfl ?_
        exact ih_3 (k + 1) (upd F (n + k) (i8 (sd ((16 * q) + k)))) (by omega) (by omega) (slice_put_step hB hF)
  refine j_perm [(0, .ref h), (1, .int (nI q)), (2, .int (nI 0))] [1, 2, 0] rfl ?_
  exact lp_1 _ 0 f (Nat.lt_succ_self _) (by omega) (by rw [slice_zero, putL_nil])

set_option maxHeartbeats 1000000 in
set_option maxRecDepth 100000 in
/-- the reference: layRow -/
theorem c_layRow (l : Launch) (g : jG) (h : Nat) (b : Nat → Nat) (v : Nat → Int32) (n : Nat) (f : Nat → Int32) (fa : Nat) (fc : Nat) (ff : Nat → Int32) (t : Nat) (q : Nat) (hv3 : v 3 = nI n) (htq : t + q ≤ fc) (hfc : fc < 2 ^ 31) (hn : n + q ≤ 1400) (hB : isB ff) : jC l g yX11_layRow wsX11_layRow ({ frames := 1, cells := 0, slots := 0, locals := 21 } : Room) [.ref h, .ref fa, .int (nI t), .int (nI q)] [oB h 11 (mO b v), bA g (b 2) 1400 f, bA g fa fc ff] (fun u : (Nat → Int32) => none) (fun u : (Nat → Int32) => u = putL f n (slice ff t q)) (fun u : (Nat → Int32) => [oB h 11 (mO b (upd v 3 (nI (n + q)))), bA g (b 2) 1400 u, bA g fa fc ff]) := by
  refine jC.of (cc := cX11_layRow) (own := RX11) (maxL := 5) (ret := none) (by decide +kernel) rfl rfl (Nat.le_of_ble_eq_true rfl) (fun u hu => rfl) ?_
  intro p e s m below meth c A Q hX hret
  refine j_w [oB h 11 (mO b (upd v 3 (nI n))), bA g (b 2) 1400 f, bA g fa fc ff] (by rw [updS (hv3 : (v : Nat → Int32) 3 = nI n)]) ?_
  refine j_iconst hX (0) dX11_layRow_0 (by decide) ?_
  refine j_st [.int (nI 0)] rfl ?_
  refine j_istore hX [(4, .int (nI 0)), (0, .ref h), (1, .ref fa), (2, .int (nI t)), (3, .int (nI q))] dX11_layRow_1 (by decide) rfl ?_
  have lp_1 : ∀ (n_2 : Nat) (k : Nat) (F : Nat → Int32), (q - k < n_2) → (k ≤ q) → (F = putL f n (slice ff t k)) → J p l e ({ frames := 1, cells := 0, slots := 0, locals := 21 } : Room) s m ([.ref h, .ref fa, .int (nI t), .int (nI q)] : List Value).toArray below meth c g A 5 Q 0 0 [oB h 11 (mO b (upd v 3 (nI (n + k)))), bA g (b 2) 1400 F, bA g fa fc ff] [(0, .ref h), (1, .ref fa), (2, .int (nI t)), (3, .int (nI q)), (4, .int (nI k))] 3 [] := by
    intro n_2
    induction n_2 with
    | zero => intro k F hm; exact absurd hm (Nat.not_lt_zero _)
    | succ n_2 ih_3 =>
      intro k F hm hk hF
      refine j_iload hX 4 dX11_layRow_3 rfl ?_
      refine j_iload_n hX 3 dX11_layRow_5 rfl ?_
      refine j_icmp_geN hX k q 25 dX11_layRow_6 (by decide) (by omega) (by omega) (fun b_6 => ?_) (fun b_6 => ?_)
      · skip
        have hks : q = k := by omega
        subst hks
        exact hret F hF 25 _ .return_ dX11_layRow_25 rfl
      · skip
        refine j_aload_n hX 0 dX11_layRow_9 rfl ?_
        refine j_pc 10 rfl ?_
        refine j_aload_n hX 1 dX11_layRow_10 rfl ?_
        refine j_iload_n hX 2 dX11_layRow_11 rfl ?_
        refine j_iload hX 4 dX11_layRow_12 rfl ?_
        refine j_iaddN hX t k dX11_layRow_14 ?_
        refine j_baldN hX 2 (t + k) rfl (by omega) (by omega) dX11_layRow_15 ?_
        refine j_callV hX 1 (c_mlay l g h b (upd v 3 (nI (n + k))) (n + k) F (ff (t + k)) rfl (by omega)) gX11_layRow_X11_lay (by decide +kernel) rfl ⟨rfl, rfl⟩ ⟨Nat.le_of_ble_eq_true rfl, Nat.le_of_ble_eq_true rfl⟩ 11 0 rfl rfl [0, 1] rfl (by decide) (fun _ => rfl) rfl [] rfl (Nat.le_of_ble_eq_true rfl) ⟨Nat.le_refl _, Nat.le_refl _⟩ dX11_layRow_16 ?_
        intro _ hu_4
        refine j_w [oB h 11 (mO b (upd v 3 (nI ((n + k) + 1)))), bA g (b 2) 1400 (upd F (n + k) (i8 (ff (t + k)))), bA g fa fc ff] rfl ?_
        refine j_st [] rfl ?_
        refine j_iincN hX k (k + 1) [(4, .int (nI (k + 1))), (0, .ref h), (1, .ref fa), (2, .int (nI t)), (3, .int (nI q))] 4 dX11_layRow_19 rfl (nI_1 _) (by decide) rfl ?_
        refine j_goto hX 3 dX11_layRow_22 (by decide) ?_
        refine j_perm [(0, .ref h), (1, .ref fa), (2, .int (nI t)), (3, .int (nI q)), (4, .int (nI (k + 1)))] [1, 2, 3, 4, 0] rfl ?_
        exact ih_3 (k + 1) (upd F (n + k) (i8 (ff (t + k)))) (by omega) (by omega) (slice_put_step hB hF)
  refine j_perm [(0, .ref h), (1, .ref fa), (2, .int (nI t)), (3, .int (nI q)), (4, .int (nI 0))] [1, 2, 3, 4, 0] rfl ?_
  exact lp_1 _ 0 f (Nat.lt_succ_self _) (by omega) (by rw [slice_zero, putL_nil])

