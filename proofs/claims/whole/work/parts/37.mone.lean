theorem oneM_step {fm n : Nat} {sd : Nat → Int32} {ly tr u k at0 at1 : Nat} {f P1 P5 P6 sg S1 S7 : Nat → Int32} (hn : n ≤ 16) (h5 : P5 = putL P1 0 (secT fm n sd ly tr 5 u k 0)) (h6 : P6 = putL P5 0 (chT fm n sd ly tr u k (slice P5 0 n) 0 (dgt f n k))) (hO : S1 = putL sg at0 (oneC fm n sd ly tr u f k)) (h1 : at1 = at0 + k * n) (h7 : S7 = putL S1 at1 (slice P6 0 n)) : S7 = putL sg at0 (oneC fm n sd ly tr u f (k + 1)) := by
  have hs : slice P5 0 n = secT fm n sd ly tr 5 u k 0 := by rw [h5, slice_put (by rw [secT_length (by omega)])]
  rw [hs] at h6
  have h6s : slice P6 0 n = chT fm n sd ly tr u k (secT fm n sd ly tr 5 u k 0) 0 (dgt f n k) := by rw [h6, slice_put (by rw [chT_length (by omega) _ _ _ _ _ (secT_length (by omega) _ _ _ _ _ _ _)])]
  rw [h7, h6s, hO, putL_app' (by rw [oneC_length (by omega)]; exact h1)]
  rfl
theorem ldP_any {fm n : Nat} {sd : Nat → Int32} {ly tr kd u z t j : Nat} {r : List Int32} {f rf R1 R2 : Nat → Int32} (hn : n ≤ 16) (hr : r.length = n) (hO : R1 = putL rf 0 (ldP fm n sd ly tr kd u r f t j z)) (hE : R2 = putL R1 0 (TT fm n sd ly tr kd u (z + 1) (j / 2 ^ (z + 1)) (if j / 2 ^ z % 2 = 0 then slice R1 0 n ++ slice f (t + z * n) n else slice f (t + z * n) n ++ slice R1 0 n))) : R2 = putL rf 0 (ldP fm n sd ly tr kd u r f t j (z + 1)) := by
  by_cases h : j / 2 ^ z % 2 = 0
  · rw [if_pos h] at hE
    exact ldP_even hn hr h hO hE
  · rw [if_neg h] at hE
    exact ldP_odd hn hr h hO hE

set_option maxRecDepth 20000 in
theorem ggX11_oneLeads_X11_digits : GoodIn wsX11_oneLeads wsX11_digits := goodIn_r _ [11, 4, 5, 2, 95, 96, 97, 98, 99, 100, 101, 102, 103, 104, 105, 106, 107, 108, 109, 110, 111, 112, 113, 114, 115, 116, 117, 118, 119, 120, 121, 122, 123, 124, 125, 126, 127, 128, 129, 130, 131, 132, 133, 134, 135, 136, 137] rfl (by decide +kernel)
set_option maxRecDepth 20000 in
theorem gX11_oneLeads_X11_digits : GoodIn wsX11_oneLeads (wsV RX11 301 RX11 yX11_digits wsX11_digits) := goodIn_app (goodIn_of _ (by decide +kernel)) ggX11_oneLeads_X11_digits
set_option maxRecDepth 20000 in
theorem ggX11_oneLeads_X11_read : GoodIn wsX11_oneLeads wsX11_read := goodIn_r _ [15, 4, 16, 17, 95, 96, 97, 98, 99, 100, 101, 102, 103, 104, 105, 106, 107, 108, 109, 110, 111, 112, 113, 114, 115, 116, 117, 118, 119, 120, 121, 122, 123, 124, 125, 126, 127, 128, 129, 130, 131, 132, 133, 134, 135, 136, 137] rfl (by decide +kernel)
set_option maxRecDepth 20000 in
theorem gX11_oneLeads_X11_read : GoodIn wsX11_oneLeads (wsV RX11 325 RX11 yX11_read wsX11_read) := goodIn_app (goodIn_of _ (by decide +kernel)) ggX11_oneLeads_X11_read
set_option maxRecDepth 20000 in
theorem ggX11_oneLeads_X11_chain : GoodIn wsX11_oneLeads wsX11_chain := goodIn_r _ [21, 4, 22, 23, 24, 10, 25, 26, 27, 28, 29, 30, 31, 32, 33, 34, 35, 36, 37, 38, 39, 40, 41, 42, 43, 44, 45, 46, 47, 48, 49, 50, 51, 52, 53, 54, 55, 56, 57, 58, 59, 60, 61, 62, 63, 64, 65, 66, 67, 68, 69, 70, 71, 72, 73, 74, 75, 76, 77, 78, 79, 80, 81, 82, 83, 84, 85, 86, 87, 88, 89, 95, 96, 97, 98, 99, 100, 101, 102, 103, 104, 105, 106, 107, 108, 109, 110, 111, 112, 113, 114, 115, 116, 117, 118, 119, 120, 121, 122, 123, 124, 125, 126, 127, 128, 129, 130, 131, 132, 133, 134, 135, 136, 137] rfl (by decide +kernel)
set_option maxRecDepth 20000 in
theorem gX11_oneLeads_X11_chain : GoodIn wsX11_oneLeads (wsV RX11 278 RX11 yX11_chain wsX11_chain) := goodIn_app (goodIn_of _ (by decide +kernel)) ggX11_oneLeads_X11_chain
set_option maxRecDepth 20000 in
theorem ggX11_oneLeads_X11_begin : GoodIn wsX11_oneLeads wsX11_begin := goodIn_r _ [25, 26, 27, 28, 29, 30, 31, 32, 10, 33, 4, 34, 35, 36, 37, 38, 39, 40, 41, 42, 43, 95, 96, 97, 98, 99, 100, 101, 102, 103, 104, 105, 106, 107, 108, 109, 110, 111, 112, 113, 114, 115, 116, 117, 118, 119, 120, 121, 122, 123, 124, 125, 126, 127, 128, 129, 130, 131, 132, 133, 134, 135, 136, 137] rfl (by decide +kernel)
set_option maxRecDepth 20000 in
theorem gX11_oneLeads_X11_begin : GoodIn wsX11_oneLeads (wsV RX11 262 RX11 yX11_begin wsX11_begin) := goodIn_app (goodIn_of _ (by decide +kernel)) ggX11_oneLeads_X11_begin
set_option maxRecDepth 20000 in
theorem ggX11_oneLeads_X11_layRow : GoodIn wsX11_oneLeads wsX11_layRow := goodIn_r _ [47, 35, 36, 37, 10, 38, 39, 26, 95, 96, 97, 98, 99, 100, 101, 102, 103, 104, 105, 106, 107, 108, 109, 110, 111, 112, 113, 114, 115, 116, 117, 118, 119, 120, 121, 122, 123, 124, 125, 126, 127, 128, 129, 130, 131, 132, 133, 134, 135, 136, 137] rfl (by decide +kernel)
set_option maxRecDepth 20000 in
theorem gX11_oneLeads_X11_layRow : GoodIn wsX11_oneLeads (wsV RX11 270 RX11 yX11_layRow wsX11_layRow) := goodIn_app (goodIn_of _ (by decide +kernel)) ggX11_oneLeads_X11_layRow
set_option maxRecDepth 20000 in
theorem ggX11_oneLeads_X11_end : GoodIn wsX11_oneLeads wsX11_end := goodIn_r _ [51, 27, 4, 52, 53, 54, 55, 10, 56, 57, 58, 59, 60, 61, 26, 62, 63, 35, 36, 37, 38, 39, 40, 41, 42, 43, 64, 65, 66, 67, 68, 69, 70, 71, 72, 73, 74, 75, 76, 77, 78, 79, 80, 81, 82, 83, 84, 85, 86, 87, 88, 89, 95, 96, 97, 98, 99, 100, 101, 102, 103, 104, 105, 106, 107, 108, 109, 110, 111, 112, 113, 114, 115, 116, 117, 118, 119, 120, 121, 122, 123, 124, 125, 126, 127, 128, 129, 130, 131, 132, 133, 134, 135, 136, 137] rfl (by decide +kernel)
set_option maxRecDepth 20000 in
theorem gX11_oneLeads_X11_end : GoodIn wsX11_oneLeads (wsV RX11 266 RX11 yX11_end wsX11_end) := goodIn_app (goodIn_of _ (by decide +kernel)) ggX11_oneLeads_X11_end
set_option maxRecDepth 20000 in
theorem ggX11_oneLeads_X11_layPair : GoodIn wsX11_oneLeads wsX11_layPair := goodIn_r _ [93, 94, 4, 12, 13, 14, 10, 15, 16, 17, 44, 45, 46, 47, 35, 36, 37, 38, 39, 26, 95, 96, 97, 98, 99, 100, 101, 102, 103, 104, 105, 106, 107, 108, 109, 110, 111, 112, 113, 114, 115, 116, 117, 118, 119, 120, 121, 122, 123, 124, 125, 126, 127, 128, 129, 130, 131, 132, 133, 134, 135, 136, 137] rfl (by decide +kernel)
set_option maxRecDepth 20000 in
theorem gX11_oneLeads_X11_layPair : GoodIn wsX11_oneLeads (wsV RX11 328 RX11 yX11_layPair wsX11_layPair) := goodIn_app (goodIn_of _ (by decide +kernel)) ggX11_oneLeads_X11_layPair
theorem dX11_oneLeads_0 : decode cX11_oneLeads 0 = .ok (.aload_n 0, 1) := by decide +kernel
theorem dX11_oneLeads_1 : decode cX11_oneLeads 1 = .ok (.aload_n 0, 1) := by decide +kernel
theorem dX11_oneLeads_2 : decode cX11_oneLeads 2 = .ok (.getfield 156, 3) := by decide +kernel
theorem dX11_oneLeads_5 : decode cX11_oneLeads 5 = .ok (.iconst 0, 1) := by decide +kernel
theorem dX11_oneLeads_6 : decode cX11_oneLeads 6 = .ok (.invokevirtual 301, 3) := by decide +kernel
theorem dX11_oneLeads_9 : decode cX11_oneLeads 9 = .ok (.iconst 0, 1) := by decide +kernel
theorem dX11_oneLeads_10 : decode cX11_oneLeads 10 = .ok (.istore_n 2, 1) := by decide +kernel
theorem dX11_oneLeads_11 : decode cX11_oneLeads 11 = .ok (.iload_n 2, 1) := by decide +kernel
theorem dX11_oneLeads_12 : decode cX11_oneLeads 12 = .ok (.aload_n 0, 1) := by decide +kernel
theorem dX11_oneLeads_13 : decode cX11_oneLeads 13 = .ok (.getfield 238, 3) := by decide +kernel
theorem dX11_oneLeads_16 : decode cX11_oneLeads 16 = .ok (.if_icmp .ge 54, 3) := by decide +kernel
theorem dX11_oneLeads_19 : decode cX11_oneLeads 19 = .ok (.aload_n 0, 1) := by decide +kernel
theorem dX11_oneLeads_20 : decode cX11_oneLeads 20 = .ok (.aload_n 0, 1) := by decide +kernel
theorem dX11_oneLeads_21 : decode cX11_oneLeads 21 = .ok (.getfield 126, 3) := by decide +kernel
theorem dX11_oneLeads_24 : decode cX11_oneLeads 24 = .ok (.aload_n 0, 1) := by decide +kernel
theorem dX11_oneLeads_25 : decode cX11_oneLeads 25 = .ok (.getfield 166, 3) := by decide +kernel
theorem dX11_oneLeads_28 : decode cX11_oneLeads 28 = .ok (.iload_n 2, 1) := by decide +kernel
theorem dX11_oneLeads_29 : decode cX11_oneLeads 29 = .ok (.imul, 1) := by decide +kernel
theorem dX11_oneLeads_30 : decode cX11_oneLeads 30 = .ok (.invokevirtual 325, 3) := by decide +kernel
theorem dX11_oneLeads_33 : decode cX11_oneLeads 33 = .ok (.aload_n 0, 1) := by decide +kernel
theorem dX11_oneLeads_34 : decode cX11_oneLeads 34 = .ok (.aload_n 0, 1) := by decide +kernel
theorem dX11_oneLeads_35 : decode cX11_oneLeads 35 = .ok (.getfield 126, 3) := by decide +kernel
theorem dX11_oneLeads_38 : decode cX11_oneLeads 38 = .ok (.aload_n 0, 1) := by decide +kernel
theorem dX11_oneLeads_39 : decode cX11_oneLeads 39 = .ok (.getfield 166, 3) := by decide +kernel
theorem dX11_oneLeads_42 : decode cX11_oneLeads 42 = .ok (.iload_n 2, 1) := by decide +kernel
theorem dX11_oneLeads_43 : decode cX11_oneLeads 43 = .ok (.imul, 1) := by decide +kernel
theorem dX11_oneLeads_44 : decode cX11_oneLeads 44 = .ok (.aload_n 0, 1) := by decide +kernel
theorem dX11_oneLeads_45 : decode cX11_oneLeads 45 = .ok (.getfield 123, 3) := by decide +kernel
theorem dX11_oneLeads_48 : decode cX11_oneLeads 48 = .ok (.iload_n 2, 1) := by decide +kernel
theorem dX11_oneLeads_49 : decode cX11_oneLeads 49 = .ok (.iaload, 1) := by decide +kernel
theorem dX11_oneLeads_50 : decode cX11_oneLeads 50 = .ok (.bipush 15, 2) := by decide +kernel
theorem dX11_oneLeads_52 : decode cX11_oneLeads 52 = .ok (.aload_n 0, 1) := by decide +kernel
theorem dX11_oneLeads_53 : decode cX11_oneLeads 53 = .ok (.getfield 123, 3) := by decide +kernel
theorem dX11_oneLeads_56 : decode cX11_oneLeads 56 = .ok (.iload_n 2, 1) := by decide +kernel
theorem dX11_oneLeads_57 : decode cX11_oneLeads 57 = .ok (.iaload, 1) := by decide +kernel
theorem dX11_oneLeads_58 : decode cX11_oneLeads 58 = .ok (.isub, 1) := by decide +kernel
theorem dX11_oneLeads_59 : decode cX11_oneLeads 59 = .ok (.iload_n 1, 1) := by decide +kernel
theorem dX11_oneLeads_60 : decode cX11_oneLeads 60 = .ok (.iload_n 2, 1) := by decide +kernel
theorem dX11_oneLeads_61 : decode cX11_oneLeads 61 = .ok (.invokevirtual 278, 3) := by decide +kernel
theorem dX11_oneLeads_64 : decode cX11_oneLeads 64 = .ok (.iinc 2 1, 3) := by decide +kernel
theorem dX11_oneLeads_67 : decode cX11_oneLeads 67 = .ok (.goto (-56), 3) := by decide +kernel
theorem dX11_oneLeads_70 : decode cX11_oneLeads 70 = .ok (.aload_n 0, 1) := by decide +kernel
theorem dX11_oneLeads_71 : decode cX11_oneLeads 71 = .ok (.iconst 1, 1) := by decide +kernel
theorem dX11_oneLeads_72 : decode cX11_oneLeads 72 = .ok (.iload_n 1, 1) := by decide +kernel
theorem dX11_oneLeads_73 : decode cX11_oneLeads 73 = .ok (.iconst 0, 1) := by decide +kernel
theorem dX11_oneLeads_74 : decode cX11_oneLeads 74 = .ok (.iconst 0, 1) := by decide +kernel
theorem dX11_oneLeads_75 : decode cX11_oneLeads 75 = .ok (.invokevirtual 262, 3) := by decide +kernel
theorem dX11_oneLeads_78 : decode cX11_oneLeads 78 = .ok (.aload_n 0, 1) := by decide +kernel
theorem dX11_oneLeads_79 : decode cX11_oneLeads 79 = .ok (.aload_n 0, 1) := by decide +kernel
theorem dX11_oneLeads_80 : decode cX11_oneLeads 80 = .ok (.getfield 126, 3) := by decide +kernel
theorem dX11_oneLeads_83 : decode cX11_oneLeads 83 = .ok (.iconst 0, 1) := by decide +kernel
theorem dX11_oneLeads_84 : decode cX11_oneLeads 84 = .ok (.aload_n 0, 1) := by decide +kernel
theorem dX11_oneLeads_85 : decode cX11_oneLeads 85 = .ok (.getfield 166, 3) := by decide +kernel
theorem dX11_oneLeads_88 : decode cX11_oneLeads 88 = .ok (.aload_n 0, 1) := by decide +kernel
theorem dX11_oneLeads_89 : decode cX11_oneLeads 89 = .ok (.getfield 238, 3) := by decide +kernel
theorem dX11_oneLeads_92 : decode cX11_oneLeads 92 = .ok (.imul, 1) := by decide +kernel
theorem dX11_oneLeads_93 : decode cX11_oneLeads 93 = .ok (.invokevirtual 270, 3) := by decide +kernel
theorem dX11_oneLeads_96 : decode cX11_oneLeads 96 = .ok (.aload_n 0, 1) := by decide +kernel
theorem dX11_oneLeads_97 : decode cX11_oneLeads 97 = .ok (.aload_n 0, 1) := by decide +kernel
theorem dX11_oneLeads_98 : decode cX11_oneLeads 98 = .ok (.getfield 156, 3) := by decide +kernel
theorem dX11_oneLeads_101 : decode cX11_oneLeads 101 = .ok (.iconst 0, 1) := by decide +kernel
theorem dX11_oneLeads_102 : decode cX11_oneLeads 102 = .ok (.invokevirtual 266, 3) := by decide +kernel
theorem dX11_oneLeads_105 : decode cX11_oneLeads 105 = .ok (.iconst 0, 1) := by decide +kernel
theorem dX11_oneLeads_106 : decode cX11_oneLeads 106 = .ok (.istore_n 2, 1) := by decide +kernel
theorem dX11_oneLeads_107 : decode cX11_oneLeads 107 = .ok (.iload_n 2, 1) := by decide +kernel
theorem dX11_oneLeads_108 : decode cX11_oneLeads 108 = .ok (.aload_n 0, 1) := by decide +kernel
theorem dX11_oneLeads_109 : decode cX11_oneLeads 109 = .ok (.getfield 169, 3) := by decide +kernel
theorem dX11_oneLeads_112 : decode cX11_oneLeads 112 = .ok (.if_icmp .ge 43, 3) := by decide +kernel
theorem dX11_oneLeads_115 : decode cX11_oneLeads 115 = .ok (.aload_n 0, 1) := by decide +kernel
theorem dX11_oneLeads_116 : decode cX11_oneLeads 116 = .ok (.iconst 2, 1) := by decide +kernel
theorem dX11_oneLeads_117 : decode cX11_oneLeads 117 = .ok (.iconst 0, 1) := by decide +kernel
theorem dX11_oneLeads_118 : decode cX11_oneLeads 118 = .ok (.iload_n 2, 1) := by decide +kernel
theorem dX11_oneLeads_119 : decode cX11_oneLeads 119 = .ok (.iconst 1, 1) := by decide +kernel
theorem dX11_oneLeads_120 : decode cX11_oneLeads 120 = .ok (.iadd, 1) := by decide +kernel
theorem dX11_oneLeads_121 : decode cX11_oneLeads 121 = .ok (.iload_n 1, 1) := by decide +kernel
theorem dX11_oneLeads_122 : decode cX11_oneLeads 122 = .ok (.iload_n 2, 1) := by decide +kernel
theorem dX11_oneLeads_123 : decode cX11_oneLeads 123 = .ok (.iconst 1, 1) := by decide +kernel
theorem dX11_oneLeads_124 : decode cX11_oneLeads 124 = .ok (.iadd, 1) := by decide +kernel
theorem dX11_oneLeads_125 : decode cX11_oneLeads 125 = .ok (.ishr, 1) := by decide +kernel
theorem dX11_oneLeads_126 : decode cX11_oneLeads 126 = .ok (.invokevirtual 262, 3) := by decide +kernel
theorem dX11_oneLeads_129 : decode cX11_oneLeads 129 = .ok (.aload_n 0, 1) := by decide +kernel
theorem dX11_oneLeads_130 : decode cX11_oneLeads 130 = .ok (.aload_n 0, 1) := by decide +kernel
theorem dX11_oneLeads_131 : decode cX11_oneLeads 131 = .ok (.getfield 156, 3) := by decide +kernel
theorem dX11_oneLeads_134 : decode cX11_oneLeads 134 = .ok (.iload_n 1, 1) := by decide +kernel
theorem dX11_oneLeads_135 : decode cX11_oneLeads 135 = .ok (.iload_n 2, 1) := by decide +kernel
theorem dX11_oneLeads_136 : decode cX11_oneLeads 136 = .ok (.ishr, 1) := by decide +kernel
theorem dX11_oneLeads_137 : decode cX11_oneLeads 137 = .ok (.invokevirtual 328, 3) := by decide +kernel
theorem dX11_oneLeads_140 : decode cX11_oneLeads 140 = .ok (.aload_n 0, 1) := by decide +kernel
theorem dX11_oneLeads_141 : decode cX11_oneLeads 141 = .ok (.aload_n 0, 1) := by decide +kernel
theorem dX11_oneLeads_142 : decode cX11_oneLeads 142 = .ok (.getfield 156, 3) := by decide +kernel
theorem dX11_oneLeads_145 : decode cX11_oneLeads 145 = .ok (.iconst 0, 1) := by decide +kernel
theorem dX11_oneLeads_146 : decode cX11_oneLeads 146 = .ok (.invokevirtual 266, 3) := by decide +kernel
theorem dX11_oneLeads_149 : decode cX11_oneLeads 149 = .ok (.iinc 2 1, 3) := by decide +kernel
theorem dX11_oneLeads_152 : decode cX11_oneLeads 152 = .ok (.goto (-45), 3) := by decide +kernel
theorem dX11_oneLeads_155 : decode cX11_oneLeads 155 = .ok (.return_, 1) := by decide +kernel
set_option maxHeartbeats 4000000 in
set_option maxRecDepth 100000 in
/-- the reference: layPair -/
theorem c_layPair (l : Launch) (g : jG) (h : Nat) (b : Nat → Nat) (v : Nat → Int32) (n : Nat) (f : Nat → Int32) (pf : Nat → Int32) (sg : Nat → Int32) (rw : Nat → Int32) (nn : Nat) (at0 : Nat) (q : Nat) (hv3 : v 3 = nI n) (hv16 : v 16 = nI nn) (hv39 : v 39 = nI at0) (hnn : nn ≤ 16) (hn : n + 32 ≤ 1400) (hat : at0 + nn ≤ 2000) (hPB : isB pf) (hSgB : isB sg) (hRwB : isB rw) (hq : q < 2 ^ 31) : jC l g yX11_layPair wsX11_layPair ({ frames := 2, cells := 0, slots := 0, locals := 45 } : Room) [.ref h, .ref (b 41), .int (nI q)] [oB h 11 (mO b v), bA g (b 2) 1400 f, bA g (b 34) 32 pf, bA g (b 38) 2000 sg, bA g (b 41) 16 rw] (fun jj : (Nat → Int32) × (Nat → Int32) => none) (fun jj : (Nat → Int32) × (Nat → Int32) => isB jj.2 ∧ jj.1 = putL f n (if q % 2 = 0 then slice rw 0 nn ++ slice sg at0 nn else slice sg at0 nn ++ slice rw 0 nn)) (fun jj : (Nat → Int32) × (Nat → Int32) => [oB h 11 (mO b (upd (upd v 3 (nI (n + nn + nn))) 39 (nI (at0 + nn)))), bA g (b 2) 1400 jj.1, bA g (b 34) 32 jj.2, bA g (b 38) 2000 sg, bA g (b 41) 16 rw]) := by
  refine jC.of (cc := cX11_layPair) (own := RX11) (maxL := 3) (ret := none) (by decide +kernel) rfl rfl (Nat.le_of_ble_eq_true rfl) (fun u hu => rfl) ?_
  intro p e s m below meth c A Q hX hret
  have in11 : ∀ w ∈ wsX110, w ∈ wsX11_layPair := (fun w h => List.mem_cons_of_mem _ (List.mem_append_right _ h))
  refine j_w [oB h 11 (mO b (upd v 3 (nI n))), bA g (b 2) 1400 f, bA g (b 34) 32 pf, bA g (b 38) 2000 sg, bA g (b 41) 16 rw] (by rw [updS (show (v : Nat → Int32) 3 = nI n from hv3)]) ?_
  refine j_w [oB h 11 (mO b (upd (upd v 3 (nI n)) 39 (nI at0))), bA g (b 2) 1400 f, bA g (b 34) 32 pf, bA g (b 38) 2000 sg, bA g (b 41) 16 rw] (by rw [updS (show (upd v 3 (nI n) : Nat → Int32) 39 = nI at0 from hv39)]) ?_
  refine j_aload_n hX 0 dX11_layPair_0 rfl ?_
  refine j_aload_n hX 0 dX11_layPair_1 rfl ?_
  refine j_get hX in11 11 0 34 (v := .ref (b 34)) rfl rfl (by decide) (List.mem_of_getElem? (i := 1) rfl) rfl rfl dX11_layPair_2 ?_
  refine j_iconst hX (0) dX11_layPair_5 (by decide) ?_
  refine j_callV2 hX 2 (c_mread l g h b (upd (upd v 3 (nI n)) 39 (nI at0)) nn at0 (b 34) 32 pf sg 0 hv16 rfl (by omega) (by omega) (by omega) (by omega) hSgB) gX11_layPair_X11_read (by decide +kernel) rfl ⟨rfl, rfl⟩ ⟨Nat.le_of_ble_eq_true rfl, Nat.le_of_ble_eq_true rfl⟩ 11 0 rfl rfl [0, 2, 3] [1, 4] 5 rfl (by decide) (fun jj : (Nat → Int32) => [oB h 11 (mO b (upd (upd v 3 (nI n)) 39 (nI (at0 + nn)))), bA g (b 2) 1400 f, bA g (b 34) 32 jj, bA g (b 38) 2000 sg, bA g (b 41) 16 rw]) (fun _ => rfl) (by decide) [h, (b 2), (b 34), (b 38), (b 41)] rfl (fun _ => rfl) (fun _ => rfl) [bA g (b 2) 1400 f, bA g (b 41) 16 rw] rfl (fun _ => rfl) rfl [] rfl (Nat.le_of_ble_eq_true rfl) ⟨Nat.le_refl _, Nat.le_refl _⟩ dX11_layPair_6 ?_
  intro P9 hR
  try dsimp only at hR
  refine j_w [oB h 11 (mO b (upd (upd v 3 (nI n)) 39 (nI (at0 + nn)))), bA g (b 2) 1400 f, bA g (b 34) 32 P9, bA g (b 38) 2000 sg, bA g (b 41) 16 rw] rfl ?_
  refine j_st [] rfl ?_
  have hP9 : isB P9 := by rw [hR]; exact putL_B hPB (slice_B hSgB _ _)
  have hs9 : slice P9 0 nn = slice sg at0 nn := by rw [hR, slice_put (by rw [slice_length])]
  by_cases h0 : q % 2 = 0
  · skip
    refine j_iload_n hX 2 dX11_layPair_9 rfl ?_
    refine j_iconst hX (2) dX11_layPair_10 (by decide) ?_
    refine j_pc 11 rfl ?_
    refine j_iremN hX q 2 (by omega) (by omega) (by omega) dX11_layPair_11 ?_
    refine j_if_neN hX (q % 2) 25 dX11_layPair_12 (by decide) (by omega) (fun b_12 => absurd b_12 (by omega)) (fun b_12 => ?_)
    refine j_aload_n hX 0 dX11_layPair_15 rfl ?_
    refine j_aload_n hX 1 dX11_layPair_16 rfl ?_
    refine j_iconst hX (0) dX11_layPair_17 (by decide) ?_
    refine j_aload_n hX 0 dX11_layPair_18 rfl ?_
    refine j_gete hX (nI nn) in11 11 0 16 rfl rfl (by decide) (List.mem_of_getElem? (i := 2) rfl) rfl rfl hv16 dX11_layPair_19 ?_
    refine j_callV2 hX 3 (c_layRow l g h b (upd (upd v 3 (nI n)) 39 (nI (at0 + nn))) n f (b 41) 16 rw 0 nn rfl (by omega) (by omega) (by omega) hRwB) gX11_layPair_X11_layRow (by decide +kernel) rfl ⟨rfl, rfl⟩ ⟨Nat.le_of_ble_eq_true rfl, Nat.le_of_ble_eq_true rfl⟩ 11 0 rfl rfl [0, 1, 4] [2, 3] 5 rfl (by decide) (fun jj : (Nat → Int32) => [oB h 11 (mO b (upd (upd v 3 (nI (n + nn))) 39 (nI (at0 + nn)))), bA g (b 2) 1400 jj, bA g (b 34) 32 P9, bA g (b 38) 2000 sg, bA g (b 41) 16 rw]) (fun _ => rfl) (by decide) [h, (b 2), (b 34), (b 38), (b 41)] rfl (fun _ => rfl) (fun _ => rfl) [bA g (b 34) 32 P9, bA g (b 38) 2000 sg] rfl (fun _ => rfl) rfl [] rfl (Nat.le_of_ble_eq_true rfl) ⟨Nat.le_refl _, Nat.le_refl _⟩ dX11_layPair_22 ?_
    intro F1 hF1
    try dsimp only at hF1
    refine j_w [oB h 11 (mO b (upd (upd v 3 (nI (n + nn))) 39 (nI (at0 + nn)))), bA g (b 2) 1400 F1, bA g (b 34) 32 P9, bA g (b 38) 2000 sg, bA g (b 41) 16 rw] rfl ?_
    refine j_st [] rfl ?_
    refine j_pc 25 rfl ?_
    refine j_aload_n hX 0 dX11_layPair_25 rfl ?_
    refine j_aload_n hX 0 dX11_layPair_26 rfl ?_
    refine j_get hX in11 11 0 34 (v := .ref (b 34)) rfl rfl (by decide) (List.mem_of_getElem? (i := 1) rfl) rfl rfl dX11_layPair_27 ?_
    refine j_iconst hX (0) dX11_layPair_30 (by decide) ?_
    refine j_aload_n hX 0 dX11_layPair_31 rfl ?_
    refine j_gete hX (nI nn) in11 11 0 16 rfl rfl (by decide) (List.mem_of_getElem? (i := 2) rfl) rfl rfl hv16 dX11_layPair_32 ?_
    refine j_callV2 hX 3 (c_layRow l g h b (upd (upd v 3 (nI (n + nn))) 39 (nI (at0 + nn))) (n + nn) F1 (b 34) 32 P9 0 nn rfl (by omega) (by omega) (by omega) hP9) gX11_layPair_X11_layRow (by decide +kernel) rfl ⟨rfl, rfl⟩ ⟨Nat.le_of_ble_eq_true rfl, Nat.le_of_ble_eq_true rfl⟩ 11 0 rfl rfl [0, 1, 2] [3, 4] 5 rfl (by decide) (fun jj : (Nat → Int32) => [oB h 11 (mO b (upd (upd v 3 (nI ((n + nn) + nn))) 39 (nI (at0 + nn)))), bA g (b 2) 1400 jj, bA g (b 34) 32 P9, bA g (b 38) 2000 sg, bA g (b 41) 16 rw]) (fun _ => rfl) (by decide) [h, (b 2), (b 34), (b 38), (b 41)] rfl (fun _ => rfl) (fun _ => rfl) [bA g (b 38) 2000 sg, bA g (b 41) 16 rw] rfl (fun _ => rfl) rfl [] rfl (Nat.le_of_ble_eq_true rfl) ⟨Nat.le_refl _, Nat.le_refl _⟩ dX11_layPair_35 ?_
    intro F2 hF2
    try dsimp only at hF2
    refine j_w [oB h 11 (mO b (upd (upd v 3 (nI ((n + nn) + nn))) 39 (nI (at0 + nn)))), bA g (b 2) 1400 F2, bA g (b 34) 32 P9, bA g (b 38) 2000 sg, bA g (b 41) 16 rw] rfl ?_
    refine j_st [] rfl ?_
    refine j_iload_n hX 2 dX11_layPair_38 rfl ?_
    refine j_pc 39 rfl ?_
    refine j_iconst hX (2) dX11_layPair_39 (by decide) ?_
    refine j_iremN hX q 2 (by omega) (by omega) (by omega) dX11_layPair_40 ?_
    refine j_iconst hX (1) dX11_layPair_41 (by decide) ?_
    refine j_icmp_neN hX (q % 2) 1 55 dX11_layPair_42 (by decide) (by omega) (by omega) (fun b_42 => ?_) (fun b_42 => absurd b_42 (by omega))
    exact hret (F2, P9) (by dsimp only; exact ⟨hP9, by rw [hF2, hF1, hs9, putL_app' (by first | (simp only [List.length_append, slice_length]; omega) | simp only [List.length_append, slice_length]), if_pos h0]⟩) 55 _ .return_ dX11_layPair_55 rfl
  · skip
    refine j_iload_n hX 2 dX11_layPair_9 rfl ?_
    refine j_iconst hX (2) dX11_layPair_10 (by decide) ?_
    refine j_iremN hX q 2 (by omega) (by omega) (by omega) dX11_layPair_11 ?_
    refine j_pc 12 rfl ?_
    refine j_if_neN hX (q % 2) 25 dX11_layPair_12 (by decide) (by omega) (fun b_12 => ?_) (fun b_12 => absurd b_12 (by omega))
    refine j_aload_n hX 0 dX11_layPair_25 rfl ?_
    refine j_aload_n hX 0 dX11_layPair_26 rfl ?_
    refine j_get hX in11 11 0 34 (v := .ref (b 34)) rfl rfl (by decide) (List.mem_of_getElem? (i := 1) rfl) rfl rfl dX11_layPair_27 ?_
    refine j_iconst hX (0) dX11_layPair_30 (by decide) ?_
    refine j_aload_n hX 0 dX11_layPair_31 rfl ?_
    refine j_gete hX (nI nn) in11 11 0 16 rfl rfl (by decide) (List.mem_of_getElem? (i := 2) rfl) rfl rfl hv16 dX11_layPair_32 ?_
    refine j_callV2 hX 3 (c_layRow l g h b (upd (upd v 3 (nI n)) 39 (nI (at0 + nn))) n f (b 34) 32 P9 0 nn rfl (by omega) (by omega) (by omega) hP9) gX11_layPair_X11_layRow (by decide +kernel) rfl ⟨rfl, rfl⟩ ⟨Nat.le_of_ble_eq_true rfl, Nat.le_of_ble_eq_true rfl⟩ 11 0 rfl rfl [0, 1, 2] [3, 4] 5 rfl (by decide) (fun jj : (Nat → Int32) => [oB h 11 (mO b (upd (upd v 3 (nI (n + nn))) 39 (nI (at0 + nn)))), bA g (b 2) 1400 jj, bA g (b 34) 32 P9, bA g (b 38) 2000 sg, bA g (b 41) 16 rw]) (fun _ => rfl) (by decide) [h, (b 2), (b 34), (b 38), (b 41)] rfl (fun _ => rfl) (fun _ => rfl) [bA g (b 38) 2000 sg, bA g (b 41) 16 rw] rfl (fun _ => rfl) rfl [] rfl (Nat.le_of_ble_eq_true rfl) ⟨Nat.le_refl _, Nat.le_refl _⟩ dX11_layPair_35 ?_
    intro F1 hF1
    try dsimp only at hF1
    refine j_w [oB h 11 (mO b (upd (upd v 3 (nI (n + nn))) 39 (nI (at0 + nn)))), bA g (b 2) 1400 F1, bA g (b 34) 32 P9, bA g (b 38) 2000 sg, bA g (b 41) 16 rw] rfl ?_
    refine j_st [] rfl ?_
    refine j_pc 38 rfl ?_
    refine j_iload_n hX 2 dX11_layPair_38 rfl ?_
    refine j_iconst hX (2) dX11_layPair_39 (by decide) ?_
    refine j_iremN hX q 2 (by omega) (by omega) (by omega) dX11_layPair_40 ?_
    refine j_iconst hX (1) dX11_layPair_41 (by decide) ?_
    refine j_icmp_neN hX (q % 2) 1 55 dX11_layPair_42 (by decide) (by omega) (by omega) (fun b_42 => absurd b_42 (by omega)) (fun b_42 => ?_)
    refine j_aload_n hX 0 dX11_layPair_45 rfl ?_
    refine j_aload_n hX 1 dX11_layPair_46 rfl ?_
    refine j_iconst hX (0) dX11_layPair_47 (by decide) ?_
    refine j_pc 48 rfl ?_
    refine j_aload_n hX 0 dX11_layPair_48 rfl ?_
    refine j_gete hX (nI nn) in11 11 0 16 rfl rfl (by decide) (List.mem_of_getElem? (i := 2) rfl) rfl rfl hv16 dX11_layPair_49 ?_
    refine j_callV2 hX 3 (c_layRow l g h b (upd (upd v 3 (nI (n + nn))) 39 (nI (at0 + nn))) (n + nn) F1 (b 41) 16 rw 0 nn rfl (by omega) (by omega) (by omega) hRwB) gX11_layPair_X11_layRow (by decide +kernel) rfl ⟨rfl, rfl⟩ ⟨Nat.le_of_ble_eq_true rfl, Nat.le_of_ble_eq_true rfl⟩ 11 0 rfl rfl [0, 1, 4] [2, 3] 5 rfl (by decide) (fun jj : (Nat → Int32) => [oB h 11 (mO b (upd (upd v 3 (nI ((n + nn) + nn))) 39 (nI (at0 + nn)))), bA g (b 2) 1400 jj, bA g (b 34) 32 P9, bA g (b 38) 2000 sg, bA g (b 41) 16 rw]) (fun _ => rfl) (by decide) [h, (b 2), (b 34), (b 38), (b 41)] rfl (fun _ => rfl) (fun _ => rfl) [bA g (b 34) 32 P9, bA g (b 38) 2000 sg] rfl (fun _ => rfl) rfl [] rfl (Nat.le_of_ble_eq_true rfl) ⟨Nat.le_refl _, Nat.le_refl _⟩ dX11_layPair_52 ?_
    intro F2 hF2
    try dsimp only at hF2
    refine j_w [oB h 11 (mO b (upd (upd v 3 (nI ((n + nn) + nn))) 39 (nI (at0 + nn)))), bA g (b 2) 1400 F2, bA g (b 34) 32 P9, bA g (b 38) 2000 sg, bA g (b 41) 16 rw] rfl ?_
    refine j_st [] rfl ?_
    exact hret (F2, P9) (by dsimp only; exact ⟨hP9, by rw [hF2, hF1, hs9, putL_app' (by first | (simp only [List.length_append, slice_length]; omega) | simp only [List.length_append, slice_length]), if_neg h0]⟩) 55 _ .return_ dX11_layPair_55 rfl

set_option maxHeartbeats 4000000 in
set_option maxRecDepth 100000 in
/-- the reference: one -/
theorem c_one (l : Launch) (g : jG) (h : Nat) (b : Nat → Nat) (v : Nat → Int32) (n0 : Nat) (f : Nat → Int32) (dg : Nat → Int32) (w0 : Nat → Int32) (S0 : Nat → Int32) (fs : Nat → Int32) (rt : Nat → Int32) (A0 : Nat → Int64) (T0 : Nat → Int64) (U0 : Nat → Int64) (tn : Nat → Int32) (sd : Nat → Int32) (D0 : Nat → Int32) (e0 : Nat → Int32) (nd : Nat → Int32) (pf : Nat → Int32) (sg : Nat → Int32) (rw : Nat → Int32) (fm : Nat) (nn : Nat) (ht : Nat) (ly : Nat) (tr : Nat) (at0 : Nat) (u : Nat) (hfs : ∀ j, j < 8 → fs j = s_first.getD j 0) (hrt : ∀ j, j < 64 → rt j = s_cube.getD j 0) (htn : ∀ k, k < 25 → tn k = s_turns.getD k 0) (hv3 : v 3 = nI n0) (hn0 : n0 ≤ 1400) (hB : isB sd) (hEB : isB e0) (hNB : isB nd) (hPB : isB pf) (hSgB : isB sg) (hRwB : isB rw) (hv15 : v 15 = nI fm) (hv16 : v 16 = nI nn) (hv17 : v 17 = nI ht) (hv21 : v 21 = nI (ln nn)) (hv27 : v 27 = nI ly) (hv28 : v 28 = nI tr) (hv39 : v 39 = nI at0) (hfm : fm < 2) (hnn : nn ≤ 16) (hn1 : 1 ≤ nn) (hht : ht ≤ 2) (hu : u < 2 ^ ht) (hat : at0 + (ln nn + ht) * nn ≤ 2000) : jC l g yX11_one wsX11_one ({ frames := 8, cells := 0, slots := 0, locals := 193 } : Room) [.ref h, .ref (b 41), .int (nI 0), .int (nI u)] [oB h 11 (mO b v), bA g (b 2) 1400 f, bA g (b 4) 32 dg, iA g (b 5) 64 w0, iA g (b 6) 8 S0, iA g (b 7) 8 fs, iA g (b 8) 64 rt, lA g (b 9) 25 A0, lA g (b 10) 25 T0, lA g (b 11) 5 U0, iA g (b 12) 25 tn, bA g (b 23) 48 sd, iA g (b 29) 40 D0, bA g (b 30) 560 e0, bA g (b 31) 112 nd, bA g (b 34) 32 pf, bA g (b 38) 2000 sg, bA g (b 41) 16 rw] (fun jj : (Nat → Int32) × (Nat → Int32) × (Nat → Int64) × (Nat → Int64) × (Nat → Int64) × Nat × (Nat → Int32) × (Nat → Int32) × (Nat → Int32) × (Nat → Int32) × (Nat → Int32) × (Nat → Int32) × (Nat → Int32) => none) (fun jj : (Nat → Int32) × (Nat → Int32) × (Nat → Int64) × (Nat → Int64) × (Nat → Int64) × Nat × (Nat → Int32) × (Nat → Int32) × (Nat → Int32) × (Nat → Int32) × (Nat → Int32) × (Nat → Int32) × (Nat → Int32) => jj.2.2.2.2.2.1 ≤ 1400 ∧ (isB jj.2.2.2.2.2.2.2.2.2.1 ∧ isB jj.2.2.2.2.2.2.2.2.2.2.1 ∧ isB jj.2.2.2.2.2.2.2.2.2.2.2.1 ∧ isB jj.2.2.2.2.2.2.2.2.2.2.2.2) ∧ jj.2.2.2.2.2.2.2.2.2.2.2.2 = putL sg at0 (oneC fm nn sd ly tr u rw (ln nn) ++ pth fm nn sd ly tr 2 0 (fun i => LF fm nn sd ly tr i) u ht) ∧ ∀ z i, z ≤ ht → i < 2 ^ (ht - z) → slice jj.2.2.2.2.2.2.2.2.2.2.1 (16 * (bfr ht z + i)) nn = ND fm nn sd ly tr z i) (fun jj : (Nat → Int32) × (Nat → Int32) × (Nat → Int64) × (Nat → Int64) × (Nat → Int64) × Nat × (Nat → Int32) × (Nat → Int32) × (Nat → Int32) × (Nat → Int32) × (Nat → Int32) × (Nat → Int32) × (Nat → Int32) => [oB h 11 (mO b (upd (upd v 3 (nI jj.2.2.2.2.2.1)) 39 (nI (at0 + (ln nn + ht) * nn)))), bA g (b 2) 1400 jj.2.2.2.2.2.2.1, bA g (b 4) 32 jj.2.2.2.2.2.2.2.1, iA g (b 5) 64 jj.1, iA g (b 6) 8 jj.2.1, iA g (b 7) 8 fs, iA g (b 8) 64 rt, lA g (b 9) 25 jj.2.2.1, lA g (b 10) 25 jj.2.2.2.1, lA g (b 11) 5 jj.2.2.2.2.1, iA g (b 12) 25 tn, bA g (b 23) 48 sd, iA g (b 29) 40 jj.2.2.2.2.2.2.2.2.1, bA g (b 30) 560 jj.2.2.2.2.2.2.2.2.2.1, bA g (b 31) 112 jj.2.2.2.2.2.2.2.2.2.2.1, bA g (b 34) 32 jj.2.2.2.2.2.2.2.2.2.2.2.1, bA g (b 38) 2000 jj.2.2.2.2.2.2.2.2.2.2.2.2, bA g (b 41) 16 rw]) := by
  refine jC.of (cc := cX11_one) (own := RX11) (maxL := 5) (ret := none) (by decide +kernel) rfl rfl (Nat.le_of_ble_eq_true rfl) (fun u hu => rfl) ?_
  intro p e s m below meth c A Q hX hret
  have in11 : ∀ w ∈ wsX110, w ∈ wsX11_one := (fun w h => List.mem_cons_of_mem _ (List.mem_append_right _ h))
  have hln := ln_le nn
  have hp4 := pow4 hht
  have hadd : (ln nn + ht) * nn = ln nn * nn + ht * nn := Nat.add_mul _ _ _
  refine j_w [oB h 11 (mO b (upd v 3 (nI n0))), bA g (b 2) 1400 f, bA g (b 4) 32 dg, iA g (b 5) 64 w0, iA g (b 6) 8 S0, iA g (b 7) 8 fs, iA g (b 8) 64 rt, lA g (b 9) 25 A0, lA g (b 10) 25 T0, lA g (b 11) 5 U0, iA g (b 12) 25 tn, bA g (b 23) 48 sd, iA g (b 29) 40 D0, bA g (b 30) 560 e0, bA g (b 31) 112 nd, bA g (b 34) 32 pf, bA g (b 38) 2000 sg, bA g (b 41) 16 rw] (by rw [updS (show (v : Nat → Int32) 3 = nI n0 from hv3)]) ?_
  refine j_w [oB h 11 (mO b (upd (upd v 3 (nI n0)) 39 (nI at0))), bA g (b 2) 1400 f, bA g (b 4) 32 dg, iA g (b 5) 64 w0, iA g (b 6) 8 S0, iA g (b 7) 8 fs, iA g (b 8) 64 rt, lA g (b 9) 25 A0, lA g (b 10) 25 T0, lA g (b 11) 5 U0, iA g (b 12) 25 tn, bA g (b 23) 48 sd, iA g (b 29) 40 D0, bA g (b 30) 560 e0, bA g (b 31) 112 nd, bA g (b 34) 32 pf, bA g (b 38) 2000 sg, bA g (b 41) 16 rw] (by rw [updS (show (upd v 3 (nI n0) : Nat → Int32) 39 = nI at0 from hv39)]) ?_
  refine j_aload_n hX 0 dX11_one_0 rfl ?_
  refine j_aload_n hX 1 dX11_one_1 rfl ?_
  refine j_iload_n hX 2 dX11_one_2 rfl ?_
  refine j_callV2 hX 2 (c_digits l g h b (upd (upd v 3 (nI n0)) 39 (nI at0)) (b 41) 16 rw D0 0 nn hv16 hv21 (by omega) (by omega) (by omega)) gX11_one_X11_digits (by decide +kernel) rfl ⟨rfl, rfl⟩ ⟨Nat.le_of_ble_eq_true rfl, Nat.le_of_ble_eq_true rfl⟩ 11 0 rfl rfl [0, 17, 12] [1, 2, 3, 4, 5, 6, 7, 8, 9, 10, 11, 13, 14, 15, 16] 18 rfl (by decide) (fun jj : (Nat → Int32) => [oB h 11 (mO b (upd (upd v 3 (nI n0)) 39 (nI at0))), bA g (b 2) 1400 f, bA g (b 4) 32 dg, iA g (b 5) 64 w0, iA g (b 6) 8 S0, iA g (b 7) 8 fs, iA g (b 8) 64 rt, lA g (b 9) 25 A0, lA g (b 10) 25 T0, lA g (b 11) 5 U0, iA g (b 12) 25 tn, bA g (b 23) 48 sd, iA g (b 29) 40 jj, bA g (b 30) 560 e0, bA g (b 31) 112 nd, bA g (b 34) 32 pf, bA g (b 38) 2000 sg, bA g (b 41) 16 rw]) (fun _ => rfl) (by decide) [h, (b 2), (b 4), (b 5), (b 6), (b 7), (b 8), (b 9), (b 10), (b 11), (b 12), (b 23), (b 29), (b 30), (b 31), (b 34), (b 38), (b 41)] rfl (fun _ => rfl) (fun _ => rfl) [bA g (b 2) 1400 f, bA g (b 4) 32 dg, iA g (b 5) 64 w0, iA g (b 6) 8 S0, iA g (b 7) 8 fs, iA g (b 8) 64 rt, lA g (b 9) 25 A0, lA g (b 10) 25 T0, lA g (b 11) 5 U0, iA g (b 12) 25 tn, bA g (b 23) 48 sd, bA g (b 30) 560 e0, bA g (b 31) 112 nd, bA g (b 34) 32 pf, bA g (b 38) 2000 sg] rfl (fun _ => rfl) rfl [] rfl (Nat.le_of_ble_eq_true rfl) ⟨Nat.le_refl _, Nat.le_refl _⟩ dX11_one_3 ?_
  intro D1 hD
  try dsimp only at hD
  refine j_w [oB h 11 (mO b (upd (upd v 3 (nI n0)) 39 (nI at0))), bA g (b 2) 1400 f, bA g (b 4) 32 dg, iA g (b 5) 64 w0, iA g (b 6) 8 S0, iA g (b 7) 8 fs, iA g (b 8) 64 rt, lA g (b 9) 25 A0, lA g (b 10) 25 T0, lA g (b 11) 5 U0, iA g (b 12) 25 tn, bA g (b 23) 48 sd, iA g (b 29) 40 D1, bA g (b 30) 560 e0, bA g (b 31) 112 nd, bA g (b 34) 32 pf, bA g (b 38) 2000 sg, bA g (b 41) 16 rw] rfl ?_
  refine j_st [] rfl ?_
  have hD2 : ∀ i, i < ln nn → D1 i = nI (dgt rw nn i) := fun i hi => by rw [hD i hi]; simp only [Nat.zero_add]
  refine j_iconst hX (0) dX11_one_6 (by decide) ?_
  refine j_st [.int (nI 0)] rfl ?_
  refine j_istore hX [(4, .int (nI 0)), (0, .ref h), (1, .ref (b 41)), (2, .int (nI 0)), (3, .int (nI u))] dX11_one_7 (by decide) rfl ?_
  have lp_1 : ∀ (n_2 : Nat) (k : Nat) (w1 : Nat → Int32) (S1 : Nat → Int32) (A1 : Nat → Int64) (T1 : Nat → Int64) (U1 : Nat → Int64) (nl : Nat) (G : Nat → Int32) (FO : Nat → Int32) (P1 : Nat → Int32) (at1 : Nat) (SGF : Nat → Int32), (ln nn - k < n_2) → (k ≤ ln nn) → (nl ≤ 1400) → (isB P1) → (isB SGF) → (at1 = at0 + k * nn) → (SGF = putL sg at0 (oneC fm nn sd ly tr u rw k)) → J p l e ({ frames := 8, cells := 0, slots := 0, locals := 193 } : Room) s m ([.ref h, .ref (b 41), .int (nI 0), .int (nI u)] : List Value).toArray below meth c g A 5 Q 0 0 [oB h 11 (mO b (upd (upd v 3 (nI nl)) 39 (nI at1))), bA g (b 2) 1400 G, bA g (b 4) 32 FO, iA g (b 5) 64 w1, iA g (b 6) 8 S1, iA g (b 7) 8 fs, iA g (b 8) 64 rt, lA g (b 9) 25 A1, lA g (b 10) 25 T1, lA g (b 11) 5 U1, iA g (b 12) 25 tn, bA g (b 23) 48 sd, iA g (b 29) 40 D1, bA g (b 30) 560 e0, bA g (b 31) 112 nd, bA g (b 34) 32 P1, bA g (b 38) 2000 SGF, bA g (b 41) 16 rw] [(0, .ref h), (1, .ref (b 41)), (2, .int (nI 0)), (3, .int (nI u)), (4, .int (nI k))] 9 [] := by
    intro n_2
    induction n_2 with
    | zero => intro k w1 S1 A1 T1 U1 nl G FO P1 at1 SGF hm; exact absurd hm (Nat.not_lt_zero _)
    | succ n_2 ih_3 =>
      intro k w1 S1 A1 T1 U1 nl G FO P1 at1 SGF hm hk hnl hP1 hSF hat1 hO
      refine j_iload hX 4 dX11_one_9 rfl ?_
      refine j_pc 11 rfl ?_
      refine j_aload_n hX 0 dX11_one_11 rfl ?_
      refine j_gete hX (nI (ln nn)) in11 11 0 21 rfl rfl (by decide) (List.mem_of_getElem? (i := 1) rfl) rfl rfl hv21 dX11_one_12 ?_
      refine j_icmp_geN hX k (ln nn) 67 dX11_one_15 (by decide) (by omega) (by omega) (fun b_15 => ?_) (fun b_15 => ?_)
      · skip
        refine j_aload_n hX 0 dX11_one_67 rfl ?_
        refine j_callV2 hX 0 (c_grow l g h b (upd (upd v 3 (nI nl)) 39 (nI at1)) nl G FO w1 S1 fs rt A1 T1 U1 tn sd fm nn ly tr ht e0 nd hv15 hv16 hv27 hv28 (by omega) (by omega) hB hfs hrt htn rfl (by omega) hv21 hv17 (by omega) hEB hNB) gX11_one_X11_grow (by decide +kernel) rfl ⟨rfl, rfl⟩ ⟨Nat.le_of_ble_eq_true rfl, Nat.le_of_ble_eq_true rfl⟩ 11 0 rfl rfl [0, 1, 2, 3, 4, 5, 6, 7, 8, 9, 10, 11, 13, 14] [12, 15, 16, 17] 18 rfl (by decide) (fun jj : (Nat → Int32) × (Nat → Int32) × (Nat → Int64) × (Nat → Int64) × (Nat → Int64) × Nat × (Nat → Int32) × (Nat → Int32) × (Nat → Int32) × (Nat → Int32) => [oB h 11 (mO b (upd (upd v 3 (nI jj.2.2.2.2.2.1)) 39 (nI at1))), bA g (b 2) 1400 jj.2.2.2.2.2.2.1, bA g (b 4) 32 jj.2.2.2.2.2.2.2.1, iA g (b 5) 64 jj.1, iA g (b 6) 8 jj.2.1, iA g (b 7) 8 fs, iA g (b 8) 64 rt, lA g (b 9) 25 jj.2.2.1, lA g (b 10) 25 jj.2.2.2.1, lA g (b 11) 5 jj.2.2.2.2.1, iA g (b 12) 25 tn, bA g (b 23) 48 sd, iA g (b 29) 40 D1, bA g (b 30) 560 jj.2.2.2.2.2.2.2.2.1, bA g (b 31) 112 jj.2.2.2.2.2.2.2.2.2, bA g (b 34) 32 P1, bA g (b 38) 2000 SGF, bA g (b 41) 16 rw]) (fun _ => rfl) (by decide) [h, (b 2), (b 4), (b 5), (b 6), (b 7), (b 8), (b 9), (b 10), (b 11), (b 12), (b 23), (b 29), (b 30), (b 31), (b 34), (b 38), (b 41)] rfl (fun _ => rfl) (fun _ => rfl) [iA g (b 29) 40 D1, bA g (b 34) 32 P1, bA g (b 38) 2000 SGF, bA g (b 41) 16 rw] rfl (fun _ => rfl) rfl [] rfl (Nat.le_of_ble_eq_true rfl) ⟨Nat.le_refl _, Nat.le_refl _⟩ dX11_one_68 ?_
        rintro ⟨w8, S8, A8, T8, U8, nl8, G8, FO8, E8, N8⟩ hG
        try dsimp only at hG
        refine j_w [oB h 11 (mO b (upd (upd v 3 (nI nl8)) 39 (nI at1))), bA g (b 2) 1400 G8, bA g (b 4) 32 FO8, iA g (b 5) 64 w8, iA g (b 6) 8 S8, iA g (b 7) 8 fs, iA g (b 8) 64 rt, lA g (b 9) 25 A8, lA g (b 10) 25 T8, lA g (b 11) 5 U8, iA g (b 12) 25 tn, bA g (b 23) 48 sd, iA g (b 29) 40 D1, bA g (b 30) 560 E8, bA g (b 31) 112 N8, bA g (b 34) 32 P1, bA g (b 38) 2000 SGF, bA g (b 41) 16 rw] rfl ?_
        refine j_st [] rfl ?_
        refine j_iconst hX (0) dX11_one_71 (by decide) ?_
        refine j_st [.int (nI 0)] rfl ?_
        refine j_istore hX [(4, .int (nI 0)), (0, .ref h), (1, .ref (b 41)), (2, .int (nI 0)), (3, .int (nI u))] dX11_one_72 (by decide) rfl ?_
        have lp_4 : ∀ (n_5 : Nat) (z : Nat) (at1 : Nat) (SGF : Nat → Int32), (ht - z < n_5) → (z ≤ ht) → (isB SGF) → (at1 = at0 + ln nn * nn + z * nn) → (SGF = putL sg at0 (oneC fm nn sd ly tr u rw (ln nn) ++ pth fm nn sd ly tr 2 0 (fun i => LF fm nn sd ly tr i) u z)) → J p l e ({ frames := 8, cells := 0, slots := 0, locals := 193 } : Room) s m ([.ref h, .ref (b 41), .int (nI 0), .int (nI u)] : List Value).toArray below meth c g A 5 Q 0 0 [oB h 11 (mO b (upd (upd v 3 (nI nl8)) 39 (nI at1))), bA g (b 2) 1400 G8, bA g (b 4) 32 FO8, iA g (b 5) 64 w8, iA g (b 6) 8 S8, iA g (b 7) 8 fs, iA g (b 8) 64 rt, lA g (b 9) 25 A8, lA g (b 10) 25 T8, lA g (b 11) 5 U8, iA g (b 12) 25 tn, bA g (b 23) 48 sd, iA g (b 29) 40 D1, bA g (b 30) 560 E8, bA g (b 31) 112 N8, bA g (b 34) 32 P1, bA g (b 38) 2000 SGF, bA g (b 41) 16 rw] [(0, .ref h), (1, .ref (b 41)), (2, .int (nI 0)), (3, .int (nI u)), (4, .int (nI z))] 74 [] := by
          intro n_5
          induction n_5 with
          | zero => intro z at1 SGF hm; exact absurd hm (Nat.not_lt_zero _)
          | succ n_5 ih_6 =>
            intro z at1 SGF hm hz hSF hat1 hO
            refine j_iload hX 4 dX11_one_74 rfl ?_
            refine j_pc 76 rfl ?_
            refine j_aload_n hX 0 dX11_one_76 rfl ?_
            refine j_gete hX (nI ht) in11 11 0 17 rfl rfl (by decide) (List.mem_of_getElem? (i := 4) rfl) rfl rfl hv17 dX11_one_77 ?_
            refine j_icmp_geN hX z ht 109 dX11_one_80 (by decide) (by omega) (by omega) (fun b_80 => ?_) (fun b_80 => ?_)
            · skip
              have hzz : z = ht := by omega
              rw [hzz] at hO
              refine j_w [oB h 11 (mO b (upd (upd v 3 (nI nl8)) 39 (nI (at0 + (ln nn + ht) * nn)))), bA g (b 2) 1400 G8, bA g (b 4) 32 FO8, iA g (b 5) 64 w8, iA g (b 6) 8 S8, iA g (b 7) 8 fs, iA g (b 8) 64 rt, lA g (b 9) 25 A8, lA g (b 10) 25 T8, lA g (b 11) 5 U8, iA g (b 12) 25 tn, bA g (b 23) 48 sd, iA g (b 29) 40 D1, bA g (b 30) 560 E8, bA g (b 31) 112 N8, bA g (b 34) 32 P1, bA g (b 38) 2000 SGF, bA g (b 41) 16 rw] (by rw [show at1 = at0 + (ln nn + ht) * nn by rw [hat1, hzz]; omega]) ?_
              exact hret (w8, S8, A8, T8, U8, nl8, G8, FO8, D1, E8, N8, P1, SGF) (by dsimp only; exact ⟨hG.1, ⟨hG.2.1, hG.2.2.1, hP1, hSF⟩, hO, hG.2.2.2⟩) 109 _ .return_ dX11_one_109 rfl
            · skip
              have hzl : z < ht := by omega
              have hsb := sib_bd hu hzl
              have hzn := mul_step (n := nn) hzl
              have hdz := Nat.div_le_self u (2 ^ z)
              have hcc := bfr_cap (h := ht) (z := z) (i := sib (u / 2 ^ z)) (by omega) hsb
              refine j_aload_n hX 0 dX11_one_83 rfl ?_
              refine j_aload_n hX 0 dX11_one_84 rfl ?_
              refine j_get hX in11 11 0 31 (v := .ref (b 31)) rfl rfl (by decide) (List.mem_of_getElem? (i := 5) rfl) rfl rfl dX11_one_85 ?_
              refine j_aload_n hX 0 dX11_one_88 rfl ?_
              refine j_pc 89 rfl ?_
              refine j_iload hX 4 dX11_one_89 rfl ?_
              refine j_iload_n hX 3 dX11_one_91 rfl ?_
              refine j_iload hX 4 dX11_one_92 rfl ?_
              refine j_ishrN hX u z (by omega) (by omega) dX11_one_94 ?_
              refine j_iconst hX (1) dX11_one_95 (by decide) ?_
              refine j_ixor hX dX11_one_96 ?_
              refine j_topeq _ (nI (sib (u / 2 ^ z))) (sib_I (by omega)) ?_
              refine j_callV2 hX 2 (c_nodeAt l g h b (upd (upd v 3 (nI nl8)) 39 (nI at1)) ht z (sib (u / 2 ^ z)) hv17 (by omega) (by omega)) gX11_one_X11_nodeAt (by decide +kernel) rfl ⟨rfl, rfl⟩ ⟨Nat.le_of_ble_eq_true rfl, Nat.le_of_ble_eq_true rfl⟩ 11 0 rfl rfl [0] [1, 2, 3, 4, 5, 6, 7, 8, 9, 10, 11, 12, 13, 14, 15, 16, 17] 18 rfl (by decide) (fun jj : Unit => [oB h 11 (mO b (upd (upd v 3 (nI nl8)) 39 (nI at1))), bA g (b 2) 1400 G8, bA g (b 4) 32 FO8, iA g (b 5) 64 w8, iA g (b 6) 8 S8, iA g (b 7) 8 fs, iA g (b 8) 64 rt, lA g (b 9) 25 A8, lA g (b 10) 25 T8, lA g (b 11) 5 U8, iA g (b 12) 25 tn, bA g (b 23) 48 sd, iA g (b 29) 40 D1, bA g (b 30) 560 E8, bA g (b 31) 112 N8, bA g (b 34) 32 P1, bA g (b 38) 2000 SGF, bA g (b 41) 16 rw]) (fun _ => rfl) (by decide) [h, (b 2), (b 4), (b 5), (b 6), (b 7), (b 8), (b 9), (b 10), (b 11), (b 12), (b 23), (b 29), (b 30), (b 31), (b 34), (b 38), (b 41)] rfl (fun _ => rfl) (fun _ => rfl) [bA g (b 2) 1400 G8, bA g (b 4) 32 FO8, iA g (b 5) 64 w8, iA g (b 6) 8 S8, iA g (b 7) 8 fs, iA g (b 8) 64 rt, lA g (b 9) 25 A8, lA g (b 10) 25 T8, lA g (b 11) 5 U8, iA g (b 12) 25 tn, bA g (b 23) 48 sd, iA g (b 29) 40 D1, bA g (b 30) 560 E8, bA g (b 31) 112 N8, bA g (b 34) 32 P1, bA g (b 38) 2000 SGF, bA g (b 41) 16 rw] rfl (fun _ => rfl) rfl [.ref (b 31), .ref h] rfl (Nat.le_of_ble_eq_true rfl) ⟨Nat.le_refl _, Nat.le_refl _⟩ dX11_one_97 ?_
              intro _ hu_7
              refine j_w [oB h 11 (mO b (upd (upd v 3 (nI nl8)) 39 (nI at1))), bA g (b 2) 1400 G8, bA g (b 4) 32 FO8, iA g (b 5) 64 w8, iA g (b 6) 8 S8, iA g (b 7) 8 fs, iA g (b 8) 64 rt, lA g (b 9) 25 A8, lA g (b 10) 25 T8, lA g (b 11) 5 U8, iA g (b 12) 25 tn, bA g (b 23) 48 sd, iA g (b 29) 40 D1, bA g (b 30) 560 E8, bA g (b 31) 112 N8, bA g (b 34) 32 P1, bA g (b 38) 2000 SGF, bA g (b 41) 16 rw] rfl ?_
              refine j_st [.int (nI (16 * (bfr ht z + (sib (u / 2 ^ z))))), .ref (b 31), .ref h] rfl ?_
              refine j_callV2 hX 2 (c_mput l g h b (upd (upd v 3 (nI nl8)) 39 (nI at1)) nn at1 (b 31) 112 N8 SGF (16 * (bfr ht z + (sib (u / 2 ^ z)))) hv16 rfl (by omega) (by omega) (by omega) (by omega) hG.2.2.1) gX11_one_X11_put (by decide +kernel) rfl ⟨rfl, rfl⟩ ⟨Nat.le_of_ble_eq_true rfl, Nat.le_of_ble_eq_true rfl⟩ 11 0 rfl rfl [0, 14, 16] [1, 2, 3, 4, 5, 6, 7, 8, 9, 10, 11, 12, 13, 15, 17] 18 rfl (by decide) (fun jj : (Nat → Int32) => [oB h 11 (mO b (upd (upd v 3 (nI nl8)) 39 (nI (at1 + nn)))), bA g (b 2) 1400 G8, bA g (b 4) 32 FO8, iA g (b 5) 64 w8, iA g (b 6) 8 S8, iA g (b 7) 8 fs, iA g (b 8) 64 rt, lA g (b 9) 25 A8, lA g (b 10) 25 T8, lA g (b 11) 5 U8, iA g (b 12) 25 tn, bA g (b 23) 48 sd, iA g (b 29) 40 D1, bA g (b 30) 560 E8, bA g (b 31) 112 N8, bA g (b 34) 32 P1, bA g (b 38) 2000 jj, bA g (b 41) 16 rw]) (fun _ => rfl) (by decide) [h, (b 2), (b 4), (b 5), (b 6), (b 7), (b 8), (b 9), (b 10), (b 11), (b 12), (b 23), (b 29), (b 30), (b 31), (b 34), (b 38), (b 41)] rfl (fun _ => rfl) (fun _ => rfl) [bA g (b 2) 1400 G8, bA g (b 4) 32 FO8, iA g (b 5) 64 w8, iA g (b 6) 8 S8, iA g (b 7) 8 fs, iA g (b 8) 64 rt, lA g (b 9) 25 A8, lA g (b 10) 25 T8, lA g (b 11) 5 U8, iA g (b 12) 25 tn, bA g (b 23) 48 sd, iA g (b 29) 40 D1, bA g (b 30) 560 E8, bA g (b 34) 32 P1, bA g (b 41) 16 rw] rfl (fun _ => rfl) rfl [] rfl (Nat.le_of_ble_eq_true rfl) ⟨Nat.le_refl _, Nat.le_refl _⟩ dX11_one_100 ?_
              intro SG7 hT
              try dsimp only at hT
              refine j_w [oB h 11 (mO b (upd (upd v 3 (nI nl8)) 39 (nI (at1 + nn)))), bA g (b 2) 1400 G8, bA g (b 4) 32 FO8, iA g (b 5) 64 w8, iA g (b 6) 8 S8, iA g (b 7) 8 fs, iA g (b 8) 64 rt, lA g (b 9) 25 A8, lA g (b 10) 25 T8, lA g (b 11) 5 U8, iA g (b 12) 25 tn, bA g (b 23) 48 sd, iA g (b 29) 40 D1, bA g (b 30) 560 E8, bA g (b 31) 112 N8, bA g (b 34) 32 P1, bA g (b 38) 2000 SG7, bA g (b 41) 16 rw] rfl ?_
              refine j_st [] rfl ?_
              refine j_pc 103 rfl ?_
              refine j_iincN hX z (z + 1) [(4, .int (nI (z + 1))), (0, .ref h), (1, .ref (b 41)), (2, .int (nI 0)), (3, .int (nI u))] 4 dX11_one_103 rfl (nI_1 _) (by decide) rfl ?_
              refine j_goto hX 74 dX11_one_106 (by decide) ?_
              refine j_perm [(0, .ref h), (1, .ref (b 41)), (2, .int (nI 0)), (3, .int (nI u)), (4, .int (nI (z + 1)))] [1, 2, 3, 4, 0] rfl ?_
              exact ih_6 (z + 1) (at1 + nn) SG7 (by omega) (by omega) (by rw [hT]; exact putL_B hSF (slice_B hG.2.2.1 _ _)) (by rw [hat1, Nat.succ_mul]; omega) (by rw [hT, hG.2.2.2 z _ (by omega) hsb, hO, putL_app' (by rw [List.length_append, oneC_length (by omega), pth_length (by omega) _ _ _ _ _ (fun j => LF_length (by omega) _ _ _ _)]; omega), List.append_assoc]; rfl)
        refine j_perm [(0, .ref h), (1, .ref (b 41)), (2, .int (nI 0)), (3, .int (nI u)), (4, .int (nI 0))] [1, 2, 3, 4, 0] rfl ?_
        exact lp_4 _ 0 at1 SGF (Nat.lt_succ_self _) (by omega) (by omega) (by rw [hat1, show k = ln nn by omega, Nat.zero_mul]; rfl) (by rw [hO, show k = ln nn by omega, pth, List.append_nil])
      · skip
        have hml := mul_step (n := nn) (show k < ln nn by omega)
        refine j_aload_n hX 0 dX11_one_18 rfl ?_
        refine j_iconst hX (5) dX11_one_19 (by decide) ?_
        refine j_iload_n hX 3 dX11_one_20 rfl ?_
        refine j_iload hX 4 dX11_one_21 rfl ?_
        refine j_iconst hX (0) dX11_one_23 (by decide) ?_
        refine j_aload_n hX 0 dX11_one_24 rfl ?_
        refine j_pc 25 rfl ?_
        refine j_get hX in11 11 0 34 (v := .ref (b 34)) rfl rfl (by decide) (List.mem_of_getElem? (i := 2) rfl) rfl rfl dX11_one_25 ?_
        refine j_iconst hX (0) dX11_one_28 (by decide) ?_
        refine j_callV2 hX 6 (c_secret l g h b (upd (upd v 3 (nI nl)) 39 (nI at1)) G FO w1 S1 fs rt A1 T1 U1 tn sd fm nn ly tr 5 u k 0 (b 34) 32 P1 0 hv15 hv16 hv27 hv28 (by omega) (by omega) hB hfs hrt htn (by omega) (by omega)) gX11_one_X11_secret (by decide +kernel) rfl ⟨rfl, rfl⟩ ⟨Nat.le_of_ble_eq_true rfl, Nat.le_of_ble_eq_true rfl⟩ 11 0 rfl rfl [0, 1, 2, 3, 4, 5, 6, 7, 8, 9, 10, 11, 15] [12, 13, 14, 16, 17] 18 rfl (by decide) (fun jj : (Nat → Int32) × (Nat → Int32) × (Nat → Int64) × (Nat → Int64) × (Nat → Int64) × Nat × (Nat → Int32) × (Nat → Int32) × (Nat → Int32) => [oB h 11 (mO b (upd (upd v 3 (nI jj.2.2.2.2.2.1)) 39 (nI at1))), bA g (b 2) 1400 jj.2.2.2.2.2.2.1, bA g (b 4) 32 jj.2.2.2.2.2.2.2.1, iA g (b 5) 64 jj.1, iA g (b 6) 8 jj.2.1, iA g (b 7) 8 fs, iA g (b 8) 64 rt, lA g (b 9) 25 jj.2.2.1, lA g (b 10) 25 jj.2.2.2.1, lA g (b 11) 5 jj.2.2.2.2.1, iA g (b 12) 25 tn, bA g (b 23) 48 sd, iA g (b 29) 40 D1, bA g (b 30) 560 e0, bA g (b 31) 112 nd, bA g (b 34) 32 jj.2.2.2.2.2.2.2.2, bA g (b 38) 2000 SGF, bA g (b 41) 16 rw]) (fun _ => rfl) (by decide) [h, (b 2), (b 4), (b 5), (b 6), (b 7), (b 8), (b 9), (b 10), (b 11), (b 12), (b 23), (b 29), (b 30), (b 31), (b 34), (b 38), (b 41)] rfl (fun _ => rfl) (fun _ => rfl) [iA g (b 29) 40 D1, bA g (b 30) 560 e0, bA g (b 31) 112 nd, bA g (b 38) 2000 SGF, bA g (b 41) 16 rw] rfl (fun _ => rfl) rfl [] rfl (Nat.le_of_ble_eq_true rfl) ⟨Nat.le_refl _, Nat.le_refl _⟩ dX11_one_29 ?_
        rintro ⟨w5, S5, A5, T5, U5, nl5, G5, FO5, P5⟩ hS
        try dsimp only at hS
        refine j_w [oB h 11 (mO b (upd (upd v 3 (nI nl5)) 39 (nI at1))), bA g (b 2) 1400 G5, bA g (b 4) 32 FO5, iA g (b 5) 64 w5, iA g (b 6) 8 S5, iA g (b 7) 8 fs, iA g (b 8) 64 rt, lA g (b 9) 25 A5, lA g (b 10) 25 T5, lA g (b 11) 5 U5, iA g (b 12) 25 tn, bA g (b 23) 48 sd, iA g (b 29) 40 D1, bA g (b 30) 560 e0, bA g (b 31) 112 nd, bA g (b 34) 32 P5, bA g (b 38) 2000 SGF, bA g (b 41) 16 rw] rfl ?_
        refine j_st [] rfl ?_
        refine j_aload_n hX 0 dX11_one_32 rfl ?_
        refine j_aload_n hX 0 dX11_one_33 rfl ?_
        refine j_get hX in11 11 0 34 (v := .ref (b 34)) rfl rfl (by decide) (List.mem_of_getElem? (i := 2) rfl) rfl rfl dX11_one_34 ?_
        refine j_iconst hX (0) dX11_one_37 (by decide) ?_
        refine j_iconst hX (0) dX11_one_38 (by decide) ?_
        refine j_pc 39 rfl ?_
        refine j_aload_n hX 0 dX11_one_39 rfl ?_
        refine j_get hX in11 11 0 29 (v := .ref (b 29)) rfl rfl (by decide) (List.mem_of_getElem? (i := 3) rfl) rfl rfl dX11_one_40 ?_
        refine j_iload hX 4 dX11_one_43 rfl ?_
        refine j_ialdN hX 12 k rfl (by omega) (by omega) dX11_one_45 ?_
        refine j_topeq _ (nI (dgt rw nn k)) (hD2 k (by omega)) ?_
        refine j_iload_n hX 3 dX11_one_46 rfl ?_
        refine j_iload hX 4 dX11_one_47 rfl ?_
        refine j_callV2 hX 6 (c_chain l g h b (upd (upd v 3 (nI nl5)) 39 (nI at1)) G5 FO5 w5 S5 fs rt A5 T5 U5 tn sd fm nn ly tr (b 34) 32 P5 0 0 (dgt rw nn k) u k nl5 hv15 hv16 hv27 hv28 (by omega) (by omega) hB hfs hrt htn (by omega) (by omega) rfl hS.1 (by rw [hS.2]; exact putL_B hP1 (TT_B _ _ _ _ _ _ _ _ _ _)) (by have := dgt_lt rw nn k; omega)) gX11_one_X11_chain (by decide +kernel) rfl ⟨rfl, rfl⟩ ⟨Nat.le_of_ble_eq_true rfl, Nat.le_of_ble_eq_true rfl⟩ 11 0 rfl rfl [0, 1, 2, 3, 4, 5, 6, 7, 8, 9, 10, 11, 15] [12, 13, 14, 16, 17] 18 rfl (by decide) (fun jj : (Nat → Int32) × (Nat → Int32) × (Nat → Int64) × (Nat → Int64) × (Nat → Int64) × Nat × (Nat → Int32) × (Nat → Int32) × (Nat → Int32) => [oB h 11 (mO b (upd (upd v 3 (nI jj.2.2.2.2.2.1)) 39 (nI at1))), bA g (b 2) 1400 jj.2.2.2.2.2.2.1, bA g (b 4) 32 jj.2.2.2.2.2.2.2.1, iA g (b 5) 64 jj.1, iA g (b 6) 8 jj.2.1, iA g (b 7) 8 fs, iA g (b 8) 64 rt, lA g (b 9) 25 jj.2.2.1, lA g (b 10) 25 jj.2.2.2.1, lA g (b 11) 5 jj.2.2.2.2.1, iA g (b 12) 25 tn, bA g (b 23) 48 sd, iA g (b 29) 40 D1, bA g (b 30) 560 e0, bA g (b 31) 112 nd, bA g (b 34) 32 jj.2.2.2.2.2.2.2.2, bA g (b 38) 2000 SGF, bA g (b 41) 16 rw]) (fun _ => rfl) (by decide) [h, (b 2), (b 4), (b 5), (b 6), (b 7), (b 8), (b 9), (b 10), (b 11), (b 12), (b 23), (b 29), (b 30), (b 31), (b 34), (b 38), (b 41)] rfl (fun _ => rfl) (fun _ => rfl) [iA g (b 29) 40 D1, bA g (b 30) 560 e0, bA g (b 31) 112 nd, bA g (b 38) 2000 SGF, bA g (b 41) 16 rw] rfl (fun _ => rfl) rfl [] rfl (Nat.le_of_ble_eq_true rfl) ⟨Nat.le_refl _, Nat.le_refl _⟩ dX11_one_49 ?_
        rintro ⟨w6, S6, A6, T6, U6, nl6, G6, FO6, P6⟩ hC
        try dsimp only at hC
        refine j_w [oB h 11 (mO b (upd (upd v 3 (nI nl6)) 39 (nI at1))), bA g (b 2) 1400 G6, bA g (b 4) 32 FO6, iA g (b 5) 64 w6, iA g (b 6) 8 S6, iA g (b 7) 8 fs, iA g (b 8) 64 rt, lA g (b 9) 25 A6, lA g (b 10) 25 T6, lA g (b 11) 5 U6, iA g (b 12) 25 tn, bA g (b 23) 48 sd, iA g (b 29) 40 D1, bA g (b 30) 560 e0, bA g (b 31) 112 nd, bA g (b 34) 32 P6, bA g (b 38) 2000 SGF, bA g (b 41) 16 rw] rfl ?_
        refine j_st [] rfl ?_
        refine j_aload_n hX 0 dX11_one_52 rfl ?_
        refine j_pc 53 rfl ?_
        refine j_aload_n hX 0 dX11_one_53 rfl ?_
        refine j_get hX in11 11 0 34 (v := .ref (b 34)) rfl rfl (by decide) (List.mem_of_getElem? (i := 2) rfl) rfl rfl dX11_one_54 ?_
        refine j_iconst hX (0) dX11_one_57 (by decide) ?_
        refine j_callV2 hX 2 (c_mput l g h b (upd (upd v 3 (nI nl6)) 39 (nI at1)) nn at1 (b 34) 32 P6 SGF 0 hv16 rfl (by omega) (by omega) (by omega) (by omega) hC.2.1) gX11_one_X11_put (by decide +kernel) rfl ⟨rfl, rfl⟩ ⟨Nat.le_of_ble_eq_true rfl, Nat.le_of_ble_eq_true rfl⟩ 11 0 rfl rfl [0, 15, 16] [1, 2, 3, 4, 5, 6, 7, 8, 9, 10, 11, 12, 13, 14, 17] 18 rfl (by decide) (fun jj : (Nat → Int32) => [oB h 11 (mO b (upd (upd v 3 (nI nl6)) 39 (nI (at1 + nn)))), bA g (b 2) 1400 G6, bA g (b 4) 32 FO6, iA g (b 5) 64 w6, iA g (b 6) 8 S6, iA g (b 7) 8 fs, iA g (b 8) 64 rt, lA g (b 9) 25 A6, lA g (b 10) 25 T6, lA g (b 11) 5 U6, iA g (b 12) 25 tn, bA g (b 23) 48 sd, iA g (b 29) 40 D1, bA g (b 30) 560 e0, bA g (b 31) 112 nd, bA g (b 34) 32 P6, bA g (b 38) 2000 jj, bA g (b 41) 16 rw]) (fun _ => rfl) (by decide) [h, (b 2), (b 4), (b 5), (b 6), (b 7), (b 8), (b 9), (b 10), (b 11), (b 12), (b 23), (b 29), (b 30), (b 31), (b 34), (b 38), (b 41)] rfl (fun _ => rfl) (fun _ => rfl) [bA g (b 2) 1400 G6, bA g (b 4) 32 FO6, iA g (b 5) 64 w6, iA g (b 6) 8 S6, iA g (b 7) 8 fs, iA g (b 8) 64 rt, lA g (b 9) 25 A6, lA g (b 10) 25 T6, lA g (b 11) 5 U6, iA g (b 12) 25 tn, bA g (b 23) 48 sd, iA g (b 29) 40 D1, bA g (b 30) 560 e0, bA g (b 31) 112 nd, bA g (b 41) 16 rw] rfl (fun _ => rfl) rfl [] rfl (Nat.le_of_ble_eq_true rfl) ⟨Nat.le_refl _, Nat.le_refl _⟩ dX11_one_58 ?_
        intro SG7 hT
        try dsimp only at hT
        refine j_w [oB h 11 (mO b (upd (upd v 3 (nI nl6)) 39 (nI (at1 + nn)))), bA g (b 2) 1400 G6, bA g (b 4) 32 FO6, iA g (b 5) 64 w6, iA g (b 6) 8 S6, iA g (b 7) 8 fs, iA g (b 8) 64 rt, lA g (b 9) 25 A6, lA g (b 10) 25 T6, lA g (b 11) 5 U6, iA g (b 12) 25 tn, bA g (b 23) 48 sd, iA g (b 29) 40 D1, bA g (b 30) 560 e0, bA g (b 31) 112 nd, bA g (b 34) 32 P6, bA g (b 38) 2000 SG7, bA g (b 41) 16 rw] rfl ?_
        refine j_st [] rfl ?_
        refine j_iincN hX k (k + 1) [(4, .int (nI (k + 1))), (0, .ref h), (1, .ref (b 41)), (2, .int (nI 0)), (3, .int (nI u))] 4 dX11_one_61 rfl (nI_1 _) (by decide) rfl ?_
        refine j_goto hX 9 dX11_one_64 (by decide) ?_
        refine j_perm [(0, .ref h), (1, .ref (b 41)), (2, .int (nI 0)), (3, .int (nI u)), (4, .int (nI (k + 1)))] [1, 2, 3, 4, 0] rfl ?_
        exact ih_3 (k + 1) w6 S6 A6 T6 U6 nl6 G6 FO6 P6 (at1 + nn) SG7 (by omega) (by omega) hC.1 hC.2.1 (by rw [hT]; exact putL_B hSF (slice_B hC.2.1 _ _)) (by rw [hat1, Nat.succ_mul]; omega) (oneM_step hnn hS.2 hC.2.2 hO hat1 hT)
  refine j_perm [(0, .ref h), (1, .ref (b 41)), (2, .int (nI 0)), (3, .int (nI u)), (4, .int (nI 0))] [1, 2, 3, 4, 0] rfl ?_
  exact lp_1 _ 0 w0 S0 A0 T0 U0 n0 f dg pf at0 sg (Nat.lt_succ_self _) (by omega) (by omega) hPB hSgB (by rw [Nat.zero_mul]; rfl) (by rw [oneC, putL_nil])

set_option maxHeartbeats 4000000 in
set_option maxRecDepth 100000 in
/-- the reference: oneLeads -/
theorem c_oneLeads (l : Launch) (g : jG) (h : Nat) (b : Nat → Nat) (v : Nat → Int32) (n0 : Nat) (f : Nat → Int32) (dg : Nat → Int32) (w0 : Nat → Int32) (S0 : Nat → Int32) (fs : Nat → Int32) (rt : Nat → Int32) (A0 : Nat → Int64) (T0 : Nat → Int64) (U0 : Nat → Int64) (tn : Nat → Int32) (sd : Nat → Int32) (D0 : Nat → Int32) (e0 : Nat → Int32) (pf : Nat → Int32) (sg : Nat → Int32) (rw : Nat → Int32) (fm : Nat) (nn : Nat) (ht : Nat) (ly : Nat) (tr : Nat) (at0 : Nat) (u : Nat) (hfs : ∀ j, j < 8 → fs j = s_first.getD j 0) (hrt : ∀ j, j < 64 → rt j = s_cube.getD j 0) (htn : ∀ k, k < 25 → tn k = s_turns.getD k 0) (hv3 : v 3 = nI n0) (hn0 : n0 ≤ 1400) (hB : isB sd) (hEB : isB e0) (hPB : isB pf) (hSgB : isB sg) (hRwB : isB rw) (hv15 : v 15 = nI fm) (hv16 : v 16 = nI nn) (hv17 : v 17 = nI ht) (hv21 : v 21 = nI (ln nn)) (hv27 : v 27 = nI ly) (hv28 : v 28 = nI tr) (hv39 : v 39 = nI at0) (hfm : fm < 2) (hnn : nn ≤ 16) (hn1 : 1 ≤ nn) (hht : ht ≤ 2) (hu : u < 2 ^ 20) (hat : at0 + (ln nn + ht) * nn ≤ 2000) : jC l g yX11_oneLeads wsX11_oneLeads ({ frames := 6, cells := 0, slots := 0, locals := 147 } : Room) [.ref h, .int (nI u)] [oB h 11 (mO b v), bA g (b 2) 1400 f, bA g (b 4) 32 dg, iA g (b 5) 64 w0, iA g (b 6) 8 S0, iA g (b 7) 8 fs, iA g (b 8) 64 rt, lA g (b 9) 25 A0, lA g (b 10) 25 T0, lA g (b 11) 5 U0, iA g (b 12) 25 tn, bA g (b 23) 48 sd, iA g (b 29) 40 D0, bA g (b 30) 560 e0, bA g (b 34) 32 pf, bA g (b 38) 2000 sg, bA g (b 41) 16 rw] (fun jj : (Nat → Int32) × (Nat → Int32) × (Nat → Int64) × (Nat → Int64) × (Nat → Int64) × Nat × (Nat → Int32) × (Nat → Int32) × (Nat → Int32) × (Nat → Int32) × (Nat → Int32) × (Nat → Int32) => none) (fun jj : (Nat → Int32) × (Nat → Int32) × (Nat → Int64) × (Nat → Int64) × (Nat → Int64) × Nat × (Nat → Int32) × (Nat → Int32) × (Nat → Int32) × (Nat → Int32) × (Nat → Int32) × (Nat → Int32) => jj.2.2.2.2.2.1 ≤ 1400 ∧ (isB jj.2.2.2.2.2.2.2.2.2.1 ∧ isB jj.2.2.2.2.2.2.2.2.2.2.1 ∧ isB jj.2.2.2.2.2.2.2.2.2.2.2) ∧ jj.2.2.2.2.2.2.2.2.2.2.2 = putL rw 0 (ldP fm nn sd ly tr 2 0 (TT fm nn sd ly tr 1 u 0 0 (ldE fm nn sd ly tr u rw sg at0 (ln nn))) sg (at0 + ln nn * nn) u ht)) (fun jj : (Nat → Int32) × (Nat → Int32) × (Nat → Int64) × (Nat → Int64) × (Nat → Int64) × Nat × (Nat → Int32) × (Nat → Int32) × (Nat → Int32) × (Nat → Int32) × (Nat → Int32) × (Nat → Int32) => [oB h 11 (mO b (upd (upd v 3 (nI jj.2.2.2.2.2.1)) 39 (nI (at0 + (ln nn + ht) * nn)))), bA g (b 2) 1400 jj.2.2.2.2.2.2.1, bA g (b 4) 32 jj.2.2.2.2.2.2.2.1, iA g (b 5) 64 jj.1, iA g (b 6) 8 jj.2.1, iA g (b 7) 8 fs, iA g (b 8) 64 rt, lA g (b 9) 25 jj.2.2.1, lA g (b 10) 25 jj.2.2.2.1, lA g (b 11) 5 jj.2.2.2.2.1, iA g (b 12) 25 tn, bA g (b 23) 48 sd, iA g (b 29) 40 jj.2.2.2.2.2.2.2.2.1, bA g (b 30) 560 jj.2.2.2.2.2.2.2.2.2.1, bA g (b 34) 32 jj.2.2.2.2.2.2.2.2.2.2.1, bA g (b 38) 2000 sg, bA g (b 41) 16 jj.2.2.2.2.2.2.2.2.2.2.2]) := by
  refine jC.of (cc := cX11_oneLeads) (own := RX11) (maxL := 3) (ret := none) (by decide +kernel) rfl rfl (Nat.le_of_ble_eq_true rfl) (fun u hu => rfl) ?_
  intro p e s m below meth c A Q hX hret
  have in11 : ∀ w ∈ wsX110, w ∈ wsX11_oneLeads := (fun w h => List.mem_cons_of_mem _ (List.mem_append_right _ h))
  have hln := ln_le nn
  have hlnn := lnn hnn
  have hp4 := pow4 hht
  have hh := hl_le (fm := fm) hnn
  have hadd : (ln nn + ht) * nn = ln nn * nn + ht * nn := Nat.add_mul _ _ _
  have hcm := Nat.mul_comm nn (ln nn)
  have hLl : (TT fm nn sd ly tr 1 u 0 0 (ldE fm nn sd ly tr u rw sg at0 (ln nn))).length = nn := TT_length (by omega) _ _ _ _ _ _ _ _
  refine j_w [oB h 11 (mO b (upd v 3 (nI n0))), bA g (b 2) 1400 f, bA g (b 4) 32 dg, iA g (b 5) 64 w0, iA g (b 6) 8 S0, iA g (b 7) 8 fs, iA g (b 8) 64 rt, lA g (b 9) 25 A0, lA g (b 10) 25 T0, lA g (b 11) 5 U0, iA g (b 12) 25 tn, bA g (b 23) 48 sd, iA g (b 29) 40 D0, bA g (b 30) 560 e0, bA g (b 34) 32 pf, bA g (b 38) 2000 sg, bA g (b 41) 16 rw] (by rw [updS (show (v : Nat → Int32) 3 = nI n0 from hv3)]) ?_
  refine j_w [oB h 11 (mO b (upd (upd v 3 (nI n0)) 39 (nI at0))), bA g (b 2) 1400 f, bA g (b 4) 32 dg, iA g (b 5) 64 w0, iA g (b 6) 8 S0, iA g (b 7) 8 fs, iA g (b 8) 64 rt, lA g (b 9) 25 A0, lA g (b 10) 25 T0, lA g (b 11) 5 U0, iA g (b 12) 25 tn, bA g (b 23) 48 sd, iA g (b 29) 40 D0, bA g (b 30) 560 e0, bA g (b 34) 32 pf, bA g (b 38) 2000 sg, bA g (b 41) 16 rw] (by rw [updS (show (upd v 3 (nI n0) : Nat → Int32) 39 = nI at0 from hv39)]) ?_
  refine j_aload_n hX 0 dX11_oneLeads_0 rfl ?_
  refine j_aload_n hX 0 dX11_oneLeads_1 rfl ?_
  refine j_get hX in11 11 0 41 (v := .ref (b 41)) rfl rfl (by decide) (List.mem_of_getElem? (i := 1) rfl) rfl rfl dX11_oneLeads_2 ?_
  refine j_iconst hX (0) dX11_oneLeads_5 (by decide) ?_
  refine j_callV2 hX 2 (c_digits l g h b (upd (upd v 3 (nI n0)) 39 (nI at0)) (b 41) 16 rw D0 0 nn hv16 hv21 (by omega) (by omega) (by omega)) gX11_oneLeads_X11_digits (by decide +kernel) rfl ⟨rfl, rfl⟩ ⟨Nat.le_of_ble_eq_true rfl, Nat.le_of_ble_eq_true rfl⟩ 11 0 rfl rfl [0, 16, 12] [1, 2, 3, 4, 5, 6, 7, 8, 9, 10, 11, 13, 14, 15] 17 rfl (by decide) (fun jj : (Nat → Int32) => [oB h 11 (mO b (upd (upd v 3 (nI n0)) 39 (nI at0))), bA g (b 2) 1400 f, bA g (b 4) 32 dg, iA g (b 5) 64 w0, iA g (b 6) 8 S0, iA g (b 7) 8 fs, iA g (b 8) 64 rt, lA g (b 9) 25 A0, lA g (b 10) 25 T0, lA g (b 11) 5 U0, iA g (b 12) 25 tn, bA g (b 23) 48 sd, iA g (b 29) 40 jj, bA g (b 30) 560 e0, bA g (b 34) 32 pf, bA g (b 38) 2000 sg, bA g (b 41) 16 rw]) (fun _ => rfl) (by decide) [h, (b 2), (b 4), (b 5), (b 6), (b 7), (b 8), (b 9), (b 10), (b 11), (b 12), (b 23), (b 29), (b 30), (b 34), (b 38), (b 41)] rfl (fun _ => rfl) (fun _ => rfl) [bA g (b 2) 1400 f, bA g (b 4) 32 dg, iA g (b 5) 64 w0, iA g (b 6) 8 S0, iA g (b 7) 8 fs, iA g (b 8) 64 rt, lA g (b 9) 25 A0, lA g (b 10) 25 T0, lA g (b 11) 5 U0, iA g (b 12) 25 tn, bA g (b 23) 48 sd, bA g (b 30) 560 e0, bA g (b 34) 32 pf, bA g (b 38) 2000 sg] rfl (fun _ => rfl) rfl [] rfl (Nat.le_of_ble_eq_true rfl) ⟨Nat.le_refl _, Nat.le_refl _⟩ dX11_oneLeads_6 ?_
  intro D1 hD
  try dsimp only at hD
  refine j_w [oB h 11 (mO b (upd (upd v 3 (nI n0)) 39 (nI at0))), bA g (b 2) 1400 f, bA g (b 4) 32 dg, iA g (b 5) 64 w0, iA g (b 6) 8 S0, iA g (b 7) 8 fs, iA g (b 8) 64 rt, lA g (b 9) 25 A0, lA g (b 10) 25 T0, lA g (b 11) 5 U0, iA g (b 12) 25 tn, bA g (b 23) 48 sd, iA g (b 29) 40 D1, bA g (b 30) 560 e0, bA g (b 34) 32 pf, bA g (b 38) 2000 sg, bA g (b 41) 16 rw] rfl ?_
  refine j_st [] rfl ?_
  have hD2 : ∀ i, i < ln nn → D1 i = nI (dgt rw nn i) := fun i hi => by rw [hD i hi]; simp only [Nat.zero_add]
  refine j_iconst hX (0) dX11_oneLeads_9 (by decide) ?_
  refine j_st [.int (nI 0)] rfl ?_
  refine j_istore_n hX 2 [(2, .int (nI 0)), (0, .ref h), (1, .int (nI u))] dX11_oneLeads_10 rfl (by decide) rfl ?_
  have lp_1 : ∀ (n_2 : Nat) (k : Nat) (w1 : Nat → Int32) (S1 : Nat → Int32) (A1 : Nat → Int64) (T1 : Nat → Int64) (U1 : Nat → Int64) (nl : Nat) (G : Nat → Int32) (FO : Nat → Int32) (E1 : Nat → Int32) (at1 : Nat), (ln nn - k < n_2) → (k ≤ ln nn) → (nl ≤ 1400) → (isB E1) → (at1 = at0 + k * nn) → (E1 = putL e0 0 (ldE fm nn sd ly tr u rw sg at0 k)) → J p l e ({ frames := 6, cells := 0, slots := 0, locals := 147 } : Room) s m ([.ref h, .int (nI u)] : List Value).toArray below meth c g A 3 Q 0 0 [oB h 11 (mO b (upd (upd v 3 (nI nl)) 39 (nI at1))), bA g (b 2) 1400 G, bA g (b 4) 32 FO, iA g (b 5) 64 w1, iA g (b 6) 8 S1, iA g (b 7) 8 fs, iA g (b 8) 64 rt, lA g (b 9) 25 A1, lA g (b 10) 25 T1, lA g (b 11) 5 U1, iA g (b 12) 25 tn, bA g (b 23) 48 sd, iA g (b 29) 40 D1, bA g (b 30) 560 E1, bA g (b 34) 32 pf, bA g (b 38) 2000 sg, bA g (b 41) 16 rw] [(0, .ref h), (1, .int (nI u)), (2, .int (nI k))] 11 [] := by
    intro n_2
    induction n_2 with
    | zero => intro k w1 S1 A1 T1 U1 nl G FO E1 at1 hm; exact absurd hm (Nat.not_lt_zero _)
    | succ n_2 ih_3 =>
      intro k w1 S1 A1 T1 U1 nl G FO E1 at1 hm hk hnl hE1 hat1 hO
      refine j_pc 11 rfl ?_
      refine j_iload_n hX 2 dX11_oneLeads_11 rfl ?_
      refine j_aload_n hX 0 dX11_oneLeads_12 rfl ?_
      refine j_gete hX (nI (ln nn)) in11 11 0 21 rfl rfl (by decide) (List.mem_of_getElem? (i := 2) rfl) rfl rfl hv21 dX11_oneLeads_13 ?_
      refine j_icmp_geN hX k (ln nn) 70 dX11_oneLeads_16 (by decide) (by omega) (by omega) (fun b_16 => ?_) (fun b_16 => ?_)
      · skip
        have hkl : k = ln nn := by omega
        rw [hkl] at hat1
        refine j_aload_n hX 0 dX11_oneLeads_70 rfl ?_
        refine j_iconst hX (1) dX11_oneLeads_71 (by decide) ?_
        refine j_iload_n hX 1 dX11_oneLeads_72 rfl ?_
        refine j_iconst hX (0) dX11_oneLeads_73 (by decide) ?_
        refine j_pc 74 rfl ?_
        refine j_iconst hX (0) dX11_oneLeads_74 (by decide) ?_
        refine j_callV2 hX 4 (c_begin l g h b (upd (upd v 3 (nI nl)) 39 (nI at1)) G sd fm nn ly tr 1 u 0 0 hv15 hv16 hv27 hv28 (by omega) (by omega) hB) gX11_oneLeads_X11_begin (by decide +kernel) rfl ⟨rfl, rfl⟩ ⟨Nat.le_of_ble_eq_true rfl, Nat.le_of_ble_eq_true rfl⟩ 11 0 rfl rfl [0, 1, 11] [2, 3, 4, 5, 6, 7, 8, 9, 10, 12, 13, 14, 15, 16] 17 rfl (by decide) (fun jj : (Nat → Int32) => [oB h 11 (mO b (upd (upd v 3 (nI (hl fm nn))) 39 (nI at1))), bA g (b 2) 1400 jj, bA g (b 4) 32 FO, iA g (b 5) 64 w1, iA g (b 6) 8 S1, iA g (b 7) 8 fs, iA g (b 8) 64 rt, lA g (b 9) 25 A1, lA g (b 10) 25 T1, lA g (b 11) 5 U1, iA g (b 12) 25 tn, bA g (b 23) 48 sd, iA g (b 29) 40 D1, bA g (b 30) 560 E1, bA g (b 34) 32 pf, bA g (b 38) 2000 sg, bA g (b 41) 16 rw]) (fun _ => rfl) (by decide) [h, (b 2), (b 4), (b 5), (b 6), (b 7), (b 8), (b 9), (b 10), (b 11), (b 12), (b 23), (b 29), (b 30), (b 34), (b 38), (b 41)] rfl (fun _ => rfl) (fun _ => rfl) [bA g (b 4) 32 FO, iA g (b 5) 64 w1, iA g (b 6) 8 S1, iA g (b 7) 8 fs, iA g (b 8) 64 rt, lA g (b 9) 25 A1, lA g (b 10) 25 T1, lA g (b 11) 5 U1, iA g (b 12) 25 tn, iA g (b 29) 40 D1, bA g (b 30) 560 E1, bA g (b 34) 32 pf, bA g (b 38) 2000 sg, bA g (b 41) 16 rw] rfl (fun _ => rfl) rfl [] rfl (Nat.le_of_ble_eq_true rfl) ⟨Nat.le_refl _, Nat.le_refl _⟩ dX11_oneLeads_75 ?_
        intro F1 hF1
        try dsimp only at hF1
        refine j_w [oB h 11 (mO b (upd (upd v 3 (nI (hl fm nn))) 39 (nI at1))), bA g (b 2) 1400 F1, bA g (b 4) 32 FO, iA g (b 5) 64 w1, iA g (b 6) 8 S1, iA g (b 7) 8 fs, iA g (b 8) 64 rt, lA g (b 9) 25 A1, lA g (b 10) 25 T1, lA g (b 11) 5 U1, iA g (b 12) 25 tn, bA g (b 23) 48 sd, iA g (b 29) 40 D1, bA g (b 30) 560 E1, bA g (b 34) 32 pf, bA g (b 38) 2000 sg, bA g (b 41) 16 rw] rfl ?_
        refine j_st [] rfl ?_
        refine j_aload_n hX 0 dX11_oneLeads_78 rfl ?_
        refine j_aload_n hX 0 dX11_oneLeads_79 rfl ?_
        refine j_get hX in11 11 0 30 (v := .ref (b 30)) rfl rfl (by decide) (List.mem_of_getElem? (i := 3) rfl) rfl rfl dX11_oneLeads_80 ?_
        refine j_iconst hX (0) dX11_oneLeads_83 (by decide) ?_
        refine j_aload_n hX 0 dX11_oneLeads_84 rfl ?_
        refine j_gete hX (nI nn) in11 11 0 16 rfl rfl (by decide) (List.mem_of_getElem? (i := 4) rfl) rfl rfl hv16 dX11_oneLeads_85 ?_
        refine j_pc 88 rfl ?_
        refine j_aload_n hX 0 dX11_oneLeads_88 rfl ?_
        refine j_gete hX (nI (ln nn)) in11 11 0 21 rfl rfl (by decide) (List.mem_of_getElem? (i := 2) rfl) rfl rfl hv21 dX11_oneLeads_89 ?_
        refine j_imulN hX nn (ln nn) dX11_oneLeads_92 ?_
        refine j_callV2 hX 3 (c_layRow l g h b (upd (upd v 3 (nI (hl fm nn))) 39 (nI at1)) (hl fm nn) F1 (b 30) 560 E1 0 (nn * (ln nn)) rfl (by omega) (by omega) (by omega) hE1) gX11_oneLeads_X11_layRow (by decide +kernel) rfl ⟨rfl, rfl⟩ ⟨Nat.le_of_ble_eq_true rfl, Nat.le_of_ble_eq_true rfl⟩ 11 0 rfl rfl [0, 1, 13] [2, 3, 4, 5, 6, 7, 8, 9, 10, 11, 12, 14, 15, 16] 17 rfl (by decide) (fun jj : (Nat → Int32) => [oB h 11 (mO b (upd (upd v 3 (nI ((hl fm nn) + (nn * (ln nn))))) 39 (nI at1))), bA g (b 2) 1400 jj, bA g (b 4) 32 FO, iA g (b 5) 64 w1, iA g (b 6) 8 S1, iA g (b 7) 8 fs, iA g (b 8) 64 rt, lA g (b 9) 25 A1, lA g (b 10) 25 T1, lA g (b 11) 5 U1, iA g (b 12) 25 tn, bA g (b 23) 48 sd, iA g (b 29) 40 D1, bA g (b 30) 560 E1, bA g (b 34) 32 pf, bA g (b 38) 2000 sg, bA g (b 41) 16 rw]) (fun _ => rfl) (by decide) [h, (b 2), (b 4), (b 5), (b 6), (b 7), (b 8), (b 9), (b 10), (b 11), (b 12), (b 23), (b 29), (b 30), (b 34), (b 38), (b 41)] rfl (fun _ => rfl) (fun _ => rfl) [bA g (b 4) 32 FO, iA g (b 5) 64 w1, iA g (b 6) 8 S1, iA g (b 7) 8 fs, iA g (b 8) 64 rt, lA g (b 9) 25 A1, lA g (b 10) 25 T1, lA g (b 11) 5 U1, iA g (b 12) 25 tn, bA g (b 23) 48 sd, iA g (b 29) 40 D1, bA g (b 34) 32 pf, bA g (b 38) 2000 sg, bA g (b 41) 16 rw] rfl (fun _ => rfl) rfl [] rfl (Nat.le_of_ble_eq_true rfl) ⟨Nat.le_refl _, Nat.le_refl _⟩ dX11_oneLeads_93 ?_
        intro F2 hF2
        try dsimp only at hF2
        refine j_w [oB h 11 (mO b (upd (upd v 3 (nI ((hl fm nn) + (nn * (ln nn))))) 39 (nI at1))), bA g (b 2) 1400 F2, bA g (b 4) 32 FO, iA g (b 5) 64 w1, iA g (b 6) 8 S1, iA g (b 7) 8 fs, iA g (b 8) 64 rt, lA g (b 9) 25 A1, lA g (b 10) 25 T1, lA g (b 11) 5 U1, iA g (b 12) 25 tn, bA g (b 23) 48 sd, iA g (b 29) 40 D1, bA g (b 30) 560 E1, bA g (b 34) 32 pf, bA g (b 38) 2000 sg, bA g (b 41) 16 rw] rfl ?_
        refine j_st [] rfl ?_
        refine j_aload_n hX 0 dX11_oneLeads_96 rfl ?_
        refine j_aload_n hX 0 dX11_oneLeads_97 rfl ?_
        refine j_get hX in11 11 0 41 (v := .ref (b 41)) rfl rfl (by decide) (List.mem_of_getElem? (i := 1) rfl) rfl rfl dX11_oneLeads_98 ?_
        refine j_iconst hX (0) dX11_oneLeads_101 (by decide) ?_
        refine j_pc 102 rfl ?_
        refine j_callV2 hX 2 (c_end l g h b (upd (upd v 3 (nI ((hl fm nn) + (nn * (ln nn))))) 39 (nI at1)) ((hl fm nn) + (nn * (ln nn))) F2 FO w1 S1 fs rt A1 T1 U1 tn (b 41) 16 rw fm nn 0 rfl hv15 hv16 (by omega) hfs hrt htn (by omega) (by omega) (by omega) (by omega)) gX11_oneLeads_X11_end (by decide +kernel) rfl ⟨rfl, rfl⟩ ⟨Nat.le_of_ble_eq_true rfl, Nat.le_of_ble_eq_true rfl⟩ 11 0 rfl rfl [0, 1, 2, 3, 4, 5, 6, 7, 8, 9, 10, 16] [11, 12, 13, 14, 15] 17 rfl (by decide) (fun jj : (Nat → Int32) × (Nat → Int32) × (Nat → Int64) × (Nat → Int64) × (Nat → Int64) × Nat × (Nat → Int32) × (Nat → Int32) × (Nat → Int32) => [oB h 11 (mO b (upd (upd v 3 (nI jj.2.2.2.2.2.1)) 39 (nI at1))), bA g (b 2) 1400 jj.2.2.2.2.2.2.1, bA g (b 4) 32 jj.2.2.2.2.2.2.2.1, iA g (b 5) 64 jj.1, iA g (b 6) 8 jj.2.1, iA g (b 7) 8 fs, iA g (b 8) 64 rt, lA g (b 9) 25 jj.2.2.1, lA g (b 10) 25 jj.2.2.2.1, lA g (b 11) 5 jj.2.2.2.2.1, iA g (b 12) 25 tn, bA g (b 23) 48 sd, iA g (b 29) 40 D1, bA g (b 30) 560 E1, bA g (b 34) 32 pf, bA g (b 38) 2000 sg, bA g (b 41) 16 jj.2.2.2.2.2.2.2.2]) (fun _ => rfl) (by decide) [h, (b 2), (b 4), (b 5), (b 6), (b 7), (b 8), (b 9), (b 10), (b 11), (b 12), (b 23), (b 29), (b 30), (b 34), (b 38), (b 41)] rfl (fun _ => rfl) (fun _ => rfl) [bA g (b 23) 48 sd, iA g (b 29) 40 D1, bA g (b 30) 560 E1, bA g (b 34) 32 pf, bA g (b 38) 2000 sg] rfl (fun _ => rfl) rfl [] rfl (Nat.le_of_ble_eq_true rfl) ⟨Nat.le_refl _, Nat.le_refl _⟩ dX11_oneLeads_102 ?_
        rintro ⟨w7, S7, A7, T7, U7, nl7, G7, FO7, R7⟩ hE
        try dsimp only at hE
        refine j_w [oB h 11 (mO b (upd (upd v 3 (nI nl7)) 39 (nI at1))), bA g (b 2) 1400 G7, bA g (b 4) 32 FO7, iA g (b 5) 64 w7, iA g (b 6) 8 S7, iA g (b 7) 8 fs, iA g (b 8) 64 rt, lA g (b 9) 25 A7, lA g (b 10) 25 T7, lA g (b 11) 5 U7, iA g (b 12) 25 tn, bA g (b 23) 48 sd, iA g (b 29) 40 D1, bA g (b 30) 560 E1, bA g (b 34) 32 pf, bA g (b 38) 2000 sg, bA g (b 41) 16 R7] rfl ?_
        refine j_st [] rfl ?_
        have hdl := hd_length (fm := fm) (n := nn) (by omega) sd ly tr 1 u 0 0
        rw [hF2, hF1, putL_app' (by rw [hdl, Nat.zero_add]), slice_put (by rw [List.length_append, hdl, slice_length]), hO, hkl, slice_put (by rw [ldE_length (by omega)]; exact hcm)] at hE
        have hE7 : R7 = putL rw 0 (TT fm nn sd ly tr 1 u 0 0 (ldE fm nn sd ly tr u rw sg at0 (ln nn))) := hE.2
        have hR7 : isB R7 := by rw [hE7]; exact putL_B hRwB (TT_B _ _ _ _ _ _ _ _ _ _)
        refine j_iconst hX (0) dX11_oneLeads_105 (by decide) ?_
        refine j_st [.int (nI 0)] rfl ?_
        refine j_istore_n hX 2 [(2, .int (nI 0)), (0, .ref h), (1, .int (nI u))] dX11_oneLeads_106 rfl (by decide) rfl ?_
        have lp_4 : ∀ (n_5 : Nat) (z : Nat) (w1 : Nat → Int32) (S1 : Nat → Int32) (A1 : Nat → Int64) (T1 : Nat → Int64) (U1 : Nat → Int64) (nl : Nat) (G : Nat → Int32) (FO : Nat → Int32) (P1 : Nat → Int32) (at1 : Nat) (R1 : Nat → Int32), (ht - z < n_5) → (z ≤ ht) → (nl ≤ 1400) → (isB P1) → (isB R1) → (at1 = at0 + ln nn * nn + z * nn) → (R1 = putL rw 0 (ldP fm nn sd ly tr 2 0 (TT fm nn sd ly tr 1 u 0 0 (ldE fm nn sd ly tr u rw sg at0 (ln nn))) sg (at0 + ln nn * nn) u z)) → J p l e ({ frames := 6, cells := 0, slots := 0, locals := 147 } : Room) s m ([.ref h, .int (nI u)] : List Value).toArray below meth c g A 3 Q 0 0 [oB h 11 (mO b (upd (upd v 3 (nI nl)) 39 (nI at1))), bA g (b 2) 1400 G, bA g (b 4) 32 FO, iA g (b 5) 64 w1, iA g (b 6) 8 S1, iA g (b 7) 8 fs, iA g (b 8) 64 rt, lA g (b 9) 25 A1, lA g (b 10) 25 T1, lA g (b 11) 5 U1, iA g (b 12) 25 tn, bA g (b 23) 48 sd, iA g (b 29) 40 D1, bA g (b 30) 560 E1, bA g (b 34) 32 P1, bA g (b 38) 2000 sg, bA g (b 41) 16 R1] [(0, .ref h), (1, .int (nI u)), (2, .int (nI z))] 107 [] := by
          intro n_5
          induction n_5 with
          | zero => intro z w1 S1 A1 T1 U1 nl G FO P1 at1 R1 hm; exact absurd hm (Nat.not_lt_zero _)
          | succ n_5 ih_6 =>
            intro z w1 S1 A1 T1 U1 nl G FO P1 at1 R1 hm hz hnl hP1 hR1 hat1 hO
            refine j_iload_n hX 2 dX11_oneLeads_107 rfl ?_
            refine j_aload_n hX 0 dX11_oneLeads_108 rfl ?_
            refine j_gete hX (nI ht) in11 11 0 17 rfl rfl (by decide) (List.mem_of_getElem? (i := 6) rfl) rfl rfl hv17 dX11_oneLeads_109 ?_
            refine j_icmp_geN hX z ht 155 dX11_oneLeads_112 (by decide) (by omega) (by omega) (fun b_112 => ?_) (fun b_112 => ?_)
            · skip
              have hzz : z = ht := by omega
              rw [hzz] at hO
              refine j_w [oB h 11 (mO b (upd (upd v 3 (nI nl)) 39 (nI (at0 + (ln nn + ht) * nn)))), bA g (b 2) 1400 G, bA g (b 4) 32 FO, iA g (b 5) 64 w1, iA g (b 6) 8 S1, iA g (b 7) 8 fs, iA g (b 8) 64 rt, lA g (b 9) 25 A1, lA g (b 10) 25 T1, lA g (b 11) 5 U1, iA g (b 12) 25 tn, bA g (b 23) 48 sd, iA g (b 29) 40 D1, bA g (b 30) 560 E1, bA g (b 34) 32 P1, bA g (b 38) 2000 sg, bA g (b 41) 16 R1] (by rw [show at1 = at0 + (ln nn + ht) * nn by rw [hat1, hzz]; omega]) ?_
              exact hret (w1, S1, A1, T1, U1, nl, G, FO, D1, E1, P1, R1) (by dsimp only; exact ⟨hnl, ⟨hE1, hP1, hR1⟩, hO⟩) 155 _ .return_ dX11_oneLeads_155 rfl
            · skip
              have hzl : z < ht := by omega
              have hzn := mul_step (n := nn) hzl
              have hdz := Nat.div_le_self u (2 ^ z)
              refine j_pc 115 rfl ?_
              refine j_aload_n hX 0 dX11_oneLeads_115 rfl ?_
              refine j_iconst hX (2) dX11_oneLeads_116 (by decide) ?_
              refine j_iconst hX (0) dX11_oneLeads_117 (by decide) ?_
              refine j_iload_n hX 2 dX11_oneLeads_118 rfl ?_
              refine j_iconst hX (1) dX11_oneLeads_119 (by decide) ?_
              refine j_iaddN hX z 1 dX11_oneLeads_120 ?_
              refine j_iload_n hX 1 dX11_oneLeads_121 rfl ?_
              refine j_iload_n hX 2 dX11_oneLeads_122 rfl ?_
              refine j_pc 123 rfl ?_
              refine j_iconst hX (1) dX11_oneLeads_123 (by decide) ?_
              refine j_iaddN hX z 1 dX11_oneLeads_124 ?_
              refine j_ishrN hX u (z + 1) (by omega) (by omega) dX11_oneLeads_125 ?_
              refine j_callV2 hX 4 (c_begin l g h b (upd (upd v 3 (nI nl)) 39 (nI at1)) G sd fm nn ly tr 2 0 (z + 1) (u / 2 ^ (z + 1)) hv15 hv16 hv27 hv28 (by omega) (by omega) hB) gX11_oneLeads_X11_begin (by decide +kernel) rfl ⟨rfl, rfl⟩ ⟨Nat.le_of_ble_eq_true rfl, Nat.le_of_ble_eq_true rfl⟩ 11 0 rfl rfl [0, 1, 11] [2, 3, 4, 5, 6, 7, 8, 9, 10, 12, 13, 14, 15, 16] 17 rfl (by decide) (fun jj : (Nat → Int32) => [oB h 11 (mO b (upd (upd v 3 (nI (hl fm nn))) 39 (nI at1))), bA g (b 2) 1400 jj, bA g (b 4) 32 FO, iA g (b 5) 64 w1, iA g (b 6) 8 S1, iA g (b 7) 8 fs, iA g (b 8) 64 rt, lA g (b 9) 25 A1, lA g (b 10) 25 T1, lA g (b 11) 5 U1, iA g (b 12) 25 tn, bA g (b 23) 48 sd, iA g (b 29) 40 D1, bA g (b 30) 560 E1, bA g (b 34) 32 P1, bA g (b 38) 2000 sg, bA g (b 41) 16 R1]) (fun _ => rfl) (by decide) [h, (b 2), (b 4), (b 5), (b 6), (b 7), (b 8), (b 9), (b 10), (b 11), (b 12), (b 23), (b 29), (b 30), (b 34), (b 38), (b 41)] rfl (fun _ => rfl) (fun _ => rfl) [bA g (b 4) 32 FO, iA g (b 5) 64 w1, iA g (b 6) 8 S1, iA g (b 7) 8 fs, iA g (b 8) 64 rt, lA g (b 9) 25 A1, lA g (b 10) 25 T1, lA g (b 11) 5 U1, iA g (b 12) 25 tn, iA g (b 29) 40 D1, bA g (b 30) 560 E1, bA g (b 34) 32 P1, bA g (b 38) 2000 sg, bA g (b 41) 16 R1] rfl (fun _ => rfl) rfl [] rfl (Nat.le_of_ble_eq_true rfl) ⟨Nat.le_refl _, Nat.le_refl _⟩ dX11_oneLeads_126 ?_
              intro F1 hF1
              try dsimp only at hF1
              refine j_w [oB h 11 (mO b (upd (upd v 3 (nI (hl fm nn))) 39 (nI at1))), bA g (b 2) 1400 F1, bA g (b 4) 32 FO, iA g (b 5) 64 w1, iA g (b 6) 8 S1, iA g (b 7) 8 fs, iA g (b 8) 64 rt, lA g (b 9) 25 A1, lA g (b 10) 25 T1, lA g (b 11) 5 U1, iA g (b 12) 25 tn, bA g (b 23) 48 sd, iA g (b 29) 40 D1, bA g (b 30) 560 E1, bA g (b 34) 32 P1, bA g (b 38) 2000 sg, bA g (b 41) 16 R1] rfl ?_
              refine j_st [] rfl ?_
              refine j_aload_n hX 0 dX11_oneLeads_129 rfl ?_
              refine j_aload_n hX 0 dX11_oneLeads_130 rfl ?_
              refine j_get hX in11 11 0 41 (v := .ref (b 41)) rfl rfl (by decide) (List.mem_of_getElem? (i := 1) rfl) rfl rfl dX11_oneLeads_131 ?_
              refine j_iload_n hX 1 dX11_oneLeads_134 rfl ?_
              refine j_pc 135 rfl ?_
              refine j_iload_n hX 2 dX11_oneLeads_135 rfl ?_
              refine j_ishrN hX u z (by omega) (by omega) dX11_oneLeads_136 ?_
              refine j_callV2 hX 2 (c_layPair l g h b (upd (upd v 3 (nI (hl fm nn))) 39 (nI at1)) (hl fm nn) F1 P1 sg R1 nn at1 (u / 2 ^ z) rfl hv16 rfl (by omega) (by omega) (by omega) hP1 hSgB hR1 (by omega)) gX11_oneLeads_X11_layPair (by decide +kernel) rfl ⟨rfl, rfl⟩ ⟨Nat.le_of_ble_eq_true rfl, Nat.le_of_ble_eq_true rfl⟩ 11 0 rfl rfl [0, 1, 14, 15, 16] [2, 3, 4, 5, 6, 7, 8, 9, 10, 11, 12, 13] 17 rfl (by decide) (fun jj : (Nat → Int32) × (Nat → Int32) => [oB h 11 (mO b (upd (upd v 3 (nI ((hl fm nn) + nn + nn))) 39 (nI (at1 + nn)))), bA g (b 2) 1400 jj.1, bA g (b 4) 32 FO, iA g (b 5) 64 w1, iA g (b 6) 8 S1, iA g (b 7) 8 fs, iA g (b 8) 64 rt, lA g (b 9) 25 A1, lA g (b 10) 25 T1, lA g (b 11) 5 U1, iA g (b 12) 25 tn, bA g (b 23) 48 sd, iA g (b 29) 40 D1, bA g (b 30) 560 E1, bA g (b 34) 32 jj.2, bA g (b 38) 2000 sg, bA g (b 41) 16 R1]) (fun _ => rfl) (by decide) [h, (b 2), (b 4), (b 5), (b 6), (b 7), (b 8), (b 9), (b 10), (b 11), (b 12), (b 23), (b 29), (b 30), (b 34), (b 38), (b 41)] rfl (fun _ => rfl) (fun _ => rfl) [bA g (b 4) 32 FO, iA g (b 5) 64 w1, iA g (b 6) 8 S1, iA g (b 7) 8 fs, iA g (b 8) 64 rt, lA g (b 9) 25 A1, lA g (b 10) 25 T1, lA g (b 11) 5 U1, iA g (b 12) 25 tn, bA g (b 23) 48 sd, iA g (b 29) 40 D1, bA g (b 30) 560 E1] rfl (fun _ => rfl) rfl [] rfl (Nat.le_of_ble_eq_true rfl) ⟨Nat.le_refl _, Nat.le_refl _⟩ dX11_oneLeads_137 ?_
              rintro ⟨F2, P9⟩ hF2
              try dsimp only at hF2
              refine j_w [oB h 11 (mO b (upd (upd v 3 (nI ((hl fm nn) + nn + nn))) 39 (nI (at1 + nn)))), bA g (b 2) 1400 F2, bA g (b 4) 32 FO, iA g (b 5) 64 w1, iA g (b 6) 8 S1, iA g (b 7) 8 fs, iA g (b 8) 64 rt, lA g (b 9) 25 A1, lA g (b 10) 25 T1, lA g (b 11) 5 U1, iA g (b 12) 25 tn, bA g (b 23) 48 sd, iA g (b 29) 40 D1, bA g (b 30) 560 E1, bA g (b 34) 32 P9, bA g (b 38) 2000 sg, bA g (b 41) 16 R1] rfl ?_
              refine j_st [] rfl ?_
              have hF3 := hF2.2
              rw [hF1, putL_app' (by rw [hd_length (by omega), Nat.zero_add])] at hF3
              refine j_aload_n hX 0 dX11_oneLeads_140 rfl ?_
              refine j_aload_n hX 0 dX11_oneLeads_141 rfl ?_
              refine j_get hX in11 11 0 41 (v := .ref (b 41)) rfl rfl (by decide) (List.mem_of_getElem? (i := 1) rfl) rfl rfl dX11_oneLeads_142 ?_
              refine j_iconst hX (0) dX11_oneLeads_145 (by decide) ?_
              refine j_callV2 hX 2 (c_end l g h b (upd (upd v 3 (nI ((hl fm nn) + nn + nn))) 39 (nI (at1 + nn))) ((hl fm nn) + nn + nn) F2 FO w1 S1 fs rt A1 T1 U1 tn (b 41) 16 R1 fm nn 0 rfl hv15 hv16 (by omega) hfs hrt htn (by omega) (by omega) (by omega) (by omega)) gX11_oneLeads_X11_end (by decide +kernel) rfl ⟨rfl, rfl⟩ ⟨Nat.le_of_ble_eq_true rfl, Nat.le_of_ble_eq_true rfl⟩ 11 0 rfl rfl [0, 1, 2, 3, 4, 5, 6, 7, 8, 9, 10, 16] [11, 12, 13, 14, 15] 17 rfl (by decide) (fun jj : (Nat → Int32) × (Nat → Int32) × (Nat → Int64) × (Nat → Int64) × (Nat → Int64) × Nat × (Nat → Int32) × (Nat → Int32) × (Nat → Int32) => [oB h 11 (mO b (upd (upd v 3 (nI jj.2.2.2.2.2.1)) 39 (nI (at1 + nn)))), bA g (b 2) 1400 jj.2.2.2.2.2.2.1, bA g (b 4) 32 jj.2.2.2.2.2.2.2.1, iA g (b 5) 64 jj.1, iA g (b 6) 8 jj.2.1, iA g (b 7) 8 fs, iA g (b 8) 64 rt, lA g (b 9) 25 jj.2.2.1, lA g (b 10) 25 jj.2.2.2.1, lA g (b 11) 5 jj.2.2.2.2.1, iA g (b 12) 25 tn, bA g (b 23) 48 sd, iA g (b 29) 40 D1, bA g (b 30) 560 E1, bA g (b 34) 32 P9, bA g (b 38) 2000 sg, bA g (b 41) 16 jj.2.2.2.2.2.2.2.2]) (fun _ => rfl) (by decide) [h, (b 2), (b 4), (b 5), (b 6), (b 7), (b 8), (b 9), (b 10), (b 11), (b 12), (b 23), (b 29), (b 30), (b 34), (b 38), (b 41)] rfl (fun _ => rfl) (fun _ => rfl) [bA g (b 23) 48 sd, iA g (b 29) 40 D1, bA g (b 30) 560 E1, bA g (b 34) 32 P9, bA g (b 38) 2000 sg] rfl (fun _ => rfl) rfl [] rfl (Nat.le_of_ble_eq_true rfl) ⟨Nat.le_refl _, Nat.le_refl _⟩ dX11_oneLeads_146 ?_
              rintro ⟨w6, S6, A6, T6, U6, nl6, G6, FO6, R6⟩ hE
              try dsimp only at hE
              refine j_w [oB h 11 (mO b (upd (upd v 3 (nI nl6)) 39 (nI (at1 + nn)))), bA g (b 2) 1400 G6, bA g (b 4) 32 FO6, iA g (b 5) 64 w6, iA g (b 6) 8 S6, iA g (b 7) 8 fs, iA g (b 8) 64 rt, lA g (b 9) 25 A6, lA g (b 10) 25 T6, lA g (b 11) 5 U6, iA g (b 12) 25 tn, bA g (b 23) 48 sd, iA g (b 29) 40 D1, bA g (b 30) 560 E1, bA g (b 34) 32 P9, bA g (b 38) 2000 sg, bA g (b 41) 16 R6] rfl ?_
              refine j_st [] rfl ?_
              have hdl := hd_length (fm := fm) (n := nn) (by omega) sd ly tr 2 0 (z + 1) (u / 2 ^ (z + 1))
              have hE6 := hE.2
              rw [hF3, slice_put (by rw [List.length_append, hdl]; split <;> (rw [List.length_append, slice_length, slice_length]; omega)), hat1] at hE6
              have hO6 := ldP_any hnn hLl hO hE6
              refine j_pc 149 rfl ?_
              refine j_iincN hX z (z + 1) [(2, .int (nI (z + 1))), (0, .ref h), (1, .int (nI u))] 2 dX11_oneLeads_149 rfl (nI_1 _) (by decide) rfl ?_
              refine j_goto hX 107 dX11_oneLeads_152 (by decide) ?_
              refine j_perm [(0, .ref h), (1, .int (nI u)), (2, .int (nI (z + 1)))] [1, 2, 0] rfl ?_
              exact ih_6 (z + 1) w6 S6 A6 T6 U6 nl6 G6 FO6 P9 (at1 + nn) R6 (by omega) (by omega) hE.1 hF2.1 (by rw [hE.2]; exact putL_B hR1 (isBL_take (HH_B _ _) _)) (by rw [hat1, Nat.succ_mul]; omega) hO6
        refine j_perm [(0, .ref h), (1, .int (nI u)), (2, .int (nI 0))] [1, 2, 0] rfl ?_
        exact lp_4 _ 0 w7 S7 A7 T7 U7 nl7 G7 FO7 pf at1 R7 (Nat.lt_succ_self _) (by omega) hE.1 hPB hR7 (by rw [hat1, Nat.zero_mul]; rfl) hE7
      · skip
        have hml := mul_step (n := nn) (show k < ln nn by omega)
        have hcm2 := Nat.mul_comm nn k
        refine j_aload_n hX 0 dX11_oneLeads_19 rfl ?_
        refine j_aload_n hX 0 dX11_oneLeads_20 rfl ?_
        refine j_get hX in11 11 0 30 (v := .ref (b 30)) rfl rfl (by decide) (List.mem_of_getElem? (i := 3) rfl) rfl rfl dX11_oneLeads_21 ?_
        refine j_aload_n hX 0 dX11_oneLeads_24 rfl ?_
        refine j_gete hX (nI nn) in11 11 0 16 rfl rfl (by decide) (List.mem_of_getElem? (i := 4) rfl) rfl rfl hv16 dX11_oneLeads_25 ?_
        refine j_iload_n hX 2 dX11_oneLeads_28 rfl ?_
        refine j_pc 29 rfl ?_
        refine j_imulN hX nn k dX11_oneLeads_29 ?_
        refine j_callV2 hX 2 (c_mread l g h b (upd (upd v 3 (nI nl)) 39 (nI at1)) nn at1 (b 30) 560 E1 sg (nn * k) hv16 rfl (by omega) (by omega) (by omega) (by omega) hSgB) gX11_oneLeads_X11_read (by decide +kernel) rfl ⟨rfl, rfl⟩ ⟨Nat.le_of_ble_eq_true rfl, Nat.le_of_ble_eq_true rfl⟩ 11 0 rfl rfl [0, 13, 15] [1, 2, 3, 4, 5, 6, 7, 8, 9, 10, 11, 12, 14, 16] 17 rfl (by decide) (fun jj : (Nat → Int32) => [oB h 11 (mO b (upd (upd v 3 (nI nl)) 39 (nI (at1 + nn)))), bA g (b 2) 1400 G, bA g (b 4) 32 FO, iA g (b 5) 64 w1, iA g (b 6) 8 S1, iA g (b 7) 8 fs, iA g (b 8) 64 rt, lA g (b 9) 25 A1, lA g (b 10) 25 T1, lA g (b 11) 5 U1, iA g (b 12) 25 tn, bA g (b 23) 48 sd, iA g (b 29) 40 D1, bA g (b 30) 560 jj, bA g (b 34) 32 pf, bA g (b 38) 2000 sg, bA g (b 41) 16 rw]) (fun _ => rfl) (by decide) [h, (b 2), (b 4), (b 5), (b 6), (b 7), (b 8), (b 9), (b 10), (b 11), (b 12), (b 23), (b 29), (b 30), (b 34), (b 38), (b 41)] rfl (fun _ => rfl) (fun _ => rfl) [bA g (b 2) 1400 G, bA g (b 4) 32 FO, iA g (b 5) 64 w1, iA g (b 6) 8 S1, iA g (b 7) 8 fs, iA g (b 8) 64 rt, lA g (b 9) 25 A1, lA g (b 10) 25 T1, lA g (b 11) 5 U1, iA g (b 12) 25 tn, bA g (b 23) 48 sd, iA g (b 29) 40 D1, bA g (b 34) 32 pf, bA g (b 41) 16 rw] rfl (fun _ => rfl) rfl [] rfl (Nat.le_of_ble_eq_true rfl) ⟨Nat.le_refl _, Nat.le_refl _⟩ dX11_oneLeads_30 ?_
        intro E5 hR
        try dsimp only at hR
        refine j_w [oB h 11 (mO b (upd (upd v 3 (nI nl)) 39 (nI (at1 + nn)))), bA g (b 2) 1400 G, bA g (b 4) 32 FO, iA g (b 5) 64 w1, iA g (b 6) 8 S1, iA g (b 7) 8 fs, iA g (b 8) 64 rt, lA g (b 9) 25 A1, lA g (b 10) 25 T1, lA g (b 11) 5 U1, iA g (b 12) 25 tn, bA g (b 23) 48 sd, iA g (b 29) 40 D1, bA g (b 30) 560 E5, bA g (b 34) 32 pf, bA g (b 38) 2000 sg, bA g (b 41) 16 rw] rfl ?_
        refine j_st [] rfl ?_
        refine j_aload_n hX 0 dX11_oneLeads_33 rfl ?_
        refine j_aload_n hX 0 dX11_oneLeads_34 rfl ?_
        refine j_get hX in11 11 0 30 (v := .ref (b 30)) rfl rfl (by decide) (List.mem_of_getElem? (i := 3) rfl) rfl rfl dX11_oneLeads_35 ?_
        refine j_aload_n hX 0 dX11_oneLeads_38 rfl ?_
        refine j_gete hX (nI nn) in11 11 0 16 rfl rfl (by decide) (List.mem_of_getElem? (i := 4) rfl) rfl rfl hv16 dX11_oneLeads_39 ?_
        refine j_iload_n hX 2 dX11_oneLeads_42 rfl ?_
        refine j_pc 43 rfl ?_
        refine j_imulN hX nn k dX11_oneLeads_43 ?_
        refine j_aload_n hX 0 dX11_oneLeads_44 rfl ?_
        refine j_get hX in11 11 0 29 (v := .ref (b 29)) rfl rfl (by decide) (List.mem_of_getElem? (i := 5) rfl) rfl rfl dX11_oneLeads_45 ?_
        refine j_iload_n hX 2 dX11_oneLeads_48 rfl ?_
        refine j_ialdN hX 12 k rfl (by omega) (by omega) dX11_oneLeads_49 ?_
        refine j_topeq _ (nI (dgt rw nn k)) (hD2 k (by omega)) ?_
        refine j_bipush hX (15) dX11_oneLeads_50 (by decide) ?_
        refine j_aload_n hX 0 dX11_oneLeads_52 rfl ?_
        refine j_get hX in11 11 0 29 (v := .ref (b 29)) rfl rfl (by decide) (List.mem_of_getElem? (i := 5) rfl) rfl rfl dX11_oneLeads_53 ?_
        refine j_pc 56 rfl ?_
        refine j_iload_n hX 2 dX11_oneLeads_56 rfl ?_
        refine j_ialdN hX 12 k rfl (by omega) (by omega) dX11_oneLeads_57 ?_
        refine j_topeq _ (nI (dgt rw nn k)) (hD2 k (by omega)) ?_
        refine j_isubN hX 15 (dgt rw nn k) (by have := dgt_lt rw nn k; omega) dX11_oneLeads_58 ?_
        refine j_iload_n hX 1 dX11_oneLeads_59 rfl ?_
        refine j_iload_n hX 2 dX11_oneLeads_60 rfl ?_
        refine j_callV2 hX 6 (c_chain l g h b (upd (upd v 3 (nI nl)) 39 (nI (at1 + nn))) G FO w1 S1 fs rt A1 T1 U1 tn sd fm nn ly tr (b 30) 560 E5 (nn * k) (dgt rw nn k) (15 - (dgt rw nn k)) u k nl hv15 hv16 hv27 hv28 (by omega) (by omega) hB hfs hrt htn (by omega) (by omega) rfl (by omega) (by rw [hR]; exact putL_B hE1 (slice_B hSgB _ _)) (by have := dgt_lt rw nn k; omega)) gX11_oneLeads_X11_chain (by decide +kernel) rfl ⟨rfl, rfl⟩ ⟨Nat.le_of_ble_eq_true rfl, Nat.le_of_ble_eq_true rfl⟩ 11 0 rfl rfl [0, 1, 2, 3, 4, 5, 6, 7, 8, 9, 10, 11, 13] [12, 14, 15, 16] 17 rfl (by decide) (fun jj : (Nat → Int32) × (Nat → Int32) × (Nat → Int64) × (Nat → Int64) × (Nat → Int64) × Nat × (Nat → Int32) × (Nat → Int32) × (Nat → Int32) => [oB h 11 (mO b (upd (upd v 3 (nI jj.2.2.2.2.2.1)) 39 (nI (at1 + nn)))), bA g (b 2) 1400 jj.2.2.2.2.2.2.1, bA g (b 4) 32 jj.2.2.2.2.2.2.2.1, iA g (b 5) 64 jj.1, iA g (b 6) 8 jj.2.1, iA g (b 7) 8 fs, iA g (b 8) 64 rt, lA g (b 9) 25 jj.2.2.1, lA g (b 10) 25 jj.2.2.2.1, lA g (b 11) 5 jj.2.2.2.2.1, iA g (b 12) 25 tn, bA g (b 23) 48 sd, iA g (b 29) 40 D1, bA g (b 30) 560 jj.2.2.2.2.2.2.2.2, bA g (b 34) 32 pf, bA g (b 38) 2000 sg, bA g (b 41) 16 rw]) (fun _ => rfl) (by decide) [h, (b 2), (b 4), (b 5), (b 6), (b 7), (b 8), (b 9), (b 10), (b 11), (b 12), (b 23), (b 29), (b 30), (b 34), (b 38), (b 41)] rfl (fun _ => rfl) (fun _ => rfl) [iA g (b 29) 40 D1, bA g (b 34) 32 pf, bA g (b 38) 2000 sg, bA g (b 41) 16 rw] rfl (fun _ => rfl) rfl [] rfl (Nat.le_of_ble_eq_true rfl) ⟨Nat.le_refl _, Nat.le_refl _⟩ dX11_oneLeads_61 ?_
        rintro ⟨w6, S6, A6, T6, U6, nl6, G6, FO6, E6⟩ hC
        try dsimp only at hC
        refine j_w [oB h 11 (mO b (upd (upd v 3 (nI nl6)) 39 (nI (at1 + nn)))), bA g (b 2) 1400 G6, bA g (b 4) 32 FO6, iA g (b 5) 64 w6, iA g (b 6) 8 S6, iA g (b 7) 8 fs, iA g (b 8) 64 rt, lA g (b 9) 25 A6, lA g (b 10) 25 T6, lA g (b 11) 5 U6, iA g (b 12) 25 tn, bA g (b 23) 48 sd, iA g (b 29) 40 D1, bA g (b 30) 560 E6, bA g (b 34) 32 pf, bA g (b 38) 2000 sg, bA g (b 41) 16 rw] rfl ?_
        refine j_st [] rfl ?_
        refine j_iincN hX k (k + 1) [(2, .int (nI (k + 1))), (0, .ref h), (1, .int (nI u))] 2 dX11_oneLeads_64 rfl (nI_1 _) (by decide) rfl ?_
        refine j_goto hX 11 dX11_oneLeads_67 (by decide) ?_
        refine j_perm [(0, .ref h), (1, .int (nI u)), (2, .int (nI (k + 1)))] [1, 2, 0] rfl ?_
        exact ih_3 (k + 1) w6 S6 A6 T6 U6 nl6 G6 FO6 E6 (at1 + nn) (by omega) (by omega) hC.1 hC.2.1 (by rw [hat1, Nat.succ_mul]; omega) (ldE_step hnn (Nat.mul_comm nn k) hO (by rw [hR, hat1]) hC.2.2)
  refine j_perm [(0, .ref h), (1, .int (nI u)), (2, .int (nI 0))] [1, 2, 0] rfl ?_
  exact lp_1 _ 0 w0 S0 A0 T0 U0 n0 f dg e0 at0 (Nat.lt_succ_self _) (by omega) (by omega) hEB (by rw [Nat.zero_mul]; rfl) (by rw [ldE, putL_nil])

