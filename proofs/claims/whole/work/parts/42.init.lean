theorem zero_put (n c : Nat) : putL (fun _ => 0) n (Zl 0 c) = fun _ => 0 := by
  rw [zeros_Zl]
  funext j
  unfold putL
  split
  · simp only [List.getD, List.getElem?_replicate]
    split <;> rfl
  · rfl

theorem dX7_init_0 : decode cX7_init 0 = .ok (.aload_n 0, 1) := by decide +kernel
theorem dX7_init_1 : decode cX7_init 1 = .ok (.invokespecial 3, 3) := by decide +kernel
theorem dX7_init_4 : decode cX7_init 4 = .ok (.aload_n 0, 1) := by decide +kernel
theorem dX7_init_5 : decode cX7_init 5 = .ok (.iload_n 1, 1) := by decide +kernel
theorem dX7_init_6 : decode cX7_init 6 = .ok (.iconst 0, 1) := by decide +kernel
theorem dX7_init_7 : decode cX7_init 7 = .ok (.invokestatic 9, 3) := by decide +kernel
theorem dX7_init_10 : decode cX7_init 10 = .ok (.newarray .byte, 2) := by decide +kernel
theorem dX7_init_12 : decode cX7_init 12 = .ok (.putfield 15, 3) := by decide +kernel
theorem dX7_init_15 : decode cX7_init 15 = .ok (.return_, 1) := by decide +kernel
theorem dX2_init_0 : decode cX2_init 0 = .ok (.aload_n 0, 1) := by decide +kernel
theorem dX2_init_1 : decode cX2_init 1 = .ok (.invokespecial 1, 3) := by decide +kernel
theorem dX2_init_4 : decode cX2_init 4 = .ok (.return_, 1) := by decide +kernel
set_option maxRecDepth 20000 in
theorem ggX3_init_X2_init : GoodIn wsX3_init wsX2_init := goodIn_r _ [6, 7, 8, 9] rfl (by decide +kernel)
set_option maxRecDepth 20000 in
theorem gX3_init_X2_init_n3 : GoodIn wsX3_init (wsX2_init) := ggX3_init_X2_init
theorem dX3_init_0 : decode cX3_init 0 = .ok (.aload_n 0, 1) := by decide +kernel
theorem dX3_init_1 : decode cX3_init 1 = .ok (.invokespecial 3, 3) := by decide +kernel
theorem dX3_init_4 : decode cX3_init 4 = .ok (.aload_n 0, 1) := by decide +kernel
theorem dX3_init_5 : decode cX3_init 5 = .ok (.bipush 25, 2) := by decide +kernel
theorem dX3_init_7 : decode cX3_init 7 = .ok (.newarray .long, 2) := by decide +kernel
theorem dX3_init_9 : decode cX3_init 9 = .ok (.putfield 9, 3) := by decide +kernel
theorem dX3_init_12 : decode cX3_init 12 = .ok (.aload_n 0, 1) := by decide +kernel
theorem dX3_init_13 : decode cX3_init 13 = .ok (.bipush 25, 2) := by decide +kernel
theorem dX3_init_15 : decode cX3_init 15 = .ok (.newarray .long, 2) := by decide +kernel
theorem dX3_init_17 : decode cX3_init 17 = .ok (.putfield 15, 3) := by decide +kernel
theorem dX3_init_20 : decode cX3_init 20 = .ok (.return_, 1) := by decide +kernel
set_option maxRecDepth 20000 in
theorem ggX4_init_X2_init : GoodIn wsX4_init wsX2_init := goodIn_r _ [6, 7, 8, 9] rfl (by decide +kernel)
set_option maxRecDepth 20000 in
theorem gX4_init_X2_init_n1 : GoodIn wsX4_init (wsX2_init) := ggX4_init_X2_init
theorem dX4_init_0 : decode cX4_init 0 = .ok (.aload_n 0, 1) := by decide +kernel
theorem dX4_init_1 : decode cX4_init 1 = .ok (.invokespecial 1, 3) := by decide +kernel
theorem dX4_init_4 : decode cX4_init 4 = .ok (.aload_n 0, 1) := by decide +kernel
theorem dX4_init_5 : decode cX4_init 5 = .ok (.bipush 8, 2) := by decide +kernel
theorem dX4_init_7 : decode cX4_init 7 = .ok (.newarray .int, 2) := by decide +kernel
theorem dX4_init_9 : decode cX4_init 9 = .ok (.putfield 7, 3) := by decide +kernel
theorem dX4_init_12 : decode cX4_init 12 = .ok (.aload_n 0, 1) := by decide +kernel
theorem dX4_init_13 : decode cX4_init 13 = .ok (.bipush 64, 2) := by decide +kernel
theorem dX4_init_15 : decode cX4_init 15 = .ok (.newarray .int, 2) := by decide +kernel
theorem dX4_init_17 : decode cX4_init 17 = .ok (.putfield 13, 3) := by decide +kernel
theorem dX4_init_20 : decode cX4_init 20 = .ok (.return_, 1) := by decide +kernel
set_option maxRecDepth 20000 in
theorem ggX5_init_X7_init : GoodIn wsX5_init wsX7_init := goodIn_r _ [21, 22, 2, 3, 23, 24, 25, 26, 27, 28, 43, 44] rfl (by decide +kernel)
set_option maxRecDepth 20000 in
theorem gX5_init_X7_init : GoodIn wsX5_init (wsX7_init) := ggX5_init_X7_init
set_option maxRecDepth 20000 in
theorem ggX5_init_X4_init : GoodIn wsX5_init wsX4_init := goodIn_r _ [30, 31, 32, 33, 34, 35, 36, 37, 2, 3, 53, 54] rfl (by decide +kernel)
set_option maxRecDepth 20000 in
theorem gX5_init_X4_init_n25 : GoodIn wsX5_init (wsX4_init) := ggX5_init_X4_init
set_option maxRecDepth 20000 in
theorem ggX5_init_X3_init : GoodIn wsX5_init wsX3_init := goodIn_r _ [39, 40, 41, 42, 34, 35, 36, 37, 2, 3, 55, 56] rfl (by decide +kernel)
set_option maxRecDepth 20000 in
theorem gX5_init_X3_init_n32 : GoodIn wsX5_init (wsX3_init) := ggX5_init_X3_init
theorem dX5_init_0 : decode cX5_init 0 = .ok (.aload_n 0, 1) := by decide +kernel
theorem dX5_init_1 : decode cX5_init 1 = .ok (.invokespecial 3, 3) := by decide +kernel
theorem dX5_init_4 : decode cX5_init 4 = .ok (.aload_n 0, 1) := by decide +kernel
theorem dX5_init_5 : decode cX5_init 5 = .ok (.new 9, 3) := by decide +kernel
theorem dX5_init_8 : decode cX5_init 8 = .ok (.dup, 1) := by decide +kernel
theorem dX5_init_9 : decode cX5_init 9 = .ok (.sipush 768, 3) := by decide +kernel
theorem dX5_init_12 : decode cX5_init 12 = .ok (.invokespecial 11, 3) := by decide +kernel
theorem dX5_init_15 : decode cX5_init 15 = .ok (.putfield 14, 3) := by decide +kernel
theorem dX5_init_18 : decode cX5_init 18 = .ok (.aload_n 0, 1) := by decide +kernel
theorem dX5_init_19 : decode cX5_init 19 = .ok (.new 9, 3) := by decide +kernel
theorem dX5_init_22 : decode cX5_init 22 = .ok (.dup, 1) := by decide +kernel
theorem dX5_init_23 : decode cX5_init 23 = .ok (.bipush 32, 2) := by decide +kernel
theorem dX5_init_25 : decode cX5_init 25 = .ok (.invokespecial 11, 3) := by decide +kernel
theorem dX5_init_28 : decode cX5_init 28 = .ok (.putfield 20, 3) := by decide +kernel
theorem dX5_init_31 : decode cX5_init 31 = .ok (.aload_n 0, 1) := by decide +kernel
theorem dX5_init_32 : decode cX5_init 32 = .ok (.new 23, 3) := by decide +kernel
theorem dX5_init_35 : decode cX5_init 35 = .ok (.dup, 1) := by decide +kernel
theorem dX5_init_36 : decode cX5_init 36 = .ok (.invokespecial 25, 3) := by decide +kernel
theorem dX5_init_39 : decode cX5_init 39 = .ok (.putfield 26, 3) := by decide +kernel
theorem dX5_init_42 : decode cX5_init 42 = .ok (.aload_n 0, 1) := by decide +kernel
theorem dX5_init_43 : decode cX5_init 43 = .ok (.new 30, 3) := by decide +kernel
theorem dX5_init_46 : decode cX5_init 46 = .ok (.dup, 1) := by decide +kernel
theorem dX5_init_47 : decode cX5_init 47 = .ok (.invokespecial 32, 3) := by decide +kernel
theorem dX5_init_50 : decode cX5_init 50 = .ok (.putfield 33, 3) := by decide +kernel
theorem dX5_init_53 : decode cX5_init 53 = .ok (.aload_n 0, 1) := by decide +kernel
theorem dX5_init_54 : decode cX5_init 54 = .ok (.aload_n 1, 1) := by decide +kernel
theorem dX5_init_55 : decode cX5_init 55 = .ok (.putfield 36, 3) := by decide +kernel
theorem dX5_init_58 : decode cX5_init 58 = .ok (.aload_n 0, 1) := by decide +kernel
theorem dX5_init_59 : decode cX5_init 59 = .ok (.aload_n 2, 1) := by decide +kernel
theorem dX5_init_60 : decode cX5_init 60 = .ok (.putfield 40, 3) := by decide +kernel
theorem dX5_init_63 : decode cX5_init 63 = .ok (.return_, 1) := by decide +kernel
set_option maxRecDepth 20000 in
theorem ggX8_init_X8_become : GoodIn wsX8_init wsX8_become := goodIn_r _ [8, 9, 10, 11, 12, 13, 14, 15, 16, 17, 18, 19, 20] rfl (by decide +kernel)
set_option maxRecDepth 20000 in
theorem gX8_init_X8_become : GoodIn wsX8_init (wsV RX8 9 RX8 yX8_become wsX8_become) := goodIn_app (goodIn_of _ (by decide +kernel)) ggX8_init_X8_become
theorem dX8_init_0 : decode cX8_init 0 = .ok (.aload_n 0, 1) := by decide +kernel
theorem dX8_init_1 : decode cX8_init 1 = .ok (.invokespecial 3, 3) := by decide +kernel
theorem dX8_init_4 : decode cX8_init 4 = .ok (.aload_n 0, 1) := by decide +kernel
theorem dX8_init_5 : decode cX8_init 5 = .ok (.iconst 0, 1) := by decide +kernel
theorem dX8_init_6 : decode cX8_init 6 = .ok (.iconst 4, 1) := by decide +kernel
theorem dX8_init_7 : decode cX8_init 7 = .ok (.iconst 1, 1) := by decide +kernel
theorem dX8_init_8 : decode cX8_init 8 = .ok (.iconst 1, 1) := by decide +kernel
theorem dX8_init_9 : decode cX8_init 9 = .ok (.iconst 1, 1) := by decide +kernel
theorem dX8_init_10 : decode cX8_init 10 = .ok (.iconst 1, 1) := by decide +kernel
theorem dX8_init_11 : decode cX8_init 11 = .ok (.invokevirtual 9, 3) := by decide +kernel
theorem dX8_init_14 : decode cX8_init 14 = .ok (.return_, 1) := by decide +kernel
set_option maxRecDepth 20000 in
theorem ggX9_init_X7_init : GoodIn wsX9_init wsX7_init := goodIn_r _ [13, 14, 2, 3, 15, 16, 17, 18, 19, 20, 21, 22] rfl (by decide +kernel)
set_option maxRecDepth 20000 in
theorem gX9_init_X7_init : GoodIn wsX9_init (wsX7_init) := ggX9_init_X7_init
theorem dX9_init_0 : decode cX9_init 0 = .ok (.aload_n 0, 1) := by decide +kernel
theorem dX9_init_1 : decode cX9_init 1 = .ok (.invokespecial 3, 3) := by decide +kernel
theorem dX9_init_4 : decode cX9_init 4 = .ok (.aload_n 0, 1) := by decide +kernel
theorem dX9_init_5 : decode cX9_init 5 = .ok (.new 9, 3) := by decide +kernel
theorem dX9_init_8 : decode cX9_init 8 = .ok (.dup, 1) := by decide +kernel
theorem dX9_init_9 : decode cX9_init 9 = .ok (.sipush 256, 3) := by decide +kernel
theorem dX9_init_12 : decode cX9_init 12 = .ok (.invokespecial 11, 3) := by decide +kernel
theorem dX9_init_15 : decode cX9_init 15 = .ok (.putfield 14, 3) := by decide +kernel
theorem dX9_init_18 : decode cX9_init 18 = .ok (.aload_n 0, 1) := by decide +kernel
theorem dX9_init_19 : decode cX9_init 19 = .ok (.aload_n 1, 1) := by decide +kernel
theorem dX9_init_20 : decode cX9_init 20 = .ok (.putfield 20, 3) := by decide +kernel
theorem dX9_init_23 : decode cX9_init 23 = .ok (.aload_n 0, 1) := by decide +kernel
theorem dX9_init_24 : decode cX9_init 24 = .ok (.aload_n 2, 1) := by decide +kernel
theorem dX9_init_25 : decode cX9_init 25 = .ok (.putfield 24, 3) := by decide +kernel
theorem dX9_init_28 : decode cX9_init 28 = .ok (.aload_n 0, 1) := by decide +kernel
theorem dX9_init_29 : decode cX9_init 29 = .ok (.aload_n 3, 1) := by decide +kernel
theorem dX9_init_30 : decode cX9_init 30 = .ok (.putfield 28, 3) := by decide +kernel
theorem dX9_init_33 : decode cX9_init 33 = .ok (.return_, 1) := by decide +kernel
set_option maxRecDepth 20000 in
theorem ggX1_init_X7_init : GoodIn wsX1_init wsX7_init := goodIn_r _ [14, 15, 2, 3, 16, 17, 18, 19, 20, 21, 22, 23] rfl (by decide +kernel)
set_option maxRecDepth 20000 in
theorem gX1_init_X7_init : GoodIn wsX1_init (wsX7_init) := ggX1_init_X7_init
theorem dX1_init_0 : decode cX1_init 0 = .ok (.aload_n 0, 1) := by decide +kernel
theorem dX1_init_1 : decode cX1_init 1 = .ok (.invokespecial 3, 3) := by decide +kernel
theorem dX1_init_4 : decode cX1_init 4 = .ok (.aload_n 0, 1) := by decide +kernel
theorem dX1_init_5 : decode cX1_init 5 = .ok (.new 9, 3) := by decide +kernel
theorem dX1_init_8 : decode cX1_init 8 = .ok (.dup, 1) := by decide +kernel
theorem dX1_init_9 : decode cX1_init 9 = .ok (.bipush 96, 2) := by decide +kernel
theorem dX1_init_11 : decode cX1_init 11 = .ok (.invokespecial 11, 3) := by decide +kernel
theorem dX1_init_14 : decode cX1_init 14 = .ok (.putfield 14, 3) := by decide +kernel
theorem dX1_init_17 : decode cX1_init 17 = .ok (.aload_n 0, 1) := by decide +kernel
theorem dX1_init_18 : decode cX1_init 18 = .ok (.new 9, 3) := by decide +kernel
theorem dX1_init_21 : decode cX1_init 21 = .ok (.dup, 1) := by decide +kernel
theorem dX1_init_22 : decode cX1_init 22 = .ok (.bipush 16, 2) := by decide +kernel
theorem dX1_init_24 : decode cX1_init 24 = .ok (.invokespecial 11, 3) := by decide +kernel
theorem dX1_init_27 : decode cX1_init 27 = .ok (.putfield 20, 3) := by decide +kernel
theorem dX1_init_30 : decode cX1_init 30 = .ok (.aload_n 0, 1) := by decide +kernel
theorem dX1_init_31 : decode cX1_init 31 = .ok (.aload_n 1, 1) := by decide +kernel
theorem dX1_init_32 : decode cX1_init 32 = .ok (.putfield 23, 3) := by decide +kernel
theorem dX1_init_35 : decode cX1_init 35 = .ok (.aload_n 0, 1) := by decide +kernel
theorem dX1_init_36 : decode cX1_init 36 = .ok (.aload_n 2, 1) := by decide +kernel
theorem dX1_init_37 : decode cX1_init 37 = .ok (.putfield 27, 3) := by decide +kernel
theorem dX1_init_40 : decode cX1_init 40 = .ok (.aload_n 0, 1) := by decide +kernel
theorem dX1_init_41 : decode cX1_init 41 = .ok (.aload_n 3, 1) := by decide +kernel
theorem dX1_init_42 : decode cX1_init 42 = .ok (.putfield 31, 3) := by decide +kernel
theorem dX1_init_45 : decode cX1_init 45 = .ok (.return_, 1) := by decide +kernel
set_option maxRecDepth 20000 in
theorem ggX6_init_X7_init : GoodIn wsX6_init wsX7_init := goodIn_r _ [14, 15, 2, 3, 16, 17, 18, 19, 20, 21, 22, 23] rfl (by decide +kernel)
set_option maxRecDepth 20000 in
theorem gX6_init_X7_init : GoodIn wsX6_init (wsX7_init) := ggX6_init_X7_init
theorem dX6_init_0 : decode cX6_init 0 = .ok (.aload_n 0, 1) := by decide +kernel
theorem dX6_init_1 : decode cX6_init 1 = .ok (.invokespecial 3, 3) := by decide +kernel
theorem dX6_init_4 : decode cX6_init 4 = .ok (.aload_n 0, 1) := by decide +kernel
theorem dX6_init_5 : decode cX6_init 5 = .ok (.new 9, 3) := by decide +kernel
theorem dX6_init_8 : decode cX6_init 8 = .ok (.dup, 1) := by decide +kernel
theorem dX6_init_9 : decode cX6_init 9 = .ok (.bipush 8, 2) := by decide +kernel
theorem dX6_init_11 : decode cX6_init 11 = .ok (.invokespecial 11, 3) := by decide +kernel
theorem dX6_init_14 : decode cX6_init 14 = .ok (.putfield 14, 3) := by decide +kernel
theorem dX6_init_17 : decode cX6_init 17 = .ok (.aload_n 0, 1) := by decide +kernel
theorem dX6_init_18 : decode cX6_init 18 = .ok (.new 9, 3) := by decide +kernel
theorem dX6_init_21 : decode cX6_init 21 = .ok (.dup, 1) := by decide +kernel
theorem dX6_init_22 : decode cX6_init 22 = .ok (.bipush 32, 2) := by decide +kernel
theorem dX6_init_24 : decode cX6_init 24 = .ok (.invokespecial 11, 3) := by decide +kernel
theorem dX6_init_27 : decode cX6_init 27 = .ok (.putfield 20, 3) := by decide +kernel
theorem dX6_init_30 : decode cX6_init 30 = .ok (.aload_n 0, 1) := by decide +kernel
theorem dX6_init_31 : decode cX6_init 31 = .ok (.aload_n 1, 1) := by decide +kernel
theorem dX6_init_32 : decode cX6_init 32 = .ok (.putfield 23, 3) := by decide +kernel
theorem dX6_init_35 : decode cX6_init 35 = .ok (.aload_n 0, 1) := by decide +kernel
theorem dX6_init_36 : decode cX6_init 36 = .ok (.aload_n 2, 1) := by decide +kernel
theorem dX6_init_37 : decode cX6_init 37 = .ok (.putfield 27, 3) := by decide +kernel
theorem dX6_init_40 : decode cX6_init 40 = .ok (.aload_n 0, 1) := by decide +kernel
theorem dX6_init_41 : decode cX6_init 41 = .ok (.aload_n 3, 1) := by decide +kernel
theorem dX6_init_42 : decode cX6_init 42 = .ok (.putfield 30, 3) := by decide +kernel
theorem dX6_init_45 : decode cX6_init 45 = .ok (.return_, 1) := by decide +kernel
set_option maxRecDepth 20000 in
theorem ggX0_init_X7_init : GoodIn wsX0_init wsX7_init := goodIn_r _ [17, 18, 2, 3, 19, 20, 21, 22, 23, 24, 30, 31] rfl (by decide +kernel)
set_option maxRecDepth 20000 in
theorem gX0_init_X7_init : GoodIn wsX0_init (wsX7_init) := ggX0_init_X7_init
set_option maxRecDepth 20000 in
theorem ggX0_init_X7_addNumber : GoodIn wsX0_init wsX7_addNumber := goodIn_r _ [28, 29, 24, 30, 31] rfl (by decide +kernel)
set_option maxRecDepth 20000 in
theorem gX0_init_X7_addNumber : GoodIn wsX0_init (wsV RX0 39 RX7 yX7_addNumber wsX7_addNumber) := goodIn_app (goodIn_of _ (by decide +kernel)) ggX0_init_X7_addNumber
theorem dX0_init_0 : decode cX0_init 0 = .ok (.aload_n 0, 1) := by decide +kernel
theorem dX0_init_1 : decode cX0_init 1 = .ok (.invokespecial 5, 3) := by decide +kernel
theorem dX0_init_4 : decode cX0_init 4 = .ok (.aload_n 0, 1) := by decide +kernel
theorem dX0_init_5 : decode cX0_init 5 = .ok (.new 11, 3) := by decide +kernel
theorem dX0_init_8 : decode cX0_init 8 = .ok (.dup, 1) := by decide +kernel
theorem dX0_init_9 : decode cX0_init 9 = .ok (.sipush 512, 3) := by decide +kernel
theorem dX0_init_12 : decode cX0_init 12 = .ok (.invokespecial 13, 3) := by decide +kernel
theorem dX0_init_15 : decode cX0_init 15 = .ok (.putfield 16, 3) := by decide +kernel
theorem dX0_init_18 : decode cX0_init 18 = .ok (.aload_n 0, 1) := by decide +kernel
theorem dX0_init_19 : decode cX0_init 19 = .ok (.bipush 32, 2) := by decide +kernel
theorem dX0_init_21 : decode cX0_init 21 = .ok (.newarray .boolean, 2) := by decide +kernel
theorem dX0_init_23 : decode cX0_init 23 = .ok (.putfield 20, 3) := by decide +kernel
theorem dX0_init_26 : decode cX0_init 26 = .ok (.aload_n 0, 1) := by decide +kernel
theorem dX0_init_27 : decode cX0_init 27 = .ok (.bipush 35, 2) := by decide +kernel
theorem dX0_init_29 : decode cX0_init 29 = .ok (.newarray .int, 2) := by decide +kernel
theorem dX0_init_31 : decode cX0_init 31 = .ok (.putfield 24, 3) := by decide +kernel
theorem dX0_init_34 : decode cX0_init 34 = .ok (.aload_n 0, 1) := by decide +kernel
theorem dX0_init_35 : decode cX0_init 35 = .ok (.new 11, 3) := by decide +kernel
theorem dX0_init_38 : decode cX0_init 38 = .ok (.dup, 1) := by decide +kernel
theorem dX0_init_39 : decode cX0_init 39 = .ok (.sipush 560, 3) := by decide +kernel
theorem dX0_init_42 : decode cX0_init 42 = .ok (.invokespecial 13, 3) := by decide +kernel
theorem dX0_init_45 : decode cX0_init 45 = .ok (.putfield 28, 3) := by decide +kernel
theorem dX0_init_48 : decode cX0_init 48 = .ok (.aload_n 0, 1) := by decide +kernel
theorem dX0_init_49 : decode cX0_init 49 = .ok (.aload_n 1, 1) := by decide +kernel
theorem dX0_init_50 : decode cX0_init 50 = .ok (.putfield 31, 3) := by decide +kernel
theorem dX0_init_53 : decode cX0_init 53 = .ok (.aload_n 0, 1) := by decide +kernel
theorem dX0_init_54 : decode cX0_init 54 = .ok (.aload_n 2, 1) := by decide +kernel
theorem dX0_init_55 : decode cX0_init 55 = .ok (.putfield 35, 3) := by decide +kernel
theorem dX0_init_58 : decode cX0_init 58 = .ok (.aload_n 0, 1) := by decide +kernel
theorem dX0_init_59 : decode cX0_init 59 = .ok (.getfield 16, 3) := by decide +kernel
theorem dX0_init_62 : decode cX0_init 62 = .ok (.lconst 0, 1) := by decide +kernel
theorem dX0_init_63 : decode cX0_init 63 = .ok (.sipush 512, 3) := by decide +kernel
theorem dX0_init_66 : decode cX0_init 66 = .ok (.invokevirtual 39, 3) := by decide +kernel
theorem dX0_init_69 : decode cX0_init 69 = .ok (.return_, 1) := by decide +kernel
set_option maxRecDepth 20000 in
theorem ggX10_init_X7_init : GoodIn wsX10_init wsX7_init := goodIn_r _ [41, 42, 2, 3, 43, 44, 45, 46, 47, 48, 146, 147] rfl (by decide +kernel)
set_option maxRecDepth 20000 in
theorem gX10_init_X7_init : GoodIn wsX10_init (wsX7_init) := ggX10_init_X7_init
set_option maxRecDepth 20000 in
theorem ggX10_init_X8_init : GoodIn wsX10_init wsX8_init := goodIn_r _ [51, 52, 2, 3, 53, 54, 55, 17, 56, 57, 58, 59, 60, 61, 62, 162, 163, 164, 165, 166, 167] rfl (by decide +kernel)
set_option maxRecDepth 20000 in
theorem gX10_init_X8_init : GoodIn wsX10_init (wsX8_init) := ggX10_init_X8_init
set_option maxRecDepth 20000 in
theorem ggX10_init_X5_init : GoodIn wsX10_init wsX5_init := goodIn_r _ [65, 66, 2, 3, 67, 5, 6, 68, 69, 70, 71, 72, 73, 74, 75, 76, 77, 78, 79, 80, 40, 41, 42, 43, 44, 45, 46, 47, 48, 81, 82, 83, 84, 85, 86, 87, 88, 89, 90, 91, 92, 93, 94, 146, 147, 168, 169, 170, 171, 172, 173, 174, 175, 196, 197, 198, 199] rfl (by decide +kernel)
set_option maxRecDepth 20000 in
theorem gX10_init_X5_init : GoodIn wsX10_init (wsX5_init) := ggX10_init_X5_init
set_option maxRecDepth 20000 in
theorem ggX10_init_X0_init : GoodIn wsX10_init wsX0_init := goodIn_r _ [97, 98, 2, 3, 99, 5, 6, 100, 101, 102, 83, 103, 104, 105, 106, 107, 40, 41, 42, 43, 44, 45, 46, 47, 48, 108, 109, 110, 111, 112, 146, 147, 176, 177, 178, 179, 180, 181] rfl (by decide +kernel)
set_option maxRecDepth 20000 in
theorem gX10_init_X0_init : GoodIn wsX10_init (wsX0_init) := ggX10_init_X0_init
set_option maxRecDepth 20000 in
theorem ggX10_init_X9_init : GoodIn wsX10_init wsX9_init := goodIn_r _ [115, 116, 2, 3, 117, 5, 6, 118, 119, 120, 121, 122, 40, 41, 42, 43, 44, 45, 46, 47, 48, 146, 147, 182, 183, 184, 185] rfl (by decide +kernel)
set_option maxRecDepth 20000 in
theorem gX10_init_X9_init : GoodIn wsX10_init (wsX9_init) := ggX10_init_X9_init
set_option maxRecDepth 20000 in
theorem ggX10_init_X1_init : GoodIn wsX10_init wsX1_init := goodIn_r _ [125, 126, 2, 3, 127, 5, 6, 128, 129, 130, 131, 132, 133, 40, 41, 42, 43, 44, 45, 46, 47, 48, 146, 147, 186, 187, 188, 189, 190] rfl (by decide +kernel)
set_option maxRecDepth 20000 in
theorem gX10_init_X1_init : GoodIn wsX10_init (wsX1_init) := ggX10_init_X1_init
set_option maxRecDepth 20000 in
theorem ggX10_init_X6_init : GoodIn wsX10_init wsX6_init := goodIn_r _ [136, 137, 2, 3, 138, 5, 6, 139, 140, 141, 142, 143, 144, 40, 41, 42, 43, 44, 45, 46, 47, 48, 146, 147, 191, 192, 193, 194, 195] rfl (by decide +kernel)
set_option maxRecDepth 20000 in
theorem gX10_init_X6_init : GoodIn wsX10_init (wsX6_init) := ggX10_init_X6_init
set_option maxRecDepth 20000 in
theorem ggX10_init_X7_addNumber : GoodIn wsX10_init wsX7_addNumber := goodIn_r _ [111, 112, 48, 146, 147] rfl (by decide +kernel)
set_option maxRecDepth 20000 in
theorem gX10_init_X7_addNumber : GoodIn wsX10_init (wsV RX10 91 RX7 yX7_addNumber wsX7_addNumber) := goodIn_app (goodIn_of _ (by decide +kernel)) ggX10_init_X7_addNumber
theorem dX10_init_0 : decode cX10_init 0 = .ok (.aload_n 0, 1) := by decide +kernel
theorem dX10_init_1 : decode cX10_init 1 = .ok (.invokespecial 3, 3) := by decide +kernel
theorem dX10_init_4 : decode cX10_init 4 = .ok (.aload_n 0, 1) := by decide +kernel
theorem dX10_init_5 : decode cX10_init 5 = .ok (.new 9, 3) := by decide +kernel
theorem dX10_init_8 : decode cX10_init 8 = .ok (.dup, 1) := by decide +kernel
theorem dX10_init_9 : decode cX10_init 9 = .ok (.sipush 600, 3) := by decide +kernel
theorem dX10_init_12 : decode cX10_init 12 = .ok (.invokespecial 11, 3) := by decide +kernel
theorem dX10_init_15 : decode cX10_init 15 = .ok (.putfield 14, 3) := by decide +kernel
theorem dX10_init_18 : decode cX10_init 18 = .ok (.aload_n 0, 1) := by decide +kernel
theorem dX10_init_19 : decode cX10_init 19 = .ok (.new 9, 3) := by decide +kernel
theorem dX10_init_22 : decode cX10_init 22 = .ok (.dup, 1) := by decide +kernel
theorem dX10_init_23 : decode cX10_init 23 = .ok (.bipush 32, 2) := by decide +kernel
theorem dX10_init_25 : decode cX10_init 25 = .ok (.invokespecial 11, 3) := by decide +kernel
theorem dX10_init_28 : decode cX10_init 28 = .ok (.putfield 18, 3) := by decide +kernel
theorem dX10_init_31 : decode cX10_init 31 = .ok (.aload_n 0, 1) := by decide +kernel
theorem dX10_init_32 : decode cX10_init 32 = .ok (.new 9, 3) := by decide +kernel
theorem dX10_init_35 : decode cX10_init 35 = .ok (.dup, 1) := by decide +kernel
theorem dX10_init_36 : decode cX10_init 36 = .ok (.bipush 48, 2) := by decide +kernel
theorem dX10_init_38 : decode cX10_init 38 = .ok (.invokespecial 11, 3) := by decide +kernel
theorem dX10_init_41 : decode cX10_init 41 = .ok (.putfield 21, 3) := by decide +kernel
theorem dX10_init_44 : decode cX10_init 44 = .ok (.aload_n 0, 1) := by decide +kernel
theorem dX10_init_45 : decode cX10_init 45 = .ok (.new 9, 3) := by decide +kernel
theorem dX10_init_48 : decode cX10_init 48 = .ok (.dup, 1) := by decide +kernel
theorem dX10_init_49 : decode cX10_init 49 = .ok (.bipush 16, 2) := by decide +kernel
theorem dX10_init_51 : decode cX10_init 51 = .ok (.invokespecial 11, 3) := by decide +kernel
theorem dX10_init_54 : decode cX10_init 54 = .ok (.putfield 24, 3) := by decide +kernel
theorem dX10_init_57 : decode cX10_init 57 = .ok (.aload_n 0, 1) := by decide +kernel
theorem dX10_init_58 : decode cX10_init 58 = .ok (.new 9, 3) := by decide +kernel
theorem dX10_init_61 : decode cX10_init 61 = .ok (.dup, 1) := by decide +kernel
theorem dX10_init_62 : decode cX10_init 62 = .ok (.bipush 16, 2) := by decide +kernel
theorem dX10_init_64 : decode cX10_init 64 = .ok (.invokespecial 11, 3) := by decide +kernel
theorem dX10_init_67 : decode cX10_init 67 = .ok (.putfield 27, 3) := by decide +kernel
theorem dX10_init_70 : decode cX10_init 70 = .ok (.aload_n 0, 1) := by decide +kernel
theorem dX10_init_71 : decode cX10_init 71 = .ok (.new 9, 3) := by decide +kernel
theorem dX10_init_74 : decode cX10_init 74 = .ok (.dup, 1) := by decide +kernel
theorem dX10_init_75 : decode cX10_init 75 = .ok (.sipush 1680, 3) := by decide +kernel
theorem dX10_init_78 : decode cX10_init 78 = .ok (.invokespecial 11, 3) := by decide +kernel
theorem dX10_init_81 : decode cX10_init 81 = .ok (.putfield 30, 3) := by decide +kernel
theorem dX10_init_84 : decode cX10_init 84 = .ok (.aload_n 0, 1) := by decide +kernel
theorem dX10_init_85 : decode cX10_init 85 = .ok (.new 9, 3) := by decide +kernel
theorem dX10_init_88 : decode cX10_init 88 = .ok (.dup, 1) := by decide +kernel
theorem dX10_init_89 : decode cX10_init 89 = .ok (.bipush 16, 2) := by decide +kernel
theorem dX10_init_91 : decode cX10_init 91 = .ok (.invokespecial 11, 3) := by decide +kernel
theorem dX10_init_94 : decode cX10_init 94 = .ok (.putfield 33, 3) := by decide +kernel
theorem dX10_init_97 : decode cX10_init 97 = .ok (.aload_n 0, 1) := by decide +kernel
theorem dX10_init_98 : decode cX10_init 98 = .ok (.new 9, 3) := by decide +kernel
theorem dX10_init_101 : decode cX10_init 101 = .ok (.dup, 1) := by decide +kernel
theorem dX10_init_102 : decode cX10_init 102 = .ok (.bipush 16, 2) := by decide +kernel
theorem dX10_init_104 : decode cX10_init 104 = .ok (.invokespecial 11, 3) := by decide +kernel
theorem dX10_init_107 : decode cX10_init 107 = .ok (.putfield 36, 3) := by decide +kernel
theorem dX10_init_110 : decode cX10_init 110 = .ok (.aload_n 0, 1) := by decide +kernel
theorem dX10_init_111 : decode cX10_init 111 = .ok (.new 39, 3) := by decide +kernel
theorem dX10_init_114 : decode cX10_init 114 = .ok (.dup, 1) := by decide +kernel
theorem dX10_init_115 : decode cX10_init 115 = .ok (.invokespecial 41, 3) := by decide +kernel
theorem dX10_init_118 : decode cX10_init 118 = .ok (.putfield 42, 3) := by decide +kernel
theorem dX10_init_121 : decode cX10_init 121 = .ok (.aload_n 0, 1) := by decide +kernel
theorem dX10_init_122 : decode cX10_init 122 = .ok (.new 46, 3) := by decide +kernel
theorem dX10_init_125 : decode cX10_init 125 = .ok (.dup, 1) := by decide +kernel
theorem dX10_init_126 : decode cX10_init 126 = .ok (.aload_n 0, 1) := by decide +kernel
theorem dX10_init_127 : decode cX10_init 127 = .ok (.getfield 42, 3) := by decide +kernel
theorem dX10_init_130 : decode cX10_init 130 = .ok (.aload_n 0, 1) := by decide +kernel
theorem dX10_init_131 : decode cX10_init 131 = .ok (.getfield 21, 3) := by decide +kernel
theorem dX10_init_134 : decode cX10_init 134 = .ok (.invokespecial 48, 3) := by decide +kernel
theorem dX10_init_137 : decode cX10_init 137 = .ok (.putfield 51, 3) := by decide +kernel
theorem dX10_init_140 : decode cX10_init 140 = .ok (.aload_n 0, 1) := by decide +kernel
theorem dX10_init_141 : decode cX10_init 141 = .ok (.new 55, 3) := by decide +kernel
theorem dX10_init_144 : decode cX10_init 144 = .ok (.dup, 1) := by decide +kernel
theorem dX10_init_145 : decode cX10_init 145 = .ok (.aload_n 0, 1) := by decide +kernel
theorem dX10_init_146 : decode cX10_init 146 = .ok (.getfield 42, 3) := by decide +kernel
theorem dX10_init_149 : decode cX10_init 149 = .ok (.aload_n 0, 1) := by decide +kernel
theorem dX10_init_150 : decode cX10_init 150 = .ok (.getfield 51, 3) := by decide +kernel
theorem dX10_init_153 : decode cX10_init 153 = .ok (.invokespecial 57, 3) := by decide +kernel
theorem dX10_init_156 : decode cX10_init 156 = .ok (.putfield 60, 3) := by decide +kernel
theorem dX10_init_159 : decode cX10_init 159 = .ok (.aload_n 0, 1) := by decide +kernel
theorem dX10_init_160 : decode cX10_init 160 = .ok (.new 64, 3) := by decide +kernel
theorem dX10_init_163 : decode cX10_init 163 = .ok (.dup, 1) := by decide +kernel
theorem dX10_init_164 : decode cX10_init 164 = .ok (.aload_n 0, 1) := by decide +kernel
theorem dX10_init_165 : decode cX10_init 165 = .ok (.getfield 42, 3) := by decide +kernel
theorem dX10_init_168 : decode cX10_init 168 = .ok (.aload_n 0, 1) := by decide +kernel
theorem dX10_init_169 : decode cX10_init 169 = .ok (.getfield 51, 3) := by decide +kernel
theorem dX10_init_172 : decode cX10_init 172 = .ok (.aload_n 0, 1) := by decide +kernel
theorem dX10_init_173 : decode cX10_init 173 = .ok (.getfield 60, 3) := by decide +kernel
theorem dX10_init_176 : decode cX10_init 176 = .ok (.invokespecial 66, 3) := by decide +kernel
theorem dX10_init_179 : decode cX10_init 179 = .ok (.putfield 69, 3) := by decide +kernel
theorem dX10_init_182 : decode cX10_init 182 = .ok (.aload_n 0, 1) := by decide +kernel
theorem dX10_init_183 : decode cX10_init 183 = .ok (.new 73, 3) := by decide +kernel
theorem dX10_init_186 : decode cX10_init 186 = .ok (.dup, 1) := by decide +kernel
theorem dX10_init_187 : decode cX10_init 187 = .ok (.aload_n 0, 1) := by decide +kernel
theorem dX10_init_188 : decode cX10_init 188 = .ok (.getfield 42, 3) := by decide +kernel
theorem dX10_init_191 : decode cX10_init 191 = .ok (.aload_n 0, 1) := by decide +kernel
theorem dX10_init_192 : decode cX10_init 192 = .ok (.getfield 51, 3) := by decide +kernel
theorem dX10_init_195 : decode cX10_init 195 = .ok (.aload_n 0, 1) := by decide +kernel
theorem dX10_init_196 : decode cX10_init 196 = .ok (.getfield 69, 3) := by decide +kernel
theorem dX10_init_199 : decode cX10_init 199 = .ok (.invokespecial 75, 3) := by decide +kernel
theorem dX10_init_202 : decode cX10_init 202 = .ok (.putfield 78, 3) := by decide +kernel
theorem dX10_init_205 : decode cX10_init 205 = .ok (.aload_n 0, 1) := by decide +kernel
theorem dX10_init_206 : decode cX10_init 206 = .ok (.new 82, 3) := by decide +kernel
theorem dX10_init_209 : decode cX10_init 209 = .ok (.dup, 1) := by decide +kernel
theorem dX10_init_210 : decode cX10_init 210 = .ok (.aload_n 0, 1) := by decide +kernel
theorem dX10_init_211 : decode cX10_init 211 = .ok (.getfield 42, 3) := by decide +kernel
theorem dX10_init_214 : decode cX10_init 214 = .ok (.aload_n 0, 1) := by decide +kernel
theorem dX10_init_215 : decode cX10_init 215 = .ok (.getfield 21, 3) := by decide +kernel
theorem dX10_init_218 : decode cX10_init 218 = .ok (.aload_n 0, 1) := by decide +kernel
theorem dX10_init_219 : decode cX10_init 219 = .ok (.getfield 51, 3) := by decide +kernel
theorem dX10_init_222 : decode cX10_init 222 = .ok (.invokespecial 84, 3) := by decide +kernel
theorem dX10_init_225 : decode cX10_init 225 = .ok (.putfield 87, 3) := by decide +kernel
theorem dX10_init_228 : decode cX10_init 228 = .ok (.aload_n 0, 1) := by decide +kernel
theorem dX10_init_229 : decode cX10_init 229 = .ok (.getfield 21, 3) := by decide +kernel
theorem dX10_init_232 : decode cX10_init 232 = .ok (.lconst 0, 1) := by decide +kernel
theorem dX10_init_233 : decode cX10_init 233 = .ok (.bipush 48, 2) := by decide +kernel
theorem dX10_init_235 : decode cX10_init 235 = .ok (.invokevirtual 91, 3) := by decide +kernel
theorem dX10_init_238 : decode cX10_init 238 = .ok (.return_, 1) := by decide +kernel
set_option maxHeartbeats 4000000 in
set_option maxRecDepth 100000 in
/-- new Row -/
theorem i_Row (l : Launch) (g : jG) (r : Nat) (n : Nat) (hn : n ≤ 2000) : jN l g yX7_init wsX7_init ({ frames := 1, cells := 1, slots := n, locals := 21 } : Room) [.ref r, .int (nI n)] [oB r 7 [.null, .int (nI 0)]] (fun jj : Nat => True) (fun jj : Nat => [oB r 7 [.ref jj, .int (nI 0)], bA g jj n (fun _ => 0)]) 1 n := by
  refine jN.of (cc := cX7_init) (own := RX7) (maxL := 2) (by decide +kernel) rfl rfl rfl (Nat.le_of_ble_eq_true rfl) ?_
  intro p e s m below meth c A Q hin hNW hX hret
  have in7 : ∀ w ∈ wsX70, w ∈ wsX7_init := (fun w h => List.mem_cons_of_mem _ (List.mem_append_right _ h))
  refine j_aload_n hX 0 dX7_init_0 rfl ?_
  refine j_objInit hX (List.mem_of_getElem? (i := 1) rfl) (List.mem_of_getElem? (i := 2) rfl) (List.mem_of_getElem? (i := 3) rfl) (Nat.le_of_ble_eq_true rfl) (Nat.le_of_ble_eq_true rfl) dX7_init_1 ?_
  refine j_aload_n hX 0 dX7_init_4 rfl ?_
  refine j_iload_n hX 1 dX7_init_5 rfl ?_
  refine j_iconst hX (0) dX7_init_6 (by decide) ?_
  refine j_mmax hX (List.mem_of_getElem? (i := 4) rfl) (List.mem_of_getElem? (i := 5) rfl) (List.mem_of_getElem? (i := 6) rfl) (List.mem_of_getElem? (i := 7) rfl) (Nat.le_of_ble_eq_true rfl) (Nat.le_of_ble_eq_true rfl) ⟨Nat.zero_le _, Nat.zero_le _⟩ dX7_init_7 ?_
  refine j_topeq _ (nI n) (if_neg (nI_pos (by omega))) ?_
  refine j_newa hX (ty := .byte) (n := n) (a0 := (n, .inl (fun _ => 0))) 0 rfl (fun _ _ => rfl) (List.mem_of_getElem? (i := 8) rfl) rfl (fun _ => rfl) (by omega) (by show n * 1 ≤ _; omega) (Nat.le_of_ble_eq_true rfl) (Nat.le_of_eq (Nat.zero_add n)) dX7_init_10 (fun a_1 => ?_)
  refine j_w [oB r 7 [.null, .int (nI 0)], bA g a_1 n (fun _ => 0)] rfl ?_
  refine j_pc 12 rfl ?_
  refine j_putF hX hin (v := .ref a_1) in7 tyX7 tyX7_ok nmX7 7 0 0 rfl rfl (by decide) (List.mem_of_getElem? (i := 9) rfl) rfl rfl rfl rfl rfl rfl (Nat.le_of_ble_eq_true rfl) [oB r 7 [.ref a_1, .int (nI 0)], bA g a_1 n (fun _ => 0)] rfl dX7_init_12 ?_
  refine j_widen 1 n (by omega) (by omega) ?_
  exact hret (a_1) trivial 15 _ dX7_init_15

set_option maxHeartbeats 4000000 in
set_option maxRecDepth 100000 in
/-- new Hash -/
theorem i_Hash (l : Launch) (g : jG) (r : Nat)  : jN l g yX2_init wsX2_init ({ frames := 1, cells := 0, slots := 0, locals := 12 } : Room) [.ref r] [] (fun jj : Unit => True) (fun jj : Unit => []) 0 0 := by
  refine jN.of (cc := cX2_init) (own := RX2) (maxL := 1) (by decide +kernel) rfl rfl rfl (Nat.le_of_ble_eq_true rfl) ?_
  intro p e s m below meth c A Q hin hNW hX hret
  refine j_aload_n hX 0 dX2_init_0 rfl ?_
  refine j_objInit hX (List.mem_of_getElem? (i := 1) rfl) (List.mem_of_getElem? (i := 2) rfl) (List.mem_of_getElem? (i := 3) rfl) (Nat.le_of_ble_eq_true rfl) (Nat.le_of_ble_eq_true rfl) dX2_init_1 ?_
  exact hret () trivial 4 _ dX2_init_4

set_option maxHeartbeats 4000000 in
set_option maxRecDepth 100000 in
/-- new HashOne -/
theorem i_HashOne (l : Launch) (g : jG) (on : Nat)  : jN l g yX3_init wsX3_init ({ frames := 2, cells := 2, slots := 50, locals := 32 } : Room) [.ref on] [oB on 3 [.null, .null]] (fun jj : Nat × Nat => True) (fun jj : Nat × Nat => [oB on 3 [.ref jj.1, .ref jj.2], lA g jj.1 25 (fun _ => 0), lA g jj.2 25 (fun _ => 0)]) 2 50 := by
  refine jN.of (cc := cX3_init) (own := RX3) (maxL := 1) (by decide +kernel) rfl rfl rfl (Nat.le_of_ble_eq_true rfl) ?_
  intro p e s m below meth c A Q hin hNW hX hret
  have in3 : ∀ w ∈ wsX30, w ∈ wsX3_init := (fun w h => List.mem_cons_of_mem _ (List.mem_append_right _ h))
  refine j_aload_n hX 0 dX3_init_0 rfl ?_
  refine j_callIN hX 0 hNW (i_Hash l g on ) gX3_init_X2_init_n3 (List.mem_of_getElem? (i := 5) rfl) hNW.1.1 (List.mem_of_getElem? (i := 4) rfl) rfl (by decide +kernel) rfl ⟨rfl, rfl⟩ ⟨Nat.le_of_ble_eq_true rfl, Nat.le_of_ble_eq_true rfl⟩ [] [0] rfl (by decide) [oB on 3 [.null, .null]] rfl (by decide) (by decide) rfl [] rfl (Nat.le_of_ble_eq_true rfl) ⟨Nat.le_of_ble_eq_true rfl, Nat.le_of_ble_eq_true rfl⟩ dX3_init_1 ?_
  intro _ hu_1
  refine j_w [oB on 3 [.null, .null]] rfl ?_
  refine j_aload_n hX 0 dX3_init_4 rfl ?_
  refine j_bipush hX (25) dX3_init_5 (by decide) ?_
  refine j_st [.int (nI 25), .ref on] rfl ?_
  refine j_newa hX (ty := .long) (n := 25) (a0 := (25, .inr (.inl (fun _ => 0)))) 2 rfl (fun _ _ => rfl) (List.mem_of_getElem? (i := 1) rfl) rfl (fun _ => rfl) (by decide) (by decide) (Nat.le_of_ble_eq_true rfl) (Nat.le_of_ble_eq_true rfl) dX3_init_7 (fun a_2 => ?_)
  refine j_w [oB on 3 [.null, .null], lA g a_2 25 (fun _ => 0)] rfl ?_
  refine j_putF hX hin (v := .ref a_2) in3 tyX3 tyX3_ok nmX3 3 0 0 rfl rfl (by decide) (List.mem_of_getElem? (i := 2) rfl) rfl rfl rfl rfl rfl rfl (Nat.le_of_ble_eq_true rfl) [oB on 3 [.ref a_2, .null], lA g a_2 25 (fun _ => 0)] rfl dX3_init_9 ?_
  refine j_aload_n hX 0 dX3_init_12 rfl ?_
  refine j_pc 13 rfl ?_
  refine j_bipush hX (25) dX3_init_13 (by decide) ?_
  refine j_st [.int (nI 25), .ref on] rfl ?_
  refine j_newa hX (ty := .long) (n := 25) (a0 := (25, .inr (.inl (fun _ => 0)))) 2 rfl (fun _ _ => rfl) (List.mem_of_getElem? (i := 1) rfl) rfl (fun _ => rfl) (by decide) (by decide) (Nat.le_of_ble_eq_true rfl) (Nat.le_of_ble_eq_true rfl) dX3_init_15 (fun a_3 => ?_)
  refine j_w [oB on 3 [.ref a_2, .null], lA g a_2 25 (fun _ => 0), lA g a_3 25 (fun _ => 0)] rfl ?_
  refine j_putF hX hin (v := .ref a_3) in3 tyX3 tyX3_ok nmX3 3 0 1 rfl rfl (by decide) (List.mem_of_getElem? (i := 3) rfl) rfl rfl rfl rfl rfl rfl (Nat.le_of_ble_eq_true rfl) [oB on 3 [.ref a_2, .ref a_3], lA g a_2 25 (fun _ => 0), lA g a_3 25 (fun _ => 0)] rfl dX3_init_17 ?_
  exact hret (a_2, a_3) trivial 20 _ dX3_init_20

set_option maxHeartbeats 4000000 in
set_option maxRecDepth 100000 in
/-- new HashZero -/
theorem i_HashZero (l : Launch) (g : jG) (zo : Nat)  : jN l g yX4_init wsX4_init ({ frames := 2, cells := 2, slots := 72, locals := 32 } : Room) [.ref zo] [oB zo 4 [.null, .null]] (fun jj : Nat × Nat => True) (fun jj : Nat × Nat => [oB zo 4 [.ref jj.1, .ref jj.2], iA g jj.1 8 (fun _ => 0), iA g jj.2 64 (fun _ => 0)]) 2 72 := by
  refine jN.of (cc := cX4_init) (own := RX4) (maxL := 1) (by decide +kernel) rfl rfl rfl (Nat.le_of_ble_eq_true rfl) ?_
  intro p e s m below meth c A Q hin hNW hX hret
  have in4 : ∀ w ∈ wsX40, w ∈ wsX4_init := (fun w h => List.mem_cons_of_mem _ (List.mem_append_right _ h))
  refine j_aload_n hX 0 dX4_init_0 rfl ?_
  refine j_callIN hX 0 hNW (i_Hash l g zo ) gX4_init_X2_init_n1 (List.mem_of_getElem? (i := 5) rfl) hNW.1.2 (List.mem_of_getElem? (i := 4) rfl) rfl (by decide +kernel) rfl ⟨rfl, rfl⟩ ⟨Nat.le_of_ble_eq_true rfl, Nat.le_of_ble_eq_true rfl⟩ [] [0] rfl (by decide) [oB zo 4 [.null, .null]] rfl (by decide) (by decide) rfl [] rfl (Nat.le_of_ble_eq_true rfl) ⟨Nat.le_of_ble_eq_true rfl, Nat.le_of_ble_eq_true rfl⟩ dX4_init_1 ?_
  intro _ hu_1
  refine j_w [oB zo 4 [.null, .null]] rfl ?_
  refine j_aload_n hX 0 dX4_init_4 rfl ?_
  refine j_bipush hX (8) dX4_init_5 (by decide) ?_
  refine j_st [.int (nI 8), .ref zo] rfl ?_
  refine j_newa hX (ty := .int) (n := 8) (a0 := (8, .inl (fun _ => 0))) 1 rfl (fun _ _ => rfl) (List.mem_of_getElem? (i := 1) rfl) rfl (fun _ => rfl) (by decide) (by decide) (Nat.le_of_ble_eq_true rfl) (Nat.le_of_ble_eq_true rfl) dX4_init_7 (fun a_2 => ?_)
  refine j_w [oB zo 4 [.null, .null], iA g a_2 8 (fun _ => 0)] rfl ?_
  refine j_putF hX hin (v := .ref a_2) in4 tyX4 tyX4_ok nmX4 4 0 0 rfl rfl (by decide) (List.mem_of_getElem? (i := 2) rfl) rfl rfl rfl rfl rfl rfl (Nat.le_of_ble_eq_true rfl) [oB zo 4 [.ref a_2, .null], iA g a_2 8 (fun _ => 0)] rfl dX4_init_9 ?_
  refine j_aload_n hX 0 dX4_init_12 rfl ?_
  refine j_pc 13 rfl ?_
  refine j_bipush hX (64) dX4_init_13 (by decide) ?_
  refine j_st [.int (nI 64), .ref zo] rfl ?_
  refine j_newa hX (ty := .int) (n := 64) (a0 := (64, .inl (fun _ => 0))) 1 rfl (fun _ _ => rfl) (List.mem_of_getElem? (i := 1) rfl) rfl (fun _ => rfl) (by decide) (by decide) (Nat.le_of_ble_eq_true rfl) (Nat.le_of_ble_eq_true rfl) dX4_init_15 (fun a_3 => ?_)
  refine j_w [oB zo 4 [.ref a_2, .null], iA g a_2 8 (fun _ => 0), iA g a_3 64 (fun _ => 0)] rfl ?_
  refine j_putF hX hin (v := .ref a_3) in4 tyX4 tyX4_ok nmX4 4 0 1 rfl rfl (by decide) (List.mem_of_getElem? (i := 3) rfl) rfl rfl rfl rfl rfl rfl (Nat.le_of_ble_eq_true rfl) [oB zo 4 [.ref a_2, .ref a_3], iA g a_2 8 (fun _ => 0), iA g a_3 64 (fun _ => 0)] rfl dX4_init_17 ?_
  exact hret (a_2, a_3) trivial 20 _ dX4_init_20

set_option maxHeartbeats 4000000 in
set_option maxRecDepth 100000 in
/-- new Hasher -/
theorem i_Hasher (l : Launch) (g : jG) (hh : Nat) (sp : Nat) (sdr : Nat)  : jN l g yX5_init wsX5_init ({ frames := 3, cells := 10, slots := 930, locals := 52 } : Room) [.ref hh, .ref sp, .ref sdr] [oB hh 5 [.null, .null, .null, .null, .null, .null, .int (nI 0), .int (nI 0)]] (fun jj : Nat × Nat × Nat × Nat × Nat × Nat × Nat × Nat × Nat × Nat => True) (fun jj : Nat × Nat × Nat × Nat × Nat × Nat × Nat × Nat × Nat × Nat => [oB hh 5 [.ref jj.1, .ref jj.2.2.1, .ref jj.2.2.2.2.1, .ref jj.2.2.2.2.2.2.2.1, .ref sp, .ref sdr, .int (nI 0), .int (nI 0)], oB jj.1 7 [.ref jj.2.1, .int (nI 0)], bA g jj.2.1 768 (fun _ => 0), oB jj.2.2.1 7 [.ref jj.2.2.2.1, .int (nI 0)], bA g jj.2.2.2.1 32 (fun _ => 0), oB jj.2.2.2.2.1 4 [.ref jj.2.2.2.2.2.1, .ref jj.2.2.2.2.2.2.1], iA g jj.2.2.2.2.2.1 8 (fun _ => 0), iA g jj.2.2.2.2.2.2.1 64 (fun _ => 0), oB jj.2.2.2.2.2.2.2.1 3 [.ref jj.2.2.2.2.2.2.2.2.1, .ref jj.2.2.2.2.2.2.2.2.2], lA g jj.2.2.2.2.2.2.2.2.1 25 (fun _ => 0), lA g jj.2.2.2.2.2.2.2.2.2 25 (fun _ => 0)]) 10 930 := by
  refine jN.of (cc := cX5_init) (own := RX5) (maxL := 3) (by decide +kernel) rfl rfl rfl (Nat.le_of_ble_eq_true rfl) ?_
  intro p e s m below meth c A Q hin hNW hX hret
  have in3 : ∀ w ∈ wsX30, w ∈ wsX5_init := (fun w h => List.mem_cons_of_mem _ (List.mem_append_right _ h))
  have in4 : ∀ w ∈ wsX40, w ∈ wsX5_init := (fun w h => List.mem_cons_of_mem _ (List.mem_append_left _ (List.mem_append_right _ h)))
  have in5 : ∀ w ∈ wsX50, w ∈ wsX5_init := (fun w h => List.mem_cons_of_mem _ (List.mem_append_left _ (List.mem_append_left _ (List.mem_append_right _ h))))
  have in7 : ∀ w ∈ wsX70, w ∈ wsX5_init := (fun w h => List.mem_cons_of_mem _ (List.mem_append_left _ (List.mem_append_left _ (List.mem_append_left _ (List.mem_append_right _ h)))))
  refine j_aload_n hX 0 dX5_init_0 rfl ?_
  refine j_objInit hX (List.mem_of_getElem? (i := 1) rfl) (List.mem_of_getElem? (i := 2) rfl) (List.mem_of_getElem? (i := 3) rfl) (Nat.le_of_ble_eq_true rfl) (Nat.le_of_ble_eq_true rfl) dX5_init_1 ?_
  refine j_aload_n hX 0 dX5_init_4 rfl ?_
  refine j_new hX (ci := 7) (fs := [.null, .int (nI 0)]) in7 tyX7 tyX7_ok (List.mem_of_getElem? (i := 4) rfl) (List.mem_of_getElem? (i := 5) rfl) (List.mem_of_getElem? (i := 6) rfl) rfl (fun j hj => by rcases (show j = 0 ∨ j = 1 by omega) with rfl | rfl <;> rfl) (Nat.le_of_ble_eq_true rfl) (Nat.le_of_ble_eq_true rfl) dX5_init_5 (fun a_1 => ?_)
  refine j_w [oB hh 5 [.null, .null, .null, .null, .null, .null, .int (nI 0), .int (nI 0)], oB a_1 7 [.null, .int (nI 0)]] rfl ?_
  refine j_dup hX dX5_init_8 rfl ?_
  refine j_sipush hX (768) dX5_init_9 (by decide) ?_
  refine j_callI hX 1 hNW (i_Row l g a_1 768 (by omega)) gX5_init_X7_init (List.mem_of_getElem? (i := 6) rfl) (List.mem_of_getElem? (i := 19) rfl) (List.mem_of_getElem? (i := 20) rfl) rfl (by decide +kernel) rfl ⟨rfl, rfl⟩ ⟨Nat.le_of_ble_eq_true rfl, Nat.le_of_ble_eq_true rfl⟩ [1] [0] rfl (by decide) [oB hh 5 [.null, .null, .null, .null, .null, .null, .int (nI 0), .int (nI 0)]] rfl (by decide) (by decide) rfl [.ref a_1, .ref hh] rfl (Nat.le_of_ble_eq_true rfl) ⟨Nat.le_of_ble_eq_true rfl, Nat.le_of_ble_eq_true rfl⟩ dX5_init_12 ?_
  intro a_2 hu_3
  refine j_w [oB hh 5 [.null, .null, .null, .null, .null, .null, .int (nI 0), .int (nI 0)], oB a_1 7 [.ref a_2, .int (nI 0)], bA g a_2 768 (fun _ => 0)] rfl ?_
  refine j_pc 15 rfl ?_
  refine j_putF hX hin (v := .ref a_1) in5 tyX5 tyX5_ok nmX5 5 0 0 rfl rfl (by decide) (List.mem_of_getElem? (i := 7) rfl) rfl rfl rfl rfl rfl rfl (Nat.le_of_ble_eq_true rfl) [oB hh 5 [.ref a_1, .null, .null, .null, .null, .null, .int (nI 0), .int (nI 0)], oB a_1 7 [.ref a_2, .int (nI 0)], bA g a_2 768 (fun _ => 0)] rfl dX5_init_15 ?_
  refine j_aload_n hX 0 dX5_init_18 rfl ?_
  refine j_new hX (ci := 7) (fs := [.null, .int (nI 0)]) in7 tyX7 tyX7_ok (List.mem_of_getElem? (i := 4) rfl) (List.mem_of_getElem? (i := 5) rfl) (List.mem_of_getElem? (i := 6) rfl) rfl (fun j hj => by rcases (show j = 0 ∨ j = 1 by omega) with rfl | rfl <;> rfl) (Nat.le_of_ble_eq_true rfl) (Nat.le_of_ble_eq_true rfl) dX5_init_19 (fun a_4 => ?_)
  refine j_w [oB hh 5 [.ref a_1, .null, .null, .null, .null, .null, .int (nI 0), .int (nI 0)], oB a_1 7 [.ref a_2, .int (nI 0)], bA g a_2 768 (fun _ => 0), oB a_4 7 [.null, .int (nI 0)]] rfl ?_
  refine j_dup hX dX5_init_22 rfl ?_
  refine j_bipush hX (32) dX5_init_23 (by decide) ?_
  refine j_callI hX 1 hNW (i_Row l g a_4 32 (by omega)) gX5_init_X7_init (List.mem_of_getElem? (i := 6) rfl) (List.mem_of_getElem? (i := 19) rfl) (List.mem_of_getElem? (i := 20) rfl) rfl (by decide +kernel) rfl ⟨rfl, rfl⟩ ⟨Nat.le_of_ble_eq_true rfl, Nat.le_of_ble_eq_true rfl⟩ [3] [0, 1, 2] rfl (by decide) [oB hh 5 [.ref a_1, .null, .null, .null, .null, .null, .int (nI 0), .int (nI 0)], oB a_1 7 [.ref a_2, .int (nI 0)], bA g a_2 768 (fun _ => 0)] rfl (by decide) (by decide) rfl [.ref a_4, .ref hh] rfl (Nat.le_of_ble_eq_true rfl) ⟨Nat.le_of_ble_eq_true rfl, Nat.le_of_ble_eq_true rfl⟩ dX5_init_25 ?_
  intro a_5 hu_6
  refine j_w [oB hh 5 [.ref a_1, .null, .null, .null, .null, .null, .int (nI 0), .int (nI 0)], oB a_1 7 [.ref a_2, .int (nI 0)], bA g a_2 768 (fun _ => 0), oB a_4 7 [.ref a_5, .int (nI 0)], bA g a_5 32 (fun _ => 0)] rfl ?_
  refine j_putF hX hin (v := .ref a_4) in5 tyX5 tyX5_ok nmX5 5 0 1 rfl rfl (by decide) (List.mem_of_getElem? (i := 8) rfl) rfl rfl rfl rfl rfl rfl (Nat.le_of_ble_eq_true rfl) [oB hh 5 [.ref a_1, .ref a_4, .null, .null, .null, .null, .int (nI 0), .int (nI 0)], oB a_1 7 [.ref a_2, .int (nI 0)], bA g a_2 768 (fun _ => 0), oB a_4 7 [.ref a_5, .int (nI 0)], bA g a_5 32 (fun _ => 0)] rfl dX5_init_28 ?_
  refine j_aload_n hX 0 dX5_init_31 rfl ?_
  refine j_pc 32 rfl ?_
  refine j_new hX (ci := 4) (fs := [.null, .null]) in4 tyX4 tyX4_ok (List.mem_of_getElem? (i := 9) rfl) (List.mem_of_getElem? (i := 10) rfl) (List.mem_of_getElem? (i := 11) rfl) rfl (fun j hj => by rcases (show j = 0 ∨ j = 1 by omega) with rfl | rfl <;> rfl) (Nat.le_of_ble_eq_true rfl) (Nat.le_of_ble_eq_true rfl) dX5_init_32 (fun a_7 => ?_)
  refine j_w [oB hh 5 [.ref a_1, .ref a_4, .null, .null, .null, .null, .int (nI 0), .int (nI 0)], oB a_1 7 [.ref a_2, .int (nI 0)], bA g a_2 768 (fun _ => 0), oB a_4 7 [.ref a_5, .int (nI 0)], bA g a_5 32 (fun _ => 0), oB a_7 4 [.null, .null]] rfl ?_
  refine j_dup hX dX5_init_35 rfl ?_
  refine j_callIN hX 0 hNW (i_HashZero l g a_7 ) gX5_init_X4_init_n25 (List.mem_of_getElem? (i := 11) rfl) hNW.2.1 (List.mem_of_getElem? (i := 29) rfl) rfl (by decide +kernel) rfl ⟨rfl, rfl⟩ ⟨Nat.le_of_ble_eq_true rfl, Nat.le_of_ble_eq_true rfl⟩ [5] [0, 1, 2, 3, 4] rfl (by decide) [oB hh 5 [.ref a_1, .ref a_4, .null, .null, .null, .null, .int (nI 0), .int (nI 0)], oB a_1 7 [.ref a_2, .int (nI 0)], bA g a_2 768 (fun _ => 0), oB a_4 7 [.ref a_5, .int (nI 0)], bA g a_5 32 (fun _ => 0)] rfl (by decide) (by decide) rfl [.ref a_7, .ref hh] rfl (Nat.le_of_ble_eq_true rfl) ⟨Nat.le_of_ble_eq_true rfl, Nat.le_of_ble_eq_true rfl⟩ dX5_init_36 ?_
  rintro ⟨a_8, a_9⟩ hu_10
  refine j_w [oB hh 5 [.ref a_1, .ref a_4, .null, .null, .null, .null, .int (nI 0), .int (nI 0)], oB a_1 7 [.ref a_2, .int (nI 0)], bA g a_2 768 (fun _ => 0), oB a_4 7 [.ref a_5, .int (nI 0)], bA g a_5 32 (fun _ => 0), oB a_7 4 [.ref a_8, .ref a_9], iA g a_8 8 (fun _ => 0), iA g a_9 64 (fun _ => 0)] rfl ?_
  refine j_putF hX hin (v := .ref a_7) in5 tyX5 tyX5_ok nmX5 5 0 2 rfl rfl (by decide) (List.mem_of_getElem? (i := 12) rfl) rfl rfl rfl rfl rfl rfl (Nat.le_of_ble_eq_true rfl) [oB hh 5 [.ref a_1, .ref a_4, .ref a_7, .null, .null, .null, .int (nI 0), .int (nI 0)], oB a_1 7 [.ref a_2, .int (nI 0)], bA g a_2 768 (fun _ => 0), oB a_4 7 [.ref a_5, .int (nI 0)], bA g a_5 32 (fun _ => 0), oB a_7 4 [.ref a_8, .ref a_9], iA g a_8 8 (fun _ => 0), iA g a_9 64 (fun _ => 0)] rfl dX5_init_39 ?_
  refine j_aload_n hX 0 dX5_init_42 rfl ?_
  refine j_new hX (ci := 3) (fs := [.null, .null]) in3 tyX3 tyX3_ok (List.mem_of_getElem? (i := 13) rfl) (List.mem_of_getElem? (i := 14) rfl) (List.mem_of_getElem? (i := 15) rfl) rfl (fun j hj => by rcases (show j = 0 ∨ j = 1 by omega) with rfl | rfl <;> rfl) (Nat.le_of_ble_eq_true rfl) (Nat.le_of_ble_eq_true rfl) dX5_init_43 (fun a_11 => ?_)
  refine j_w [oB hh 5 [.ref a_1, .ref a_4, .ref a_7, .null, .null, .null, .int (nI 0), .int (nI 0)], oB a_1 7 [.ref a_2, .int (nI 0)], bA g a_2 768 (fun _ => 0), oB a_4 7 [.ref a_5, .int (nI 0)], bA g a_5 32 (fun _ => 0), oB a_7 4 [.ref a_8, .ref a_9], iA g a_8 8 (fun _ => 0), iA g a_9 64 (fun _ => 0), oB a_11 3 [.null, .null]] rfl ?_
  refine j_dup hX dX5_init_46 rfl ?_
  refine j_callIN hX 0 hNW (i_HashOne l g a_11 ) gX5_init_X3_init_n32 (List.mem_of_getElem? (i := 15) rfl) hNW.2.2 (List.mem_of_getElem? (i := 38) rfl) rfl (by decide +kernel) rfl ⟨rfl, rfl⟩ ⟨Nat.le_of_ble_eq_true rfl, Nat.le_of_ble_eq_true rfl⟩ [8] [0, 1, 2, 3, 4, 5, 6, 7] rfl (by decide) [oB hh 5 [.ref a_1, .ref a_4, .ref a_7, .null, .null, .null, .int (nI 0), .int (nI 0)], oB a_1 7 [.ref a_2, .int (nI 0)], bA g a_2 768 (fun _ => 0), oB a_4 7 [.ref a_5, .int (nI 0)], bA g a_5 32 (fun _ => 0), oB a_7 4 [.ref a_8, .ref a_9], iA g a_8 8 (fun _ => 0), iA g a_9 64 (fun _ => 0)] rfl (by decide) (by decide) rfl [.ref a_11, .ref hh] rfl (Nat.le_of_ble_eq_true rfl) ⟨Nat.le_of_ble_eq_true rfl, Nat.le_of_ble_eq_true rfl⟩ dX5_init_47 ?_
  rintro ⟨a_12, a_13⟩ hu_14
  refine j_w [oB hh 5 [.ref a_1, .ref a_4, .ref a_7, .null, .null, .null, .int (nI 0), .int (nI 0)], oB a_1 7 [.ref a_2, .int (nI 0)], bA g a_2 768 (fun _ => 0), oB a_4 7 [.ref a_5, .int (nI 0)], bA g a_5 32 (fun _ => 0), oB a_7 4 [.ref a_8, .ref a_9], iA g a_8 8 (fun _ => 0), iA g a_9 64 (fun _ => 0), oB a_11 3 [.ref a_12, .ref a_13], lA g a_12 25 (fun _ => 0), lA g a_13 25 (fun _ => 0)] rfl ?_
  refine j_pc 50 rfl ?_
  refine j_putF hX hin (v := .ref a_11) in5 tyX5 tyX5_ok nmX5 5 0 3 rfl rfl (by decide) (List.mem_of_getElem? (i := 16) rfl) rfl rfl rfl rfl rfl rfl (Nat.le_of_ble_eq_true rfl) [oB hh 5 [.ref a_1, .ref a_4, .ref a_7, .ref a_11, .null, .null, .int (nI 0), .int (nI 0)], oB a_1 7 [.ref a_2, .int (nI 0)], bA g a_2 768 (fun _ => 0), oB a_4 7 [.ref a_5, .int (nI 0)], bA g a_5 32 (fun _ => 0), oB a_7 4 [.ref a_8, .ref a_9], iA g a_8 8 (fun _ => 0), iA g a_9 64 (fun _ => 0), oB a_11 3 [.ref a_12, .ref a_13], lA g a_12 25 (fun _ => 0), lA g a_13 25 (fun _ => 0)] rfl dX5_init_50 ?_
  refine j_aload_n hX 0 dX5_init_53 rfl ?_
  refine j_aload_n hX 1 dX5_init_54 rfl ?_
  refine j_putF hX hin (v := .ref sp) in5 tyX5 tyX5_ok nmX5 5 0 4 rfl rfl (by decide) (List.mem_of_getElem? (i := 17) rfl) rfl rfl rfl rfl rfl rfl (Nat.le_of_ble_eq_true rfl) [oB hh 5 [.ref a_1, .ref a_4, .ref a_7, .ref a_11, .ref sp, .null, .int (nI 0), .int (nI 0)], oB a_1 7 [.ref a_2, .int (nI 0)], bA g a_2 768 (fun _ => 0), oB a_4 7 [.ref a_5, .int (nI 0)], bA g a_5 32 (fun _ => 0), oB a_7 4 [.ref a_8, .ref a_9], iA g a_8 8 (fun _ => 0), iA g a_9 64 (fun _ => 0), oB a_11 3 [.ref a_12, .ref a_13], lA g a_12 25 (fun _ => 0), lA g a_13 25 (fun _ => 0)] rfl dX5_init_55 ?_
  refine j_aload_n hX 0 dX5_init_58 rfl ?_
  refine j_aload_n hX 2 dX5_init_59 rfl ?_
  refine j_putF hX hin (v := .ref sdr) in5 tyX5 tyX5_ok nmX5 5 0 5 rfl rfl (by decide) (List.mem_of_getElem? (i := 18) rfl) rfl rfl rfl rfl rfl rfl (Nat.le_of_ble_eq_true rfl) [oB hh 5 [.ref a_1, .ref a_4, .ref a_7, .ref a_11, .ref sp, .ref sdr, .int (nI 0), .int (nI 0)], oB a_1 7 [.ref a_2, .int (nI 0)], bA g a_2 768 (fun _ => 0), oB a_4 7 [.ref a_5, .int (nI 0)], bA g a_5 32 (fun _ => 0), oB a_7 4 [.ref a_8, .ref a_9], iA g a_8 8 (fun _ => 0), iA g a_9 64 (fun _ => 0), oB a_11 3 [.ref a_12, .ref a_13], lA g a_12 25 (fun _ => 0), lA g a_13 25 (fun _ => 0)] rfl dX5_init_60 ?_
  exact hret (a_1, a_2, a_4, a_5, a_7, a_8, a_9, a_11, a_12, a_13) trivial 63 _ dX5_init_63

set_option maxHeartbeats 4000000 in
set_option maxRecDepth 100000 in
/-- new Shape -/
theorem i_Shape (l : Launch) (g : jG) (sp : Nat)  : jN l g yX8_init wsX8_init ({ frames := 1, cells := 0, slots := 0, locals := 26 } : Room) [.ref sp] [oB sp 8 [.int (nI 0), .int (nI 0), .int (nI 0), .int (nI 0), .int (nI 0), .int (nI 0)]] (fun jj : Unit => True) (fun jj : Unit => [oB sp 8 [.int (nI 0), .int (nI 4), .int (nI 1), .int (nI 1), .int (nI 1), .int (nI 1)]]) 0 0 := by
  refine jN.of (cc := cX8_init) (own := RX8) (maxL := 1) (by decide +kernel) rfl rfl rfl (Nat.le_of_ble_eq_true rfl) ?_
  intro p e s m below meth c A Q hin hNW hX hret
  refine j_aload_n hX 0 dX8_init_0 rfl ?_
  refine j_objInit hX (List.mem_of_getElem? (i := 1) rfl) (List.mem_of_getElem? (i := 2) rfl) (List.mem_of_getElem? (i := 3) rfl) (Nat.le_of_ble_eq_true rfl) (Nat.le_of_ble_eq_true rfl) dX8_init_1 ?_
  refine j_aload_n hX 0 dX8_init_4 rfl ?_
  refine j_iconst hX (0) dX8_init_5 (by decide) ?_
  refine j_iconst hX (4) dX8_init_6 (by decide) ?_
  refine j_iconst hX (1) dX8_init_7 (by decide) ?_
  refine j_iconst hX (1) dX8_init_8 (by decide) ?_
  refine j_pc 9 rfl ?_
  refine j_iconst hX (1) dX8_init_9 (by decide) ?_
  refine j_iconst hX (1) dX8_init_10 (by decide) ?_
  refine j_callV2 hX 6 (c_become l g sp (nI 0) (nI 0) (nI 0) (nI 0) (nI 0) (nI 0) 0 4 1 1 1 1 ) gX8_init_X8_become (by decide +kernel) rfl ⟨rfl, rfl⟩ ⟨Nat.le_of_ble_eq_true rfl, Nat.le_of_ble_eq_true rfl⟩ 8 0 rfl rfl [0] [] 1 rfl (by decide) (fun jj : Unit => [oB sp 8 [.int (nI 0), .int (nI 4), .int (nI 1), .int (nI 1), .int (nI 1), .int (nI 1)]]) (fun _ => rfl) (by decide) [sp] rfl (fun _ => rfl) (fun _ => rfl) [] rfl (fun _ => rfl) rfl [] rfl (Nat.le_of_ble_eq_true rfl) ⟨Nat.le_of_ble_eq_true rfl, Nat.le_of_ble_eq_true rfl⟩ dX8_init_11 ?_
  intro _ hu_1
  refine j_w [oB sp 8 [.int (nI 0), .int (nI 4), .int (nI 1), .int (nI 1), .int (nI 1), .int (nI 1)]] rfl ?_
  refine j_st [] rfl ?_
  exact hret () trivial 14 _ dX8_init_14

set_option maxHeartbeats 4000000 in
set_option maxRecDepth 100000 in
/-- new Trees -/
theorem i_Trees (l : Launch) (g : jG) (te : Nat) (sp : Nat) (hh : Nat) (ch : Nat)  : jN l g yX9_init wsX9_init ({ frames := 2, cells := 2, slots := 258, locals := 42 } : Room) [.ref te, .ref sp, .ref hh, .ref ch] [oB te 9 [.null, .null, .null, .null]] (fun jj : Nat × Nat => True) (fun jj : Nat × Nat => [oB te 9 [.ref jj.1, .ref sp, .ref hh, .ref ch], oB jj.1 7 [.ref jj.2, .int (nI 0)], bA g jj.2 256 (fun _ => 0)]) 2 258 := by
  refine jN.of (cc := cX9_init) (own := RX9) (maxL := 4) (by decide +kernel) rfl rfl rfl (Nat.le_of_ble_eq_true rfl) ?_
  intro p e s m below meth c A Q hin hNW hX hret
  have in7 : ∀ w ∈ wsX70, w ∈ wsX9_init := (fun w h => List.mem_cons_of_mem _ (List.mem_append_left _ (List.mem_append_right _ h)))
  have in9 : ∀ w ∈ wsX90, w ∈ wsX9_init := (fun w h => List.mem_cons_of_mem _ (List.mem_append_right _ h))
  refine j_aload_n hX 0 dX9_init_0 rfl ?_
  refine j_objInit hX (List.mem_of_getElem? (i := 1) rfl) (List.mem_of_getElem? (i := 2) rfl) (List.mem_of_getElem? (i := 3) rfl) (Nat.le_of_ble_eq_true rfl) (Nat.le_of_ble_eq_true rfl) dX9_init_1 ?_
  refine j_aload_n hX 0 dX9_init_4 rfl ?_
  refine j_new hX (ci := 7) (fs := [.null, .int (nI 0)]) in7 tyX7 tyX7_ok (List.mem_of_getElem? (i := 4) rfl) (List.mem_of_getElem? (i := 5) rfl) (List.mem_of_getElem? (i := 6) rfl) rfl (fun j hj => by rcases (show j = 0 ∨ j = 1 by omega) with rfl | rfl <;> rfl) (Nat.le_of_ble_eq_true rfl) (Nat.le_of_ble_eq_true rfl) dX9_init_5 (fun a_1 => ?_)
  refine j_w [oB te 9 [.null, .null, .null, .null], oB a_1 7 [.null, .int (nI 0)]] rfl ?_
  refine j_dup hX dX9_init_8 rfl ?_
  refine j_sipush hX (256) dX9_init_9 (by decide) ?_
  refine j_callI hX 1 hNW (i_Row l g a_1 256 (by omega)) gX9_init_X7_init (List.mem_of_getElem? (i := 6) rfl) (List.mem_of_getElem? (i := 11) rfl) (List.mem_of_getElem? (i := 12) rfl) rfl (by decide +kernel) rfl ⟨rfl, rfl⟩ ⟨Nat.le_of_ble_eq_true rfl, Nat.le_of_ble_eq_true rfl⟩ [1] [0] rfl (by decide) [oB te 9 [.null, .null, .null, .null]] rfl (by decide) (by decide) rfl [.ref a_1, .ref te] rfl (Nat.le_of_ble_eq_true rfl) ⟨Nat.le_of_ble_eq_true rfl, Nat.le_of_ble_eq_true rfl⟩ dX9_init_12 ?_
  intro a_2 hu_3
  refine j_w [oB te 9 [.null, .null, .null, .null], oB a_1 7 [.ref a_2, .int (nI 0)], bA g a_2 256 (fun _ => 0)] rfl ?_
  refine j_pc 15 rfl ?_
  refine j_putF hX hin (v := .ref a_1) in9 tyX9 tyX9_ok nmX9 9 0 0 rfl rfl (by decide) (List.mem_of_getElem? (i := 7) rfl) rfl rfl rfl rfl rfl rfl (Nat.le_of_ble_eq_true rfl) [oB te 9 [.ref a_1, .null, .null, .null], oB a_1 7 [.ref a_2, .int (nI 0)], bA g a_2 256 (fun _ => 0)] rfl dX9_init_15 ?_
  refine j_aload_n hX 0 dX9_init_18 rfl ?_
  refine j_aload_n hX 1 dX9_init_19 rfl ?_
  refine j_putF hX hin (v := .ref sp) in9 tyX9 tyX9_ok nmX9 9 0 1 rfl rfl (by decide) (List.mem_of_getElem? (i := 8) rfl) rfl rfl rfl rfl rfl rfl (Nat.le_of_ble_eq_true rfl) [oB te 9 [.ref a_1, .ref sp, .null, .null], oB a_1 7 [.ref a_2, .int (nI 0)], bA g a_2 256 (fun _ => 0)] rfl dX9_init_20 ?_
  refine j_aload_n hX 0 dX9_init_23 rfl ?_
  refine j_aload_n hX 2 dX9_init_24 rfl ?_
  refine j_putF hX hin (v := .ref hh) in9 tyX9 tyX9_ok nmX9 9 0 2 rfl rfl (by decide) (List.mem_of_getElem? (i := 9) rfl) rfl rfl rfl rfl rfl rfl (Nat.le_of_ble_eq_true rfl) [oB te 9 [.ref a_1, .ref sp, .ref hh, .null], oB a_1 7 [.ref a_2, .int (nI 0)], bA g a_2 256 (fun _ => 0)] rfl dX9_init_25 ?_
  refine j_aload_n hX 0 dX9_init_28 rfl ?_
  refine j_pc 29 rfl ?_
  refine j_aload_n hX 3 dX9_init_29 rfl ?_
  refine j_putF hX hin (v := .ref ch) in9 tyX9 tyX9_ok nmX9 9 0 3 rfl rfl (by decide) (List.mem_of_getElem? (i := 10) rfl) rfl rfl rfl rfl rfl rfl (Nat.le_of_ble_eq_true rfl) [oB te 9 [.ref a_1, .ref sp, .ref hh, .ref ch], oB a_1 7 [.ref a_2, .int (nI 0)], bA g a_2 256 (fun _ => 0)] rfl dX9_init_30 ?_
  exact hret (a_1, a_2) trivial 33 _ dX9_init_33

set_option maxHeartbeats 4000000 in
set_option maxRecDepth 100000 in
/-- new FewTrees -/
theorem i_FewTrees (l : Launch) (g : jG) (ft : Nat) (sp : Nat) (hh : Nat) (te : Nat)  : jN l g yX1_init wsX1_init ({ frames := 2, cells := 4, slots := 116, locals := 42 } : Room) [.ref ft, .ref sp, .ref hh, .ref te] [oB ft 1 [.null, .null, .null, .null, .null]] (fun jj : Nat × Nat × Nat × Nat => True) (fun jj : Nat × Nat × Nat × Nat => [oB ft 1 [.ref jj.1, .ref jj.2.2.1, .ref sp, .ref hh, .ref te], oB jj.1 7 [.ref jj.2.1, .int (nI 0)], bA g jj.2.1 96 (fun _ => 0), oB jj.2.2.1 7 [.ref jj.2.2.2, .int (nI 0)], bA g jj.2.2.2 16 (fun _ => 0)]) 4 116 := by
  refine jN.of (cc := cX1_init) (own := RX1) (maxL := 4) (by decide +kernel) rfl rfl rfl (Nat.le_of_ble_eq_true rfl) ?_
  intro p e s m below meth c A Q hin hNW hX hret
  have in1 : ∀ w ∈ wsX10, w ∈ wsX1_init := (fun w h => List.mem_cons_of_mem _ (List.mem_append_right _ h))
  have in7 : ∀ w ∈ wsX70, w ∈ wsX1_init := (fun w h => List.mem_cons_of_mem _ (List.mem_append_left _ (List.mem_append_right _ h)))
  refine j_aload_n hX 0 dX1_init_0 rfl ?_
  refine j_objInit hX (List.mem_of_getElem? (i := 1) rfl) (List.mem_of_getElem? (i := 2) rfl) (List.mem_of_getElem? (i := 3) rfl) (Nat.le_of_ble_eq_true rfl) (Nat.le_of_ble_eq_true rfl) dX1_init_1 ?_
  refine j_aload_n hX 0 dX1_init_4 rfl ?_
  refine j_new hX (ci := 7) (fs := [.null, .int (nI 0)]) in7 tyX7 tyX7_ok (List.mem_of_getElem? (i := 4) rfl) (List.mem_of_getElem? (i := 5) rfl) (List.mem_of_getElem? (i := 6) rfl) rfl (fun j hj => by rcases (show j = 0 ∨ j = 1 by omega) with rfl | rfl <;> rfl) (Nat.le_of_ble_eq_true rfl) (Nat.le_of_ble_eq_true rfl) dX1_init_5 (fun a_1 => ?_)
  refine j_w [oB ft 1 [.null, .null, .null, .null, .null], oB a_1 7 [.null, .int (nI 0)]] rfl ?_
  refine j_dup hX dX1_init_8 rfl ?_
  refine j_bipush hX (96) dX1_init_9 (by decide) ?_
  refine j_callI hX 1 hNW (i_Row l g a_1 96 (by omega)) gX1_init_X7_init (List.mem_of_getElem? (i := 6) rfl) (List.mem_of_getElem? (i := 12) rfl) (List.mem_of_getElem? (i := 13) rfl) rfl (by decide +kernel) rfl ⟨rfl, rfl⟩ ⟨Nat.le_of_ble_eq_true rfl, Nat.le_of_ble_eq_true rfl⟩ [1] [0] rfl (by decide) [oB ft 1 [.null, .null, .null, .null, .null]] rfl (by decide) (by decide) rfl [.ref a_1, .ref ft] rfl (Nat.le_of_ble_eq_true rfl) ⟨Nat.le_of_ble_eq_true rfl, Nat.le_of_ble_eq_true rfl⟩ dX1_init_11 ?_
  intro a_2 hu_3
  refine j_w [oB ft 1 [.null, .null, .null, .null, .null], oB a_1 7 [.ref a_2, .int (nI 0)], bA g a_2 96 (fun _ => 0)] rfl ?_
  refine j_pc 14 rfl ?_
  refine j_putF hX hin (v := .ref a_1) in1 tyX1 tyX1_ok nmX1 1 0 0 rfl rfl (by decide) (List.mem_of_getElem? (i := 7) rfl) rfl rfl rfl rfl rfl rfl (Nat.le_of_ble_eq_true rfl) [oB ft 1 [.ref a_1, .null, .null, .null, .null], oB a_1 7 [.ref a_2, .int (nI 0)], bA g a_2 96 (fun _ => 0)] rfl dX1_init_14 ?_
  refine j_aload_n hX 0 dX1_init_17 rfl ?_
  refine j_new hX (ci := 7) (fs := [.null, .int (nI 0)]) in7 tyX7 tyX7_ok (List.mem_of_getElem? (i := 4) rfl) (List.mem_of_getElem? (i := 5) rfl) (List.mem_of_getElem? (i := 6) rfl) rfl (fun j hj => by rcases (show j = 0 ∨ j = 1 by omega) with rfl | rfl <;> rfl) (Nat.le_of_ble_eq_true rfl) (Nat.le_of_ble_eq_true rfl) dX1_init_18 (fun a_4 => ?_)
  refine j_w [oB ft 1 [.ref a_1, .null, .null, .null, .null], oB a_1 7 [.ref a_2, .int (nI 0)], bA g a_2 96 (fun _ => 0), oB a_4 7 [.null, .int (nI 0)]] rfl ?_
  refine j_dup hX dX1_init_21 rfl ?_
  refine j_bipush hX (16) dX1_init_22 (by decide) ?_
  refine j_callI hX 1 hNW (i_Row l g a_4 16 (by omega)) gX1_init_X7_init (List.mem_of_getElem? (i := 6) rfl) (List.mem_of_getElem? (i := 12) rfl) (List.mem_of_getElem? (i := 13) rfl) rfl (by decide +kernel) rfl ⟨rfl, rfl⟩ ⟨Nat.le_of_ble_eq_true rfl, Nat.le_of_ble_eq_true rfl⟩ [3] [0, 1, 2] rfl (by decide) [oB ft 1 [.ref a_1, .null, .null, .null, .null], oB a_1 7 [.ref a_2, .int (nI 0)], bA g a_2 96 (fun _ => 0)] rfl (by decide) (by decide) rfl [.ref a_4, .ref ft] rfl (Nat.le_of_ble_eq_true rfl) ⟨Nat.le_of_ble_eq_true rfl, Nat.le_of_ble_eq_true rfl⟩ dX1_init_24 ?_
  intro a_5 hu_6
  refine j_w [oB ft 1 [.ref a_1, .null, .null, .null, .null], oB a_1 7 [.ref a_2, .int (nI 0)], bA g a_2 96 (fun _ => 0), oB a_4 7 [.ref a_5, .int (nI 0)], bA g a_5 16 (fun _ => 0)] rfl ?_
  refine j_putF hX hin (v := .ref a_4) in1 tyX1 tyX1_ok nmX1 1 0 1 rfl rfl (by decide) (List.mem_of_getElem? (i := 8) rfl) rfl rfl rfl rfl rfl rfl (Nat.le_of_ble_eq_true rfl) [oB ft 1 [.ref a_1, .ref a_4, .null, .null, .null], oB a_1 7 [.ref a_2, .int (nI 0)], bA g a_2 96 (fun _ => 0), oB a_4 7 [.ref a_5, .int (nI 0)], bA g a_5 16 (fun _ => 0)] rfl dX1_init_27 ?_
  refine j_aload_n hX 0 dX1_init_30 rfl ?_
  refine j_pc 31 rfl ?_
  refine j_aload_n hX 1 dX1_init_31 rfl ?_
  refine j_putF hX hin (v := .ref sp) in1 tyX1 tyX1_ok nmX1 1 0 2 rfl rfl (by decide) (List.mem_of_getElem? (i := 9) rfl) rfl rfl rfl rfl rfl rfl (Nat.le_of_ble_eq_true rfl) [oB ft 1 [.ref a_1, .ref a_4, .ref sp, .null, .null], oB a_1 7 [.ref a_2, .int (nI 0)], bA g a_2 96 (fun _ => 0), oB a_4 7 [.ref a_5, .int (nI 0)], bA g a_5 16 (fun _ => 0)] rfl dX1_init_32 ?_
  refine j_aload_n hX 0 dX1_init_35 rfl ?_
  refine j_aload_n hX 2 dX1_init_36 rfl ?_
  refine j_putF hX hin (v := .ref hh) in1 tyX1 tyX1_ok nmX1 1 0 3 rfl rfl (by decide) (List.mem_of_getElem? (i := 10) rfl) rfl rfl rfl rfl rfl rfl (Nat.le_of_ble_eq_true rfl) [oB ft 1 [.ref a_1, .ref a_4, .ref sp, .ref hh, .null], oB a_1 7 [.ref a_2, .int (nI 0)], bA g a_2 96 (fun _ => 0), oB a_4 7 [.ref a_5, .int (nI 0)], bA g a_5 16 (fun _ => 0)] rfl dX1_init_37 ?_
  refine j_aload_n hX 0 dX1_init_40 rfl ?_
  refine j_aload_n hX 3 dX1_init_41 rfl ?_
  refine j_putF hX hin (v := .ref te) in1 tyX1 tyX1_ok nmX1 1 0 4 rfl rfl (by decide) (List.mem_of_getElem? (i := 11) rfl) rfl rfl rfl rfl rfl rfl (Nat.le_of_ble_eq_true rfl) [oB ft 1 [.ref a_1, .ref a_4, .ref sp, .ref hh, .ref te], oB a_1 7 [.ref a_2, .int (nI 0)], bA g a_2 96 (fun _ => 0), oB a_4 7 [.ref a_5, .int (nI 0)], bA g a_5 16 (fun _ => 0)] rfl dX1_init_42 ?_
  refine j_pc 45 rfl ?_
  exact hret (a_1, a_2, a_4, a_5) trivial 45 _ dX1_init_45

set_option maxHeartbeats 4000000 in
set_option maxRecDepth 100000 in
/-- new Points -/
theorem i_Points (l : Launch) (g : jG) (pt : Nat) (sp : Nat) (sdr : Nat) (hh : Nat)  : jN l g yX6_init wsX6_init ({ frames := 2, cells := 4, slots := 44, locals := 42 } : Room) [.ref pt, .ref sp, .ref sdr, .ref hh] [oB pt 6 [.null, .null, .null, .null, .null]] (fun jj : Nat × Nat × Nat × Nat => True) (fun jj : Nat × Nat × Nat × Nat => [oB pt 6 [.ref jj.1, .ref jj.2.2.1, .ref sp, .ref sdr, .ref hh], oB jj.1 7 [.ref jj.2.1, .int (nI 0)], bA g jj.2.1 8 (fun _ => 0), oB jj.2.2.1 7 [.ref jj.2.2.2, .int (nI 0)], bA g jj.2.2.2 32 (fun _ => 0)]) 4 44 := by
  refine jN.of (cc := cX6_init) (own := RX6) (maxL := 4) (by decide +kernel) rfl rfl rfl (Nat.le_of_ble_eq_true rfl) ?_
  intro p e s m below meth c A Q hin hNW hX hret
  have in6 : ∀ w ∈ wsX60, w ∈ wsX6_init := (fun w h => List.mem_cons_of_mem _ (List.mem_append_right _ h))
  have in7 : ∀ w ∈ wsX70, w ∈ wsX6_init := (fun w h => List.mem_cons_of_mem _ (List.mem_append_left _ (List.mem_append_right _ h)))
  refine j_aload_n hX 0 dX6_init_0 rfl ?_
  refine j_objInit hX (List.mem_of_getElem? (i := 1) rfl) (List.mem_of_getElem? (i := 2) rfl) (List.mem_of_getElem? (i := 3) rfl) (Nat.le_of_ble_eq_true rfl) (Nat.le_of_ble_eq_true rfl) dX6_init_1 ?_
  refine j_aload_n hX 0 dX6_init_4 rfl ?_
  refine j_new hX (ci := 7) (fs := [.null, .int (nI 0)]) in7 tyX7 tyX7_ok (List.mem_of_getElem? (i := 4) rfl) (List.mem_of_getElem? (i := 5) rfl) (List.mem_of_getElem? (i := 6) rfl) rfl (fun j hj => by rcases (show j = 0 ∨ j = 1 by omega) with rfl | rfl <;> rfl) (Nat.le_of_ble_eq_true rfl) (Nat.le_of_ble_eq_true rfl) dX6_init_5 (fun a_1 => ?_)
  refine j_w [oB pt 6 [.null, .null, .null, .null, .null], oB a_1 7 [.null, .int (nI 0)]] rfl ?_
  refine j_dup hX dX6_init_8 rfl ?_
  refine j_bipush hX (8) dX6_init_9 (by decide) ?_
  refine j_callI hX 1 hNW (i_Row l g a_1 8 (by omega)) gX6_init_X7_init (List.mem_of_getElem? (i := 6) rfl) (List.mem_of_getElem? (i := 12) rfl) (List.mem_of_getElem? (i := 13) rfl) rfl (by decide +kernel) rfl ⟨rfl, rfl⟩ ⟨Nat.le_of_ble_eq_true rfl, Nat.le_of_ble_eq_true rfl⟩ [1] [0] rfl (by decide) [oB pt 6 [.null, .null, .null, .null, .null]] rfl (by decide) (by decide) rfl [.ref a_1, .ref pt] rfl (Nat.le_of_ble_eq_true rfl) ⟨Nat.le_of_ble_eq_true rfl, Nat.le_of_ble_eq_true rfl⟩ dX6_init_11 ?_
  intro a_2 hu_3
  refine j_w [oB pt 6 [.null, .null, .null, .null, .null], oB a_1 7 [.ref a_2, .int (nI 0)], bA g a_2 8 (fun _ => 0)] rfl ?_
  refine j_pc 14 rfl ?_
  refine j_putF hX hin (v := .ref a_1) in6 tyX6 tyX6_ok nmX6 6 0 0 rfl rfl (by decide) (List.mem_of_getElem? (i := 7) rfl) rfl rfl rfl rfl rfl rfl (Nat.le_of_ble_eq_true rfl) [oB pt 6 [.ref a_1, .null, .null, .null, .null], oB a_1 7 [.ref a_2, .int (nI 0)], bA g a_2 8 (fun _ => 0)] rfl dX6_init_14 ?_
  refine j_aload_n hX 0 dX6_init_17 rfl ?_
  refine j_new hX (ci := 7) (fs := [.null, .int (nI 0)]) in7 tyX7 tyX7_ok (List.mem_of_getElem? (i := 4) rfl) (List.mem_of_getElem? (i := 5) rfl) (List.mem_of_getElem? (i := 6) rfl) rfl (fun j hj => by rcases (show j = 0 ∨ j = 1 by omega) with rfl | rfl <;> rfl) (Nat.le_of_ble_eq_true rfl) (Nat.le_of_ble_eq_true rfl) dX6_init_18 (fun a_4 => ?_)
  refine j_w [oB pt 6 [.ref a_1, .null, .null, .null, .null], oB a_1 7 [.ref a_2, .int (nI 0)], bA g a_2 8 (fun _ => 0), oB a_4 7 [.null, .int (nI 0)]] rfl ?_
  refine j_dup hX dX6_init_21 rfl ?_
  refine j_bipush hX (32) dX6_init_22 (by decide) ?_
  refine j_callI hX 1 hNW (i_Row l g a_4 32 (by omega)) gX6_init_X7_init (List.mem_of_getElem? (i := 6) rfl) (List.mem_of_getElem? (i := 12) rfl) (List.mem_of_getElem? (i := 13) rfl) rfl (by decide +kernel) rfl ⟨rfl, rfl⟩ ⟨Nat.le_of_ble_eq_true rfl, Nat.le_of_ble_eq_true rfl⟩ [3] [0, 1, 2] rfl (by decide) [oB pt 6 [.ref a_1, .null, .null, .null, .null], oB a_1 7 [.ref a_2, .int (nI 0)], bA g a_2 8 (fun _ => 0)] rfl (by decide) (by decide) rfl [.ref a_4, .ref pt] rfl (Nat.le_of_ble_eq_true rfl) ⟨Nat.le_of_ble_eq_true rfl, Nat.le_of_ble_eq_true rfl⟩ dX6_init_24 ?_
  intro a_5 hu_6
  refine j_w [oB pt 6 [.ref a_1, .null, .null, .null, .null], oB a_1 7 [.ref a_2, .int (nI 0)], bA g a_2 8 (fun _ => 0), oB a_4 7 [.ref a_5, .int (nI 0)], bA g a_5 32 (fun _ => 0)] rfl ?_
  refine j_putF hX hin (v := .ref a_4) in6 tyX6 tyX6_ok nmX6 6 0 1 rfl rfl (by decide) (List.mem_of_getElem? (i := 8) rfl) rfl rfl rfl rfl rfl rfl (Nat.le_of_ble_eq_true rfl) [oB pt 6 [.ref a_1, .ref a_4, .null, .null, .null], oB a_1 7 [.ref a_2, .int (nI 0)], bA g a_2 8 (fun _ => 0), oB a_4 7 [.ref a_5, .int (nI 0)], bA g a_5 32 (fun _ => 0)] rfl dX6_init_27 ?_
  refine j_aload_n hX 0 dX6_init_30 rfl ?_
  refine j_pc 31 rfl ?_
  refine j_aload_n hX 1 dX6_init_31 rfl ?_
  refine j_putF hX hin (v := .ref sp) in6 tyX6 tyX6_ok nmX6 6 0 2 rfl rfl (by decide) (List.mem_of_getElem? (i := 9) rfl) rfl rfl rfl rfl rfl rfl (Nat.le_of_ble_eq_true rfl) [oB pt 6 [.ref a_1, .ref a_4, .ref sp, .null, .null], oB a_1 7 [.ref a_2, .int (nI 0)], bA g a_2 8 (fun _ => 0), oB a_4 7 [.ref a_5, .int (nI 0)], bA g a_5 32 (fun _ => 0)] rfl dX6_init_32 ?_
  refine j_aload_n hX 0 dX6_init_35 rfl ?_
  refine j_aload_n hX 2 dX6_init_36 rfl ?_
  refine j_putF hX hin (v := .ref sdr) in6 tyX6 tyX6_ok nmX6 6 0 3 rfl rfl (by decide) (List.mem_of_getElem? (i := 10) rfl) rfl rfl rfl rfl rfl rfl (Nat.le_of_ble_eq_true rfl) [oB pt 6 [.ref a_1, .ref a_4, .ref sp, .ref sdr, .null], oB a_1 7 [.ref a_2, .int (nI 0)], bA g a_2 8 (fun _ => 0), oB a_4 7 [.ref a_5, .int (nI 0)], bA g a_5 32 (fun _ => 0)] rfl dX6_init_37 ?_
  refine j_aload_n hX 0 dX6_init_40 rfl ?_
  refine j_aload_n hX 3 dX6_init_41 rfl ?_
  refine j_putF hX hin (v := .ref hh) in6 tyX6 tyX6_ok nmX6 6 0 4 rfl rfl (by decide) (List.mem_of_getElem? (i := 11) rfl) rfl rfl rfl rfl rfl rfl (Nat.le_of_ble_eq_true rfl) [oB pt 6 [.ref a_1, .ref a_4, .ref sp, .ref sdr, .ref hh], oB a_1 7 [.ref a_2, .int (nI 0)], bA g a_2 8 (fun _ => 0), oB a_4 7 [.ref a_5, .int (nI 0)], bA g a_5 32 (fun _ => 0)] rfl dX6_init_42 ?_
  refine j_pc 45 rfl ?_
  exact hret (a_1, a_2, a_4, a_5) trivial 45 _ dX6_init_45

set_option maxHeartbeats 4000000 in
set_option maxRecDepth 100000 in
/-- new Chains -/
theorem i_Chains (l : Launch) (g : jG) (ch : Nat) (sp : Nat) (hh : Nat)  : jN l g yX0_init wsX0_init ({ frames := 2, cells := 6, slots := 1143, locals := 42 } : Room) [.ref ch, .ref sp, .ref hh] [oB ch 0 [.null, .null, .null, .null, .null, .null]] (fun jj : Nat × Nat × Nat × Nat × Nat × Nat => True) (fun jj : Nat × Nat × Nat × Nat × Nat × Nat => [oB ch 0 [.ref jj.1, .ref jj.2.2.1, .ref jj.2.2.2.1, .ref jj.2.2.2.2.1, .ref sp, .ref hh], oB jj.1 7 [.ref jj.2.1, .int (nI 512)], bA g jj.2.1 512 (fun _ => 0), zA g jj.2.2.1 32 (fun _ => 0), iA g jj.2.2.2.1 35 (fun _ => 0), oB jj.2.2.2.2.1 7 [.ref jj.2.2.2.2.2, .int (nI 0)], bA g jj.2.2.2.2.2 560 (fun _ => 0)]) 6 1143 := by
  refine jN.of (cc := cX0_init) (own := RX0) (maxL := 3) (by decide +kernel) rfl rfl rfl (Nat.le_of_ble_eq_true rfl) ?_
  intro p e s m below meth c A Q hin hNW hX hret
  have in0 : ∀ w ∈ wsX00, w ∈ wsX0_init := (fun w h => List.mem_cons_of_mem _ (List.mem_append_right _ h))
  have in7 : ∀ w ∈ wsX70, w ∈ wsX0_init := (fun w h => List.mem_cons_of_mem _ (List.mem_append_left _ (List.mem_append_right _ h)))
  refine j_aload_n hX 0 dX0_init_0 rfl ?_
  refine j_objInit hX (List.mem_of_getElem? (i := 1) rfl) (List.mem_of_getElem? (i := 2) rfl) (List.mem_of_getElem? (i := 3) rfl) (Nat.le_of_ble_eq_true rfl) (Nat.le_of_ble_eq_true rfl) dX0_init_1 ?_
  refine j_aload_n hX 0 dX0_init_4 rfl ?_
  refine j_new hX (ci := 7) (fs := [.null, .int (nI 0)]) in7 tyX7 tyX7_ok (List.mem_of_getElem? (i := 4) rfl) (List.mem_of_getElem? (i := 5) rfl) (List.mem_of_getElem? (i := 6) rfl) rfl (fun j hj => by rcases (show j = 0 ∨ j = 1 by omega) with rfl | rfl <;> rfl) (Nat.le_of_ble_eq_true rfl) (Nat.le_of_ble_eq_true rfl) dX0_init_5 (fun a_1 => ?_)
  refine j_w [oB ch 0 [.null, .null, .null, .null, .null, .null], oB a_1 7 [.null, .int (nI 0)]] rfl ?_
  refine j_dup hX dX0_init_8 rfl ?_
  refine j_sipush hX (512) dX0_init_9 (by decide) ?_
  refine j_callI hX 1 hNW (i_Row l g a_1 512 (by omega)) gX0_init_X7_init (List.mem_of_getElem? (i := 6) rfl) (List.mem_of_getElem? (i := 15) rfl) (List.mem_of_getElem? (i := 16) rfl) rfl (by decide +kernel) rfl ⟨rfl, rfl⟩ ⟨Nat.le_of_ble_eq_true rfl, Nat.le_of_ble_eq_true rfl⟩ [1] [0] rfl (by decide) [oB ch 0 [.null, .null, .null, .null, .null, .null]] rfl (by decide) (by decide) rfl [.ref a_1, .ref ch] rfl (Nat.le_of_ble_eq_true rfl) ⟨Nat.le_of_ble_eq_true rfl, Nat.le_of_ble_eq_true rfl⟩ dX0_init_12 ?_
  intro a_2 hu_3
  refine j_w [oB ch 0 [.null, .null, .null, .null, .null, .null], oB a_1 7 [.ref a_2, .int (nI 0)], bA g a_2 512 (fun _ => 0)] rfl ?_
  refine j_pc 15 rfl ?_
  refine j_putF hX hin (v := .ref a_1) in0 tyX0 tyX0_ok nmX0 0 0 0 rfl rfl (by decide) (List.mem_of_getElem? (i := 7) rfl) rfl rfl rfl rfl rfl rfl (Nat.le_of_ble_eq_true rfl) [oB ch 0 [.ref a_1, .null, .null, .null, .null, .null], oB a_1 7 [.ref a_2, .int (nI 0)], bA g a_2 512 (fun _ => 0)] rfl dX0_init_15 ?_
  refine j_aload_n hX 0 dX0_init_18 rfl ?_
  refine j_bipush hX (32) dX0_init_19 (by decide) ?_
  refine j_st [.int (nI 32), .ref ch] rfl ?_
  refine j_newa hX (ty := .boolean) (n := 32) (a0 := (32, .inl (fun _ => 0))) 3 rfl (fun _ _ => rfl) (List.mem_of_getElem? (i := 8) rfl) rfl (fun _ => rfl) (by decide) (by decide) (Nat.le_of_ble_eq_true rfl) (Nat.le_of_ble_eq_true rfl) dX0_init_21 (fun a_4 => ?_)
  refine j_w [oB ch 0 [.ref a_1, .null, .null, .null, .null, .null], oB a_1 7 [.ref a_2, .int (nI 0)], bA g a_2 512 (fun _ => 0), zA g a_4 32 (fun _ => 0)] rfl ?_
  refine j_putF hX hin (v := .ref a_4) in0 tyX0 tyX0_ok nmX0 0 0 1 rfl rfl (by decide) (List.mem_of_getElem? (i := 9) rfl) rfl rfl rfl rfl rfl rfl (Nat.le_of_ble_eq_true rfl) [oB ch 0 [.ref a_1, .ref a_4, .null, .null, .null, .null], oB a_1 7 [.ref a_2, .int (nI 0)], bA g a_2 512 (fun _ => 0), zA g a_4 32 (fun _ => 0)] rfl dX0_init_23 ?_
  refine j_aload_n hX 0 dX0_init_26 rfl ?_
  refine j_bipush hX (35) dX0_init_27 (by decide) ?_
  refine j_st [.int (nI 35), .ref ch] rfl ?_
  refine j_newa hX (ty := .int) (n := 35) (a0 := (35, .inl (fun _ => 0))) 1 rfl (fun _ _ => rfl) (List.mem_of_getElem? (i := 10) rfl) rfl (fun _ => rfl) (by decide) (by decide) (Nat.le_of_ble_eq_true rfl) (Nat.le_of_ble_eq_true rfl) dX0_init_29 (fun a_5 => ?_)
  refine j_w [oB ch 0 [.ref a_1, .ref a_4, .null, .null, .null, .null], oB a_1 7 [.ref a_2, .int (nI 0)], bA g a_2 512 (fun _ => 0), zA g a_4 32 (fun _ => 0), iA g a_5 35 (fun _ => 0)] rfl ?_
  refine j_pc 31 rfl ?_
  refine j_putF hX hin (v := .ref a_5) in0 tyX0 tyX0_ok nmX0 0 0 2 rfl rfl (by decide) (List.mem_of_getElem? (i := 11) rfl) rfl rfl rfl rfl rfl rfl (Nat.le_of_ble_eq_true rfl) [oB ch 0 [.ref a_1, .ref a_4, .ref a_5, .null, .null, .null], oB a_1 7 [.ref a_2, .int (nI 0)], bA g a_2 512 (fun _ => 0), zA g a_4 32 (fun _ => 0), iA g a_5 35 (fun _ => 0)] rfl dX0_init_31 ?_
  refine j_aload_n hX 0 dX0_init_34 rfl ?_
  refine j_new hX (ci := 7) (fs := [.null, .int (nI 0)]) in7 tyX7 tyX7_ok (List.mem_of_getElem? (i := 4) rfl) (List.mem_of_getElem? (i := 5) rfl) (List.mem_of_getElem? (i := 6) rfl) rfl (fun j hj => by rcases (show j = 0 ∨ j = 1 by omega) with rfl | rfl <;> rfl) (Nat.le_of_ble_eq_true rfl) (Nat.le_of_ble_eq_true rfl) dX0_init_35 (fun a_6 => ?_)
  refine j_w [oB ch 0 [.ref a_1, .ref a_4, .ref a_5, .null, .null, .null], oB a_1 7 [.ref a_2, .int (nI 0)], bA g a_2 512 (fun _ => 0), zA g a_4 32 (fun _ => 0), iA g a_5 35 (fun _ => 0), oB a_6 7 [.null, .int (nI 0)]] rfl ?_
  refine j_dup hX dX0_init_38 rfl ?_
  refine j_sipush hX (560) dX0_init_39 (by decide) ?_
  refine j_callI hX 1 hNW (i_Row l g a_6 560 (by omega)) gX0_init_X7_init (List.mem_of_getElem? (i := 6) rfl) (List.mem_of_getElem? (i := 15) rfl) (List.mem_of_getElem? (i := 16) rfl) rfl (by decide +kernel) rfl ⟨rfl, rfl⟩ ⟨Nat.le_of_ble_eq_true rfl, Nat.le_of_ble_eq_true rfl⟩ [5] [0, 1, 2, 3, 4] rfl (by decide) [oB ch 0 [.ref a_1, .ref a_4, .ref a_5, .null, .null, .null], oB a_1 7 [.ref a_2, .int (nI 0)], bA g a_2 512 (fun _ => 0), zA g a_4 32 (fun _ => 0), iA g a_5 35 (fun _ => 0)] rfl (by decide) (by decide) rfl [.ref a_6, .ref ch] rfl (Nat.le_of_ble_eq_true rfl) ⟨Nat.le_of_ble_eq_true rfl, Nat.le_of_ble_eq_true rfl⟩ dX0_init_42 ?_
  intro a_7 hu_8
  refine j_w [oB ch 0 [.ref a_1, .ref a_4, .ref a_5, .null, .null, .null], oB a_1 7 [.ref a_2, .int (nI 0)], bA g a_2 512 (fun _ => 0), zA g a_4 32 (fun _ => 0), iA g a_5 35 (fun _ => 0), oB a_6 7 [.ref a_7, .int (nI 0)], bA g a_7 560 (fun _ => 0)] rfl ?_
  refine j_putF hX hin (v := .ref a_6) in0 tyX0 tyX0_ok nmX0 0 0 3 rfl rfl (by decide) (List.mem_of_getElem? (i := 12) rfl) rfl rfl rfl rfl rfl rfl (Nat.le_of_ble_eq_true rfl) [oB ch 0 [.ref a_1, .ref a_4, .ref a_5, .ref a_6, .null, .null], oB a_1 7 [.ref a_2, .int (nI 0)], bA g a_2 512 (fun _ => 0), zA g a_4 32 (fun _ => 0), iA g a_5 35 (fun _ => 0), oB a_6 7 [.ref a_7, .int (nI 0)], bA g a_7 560 (fun _ => 0)] rfl dX0_init_45 ?_
  refine j_aload_n hX 0 dX0_init_48 rfl ?_
  refine j_pc 49 rfl ?_
  refine j_aload_n hX 1 dX0_init_49 rfl ?_
  refine j_putF hX hin (v := .ref sp) in0 tyX0 tyX0_ok nmX0 0 0 4 rfl rfl (by decide) (List.mem_of_getElem? (i := 13) rfl) rfl rfl rfl rfl rfl rfl (Nat.le_of_ble_eq_true rfl) [oB ch 0 [.ref a_1, .ref a_4, .ref a_5, .ref a_6, .ref sp, .null], oB a_1 7 [.ref a_2, .int (nI 0)], bA g a_2 512 (fun _ => 0), zA g a_4 32 (fun _ => 0), iA g a_5 35 (fun _ => 0), oB a_6 7 [.ref a_7, .int (nI 0)], bA g a_7 560 (fun _ => 0)] rfl dX0_init_50 ?_
  refine j_aload_n hX 0 dX0_init_53 rfl ?_
  refine j_aload_n hX 2 dX0_init_54 rfl ?_
  refine j_putF hX hin (v := .ref hh) in0 tyX0 tyX0_ok nmX0 0 0 5 rfl rfl (by decide) (List.mem_of_getElem? (i := 14) rfl) rfl rfl rfl rfl rfl rfl (Nat.le_of_ble_eq_true rfl) [oB ch 0 [.ref a_1, .ref a_4, .ref a_5, .ref a_6, .ref sp, .ref hh], oB a_1 7 [.ref a_2, .int (nI 0)], bA g a_2 512 (fun _ => 0), zA g a_4 32 (fun _ => 0), iA g a_5 35 (fun _ => 0), oB a_6 7 [.ref a_7, .int (nI 0)], bA g a_7 560 (fun _ => 0)] rfl dX0_init_55 ?_
  refine j_aload_n hX 0 dX0_init_58 rfl ?_
  refine j_get hX in0 0 0 0 (v := .ref a_1) rfl rfl (by decide) (List.mem_of_getElem? (i := 7) rfl) rfl rfl dX0_init_59 ?_
  refine j_lconst hX 0 dX0_init_62 rfl ?_
  refine j_pc 63 rfl ?_
  refine j_sipush hX (512) dX0_init_63 (by decide) ?_
  refine j_callV2 hX 2 (c_addNumber l g a_1 a_2 0 512 (fun _ => 0) (0 : Int64) 512 (by omega) (by omega) (by omega)) gX0_init_X7_addNumber (by decide +kernel) rfl ⟨rfl, rfl⟩ ⟨Nat.le_of_ble_eq_true rfl, Nat.le_of_ble_eq_true rfl⟩ 7 1 rfl rfl [1, 2] [0, 3, 4, 5, 6] 7 rfl (by decide) (fun jj : (Nat → Int32) => [oB ch 0 [.ref a_1, .ref a_4, .ref a_5, .ref a_6, .ref sp, .ref hh], oB a_1 7 [.ref a_2, .int (nI (0 + 512))], bA g a_2 512 jj, zA g a_4 32 (fun _ => 0), iA g a_5 35 (fun _ => 0), oB a_6 7 [.ref a_7, .int (nI 0)], bA g a_7 560 (fun _ => 0)]) (fun _ => rfl) (by decide) [ch, a_1, a_2, a_4, a_5, a_6, a_7] rfl (fun _ => rfl) (fun _ => rfl) [oB ch 0 [.ref a_1, .ref a_4, .ref a_5, .ref a_6, .ref sp, .ref hh], zA g a_4 32 (fun _ => 0), iA g a_5 35 (fun _ => 0), oB a_6 7 [.ref a_7, .int (nI 0)], bA g a_7 560 (fun _ => 0)] rfl (fun _ => rfl) rfl [] rfl (Nat.le_of_ble_eq_true rfl) ⟨Nat.le_of_ble_eq_true rfl, Nat.le_of_ble_eq_true rfl⟩ dX0_init_66 ?_
  intro FZ hFZ
  try dsimp only at hFZ
  refine j_w [oB ch 0 [.ref a_1, .ref a_4, .ref a_5, .ref a_6, .ref sp, .ref hh], oB a_1 7 [.ref a_2, .int (nI (0 + 512))], bA g a_2 512 FZ, zA g a_4 32 (fun _ => 0), iA g a_5 35 (fun _ => 0), oB a_6 7 [.ref a_7, .int (nI 0)], bA g a_7 560 (fun _ => 0)] rfl ?_
  refine j_st [] rfl ?_
  refine j_w [oB ch 0 [.ref a_1, .ref a_4, .ref a_5, .ref a_6, .ref sp, .ref hh], oB a_1 7 [.ref a_2, .int (nI 512)], bA g a_2 512 (fun _ => 0), zA g a_4 32 (fun _ => 0), iA g a_5 35 (fun _ => 0), oB a_6 7 [.ref a_7, .int (nI 0)], bA g a_7 560 (fun _ => 0)] (by rw [hFZ, zero_put, Nat.zero_add]) ?_
  exact hret (a_1, a_2, a_4, a_5, a_6, a_7) trivial 69 _ dX0_init_69

set_option maxHeartbeats 4000000 in
set_option maxRecDepth 100000 in
/-- new HashSigner -/
theorem i_Signer (l : Launch) (g : jG) (so : Nat)  : jN l g yX10_init wsX10_init ({ frames := 4, cells := 48, slots := 4965, locals := 74 } : Room) [.ref so] [oB so 10 [.null, .null, .null, .null, .null, .null, .null, .null, .null, .null, .null, .null, .null, .null]] (fun jj : Nat × Nat × Nat × Nat × Nat × Nat × Nat × Nat × Nat × Nat × Nat × Nat × Nat × Nat × Nat × Nat × Nat × Nat × Nat × Nat × Nat × Nat × Nat × Nat × Nat × Nat × Nat × Nat × Nat × Nat × Nat × Nat × Nat × Nat × Nat × Nat × Nat × Nat × Nat × Nat × Nat × Nat × Nat × Nat × Nat × Nat × Nat × Nat => True) (fun jj : Nat × Nat × Nat × Nat × Nat × Nat × Nat × Nat × Nat × Nat × Nat × Nat × Nat × Nat × Nat × Nat × Nat × Nat × Nat × Nat × Nat × Nat × Nat × Nat × Nat × Nat × Nat × Nat × Nat × Nat × Nat × Nat × Nat × Nat × Nat × Nat × Nat × Nat × Nat × Nat × Nat × Nat × Nat × Nat × Nat × Nat × Nat × Nat => [oB so 10 [.ref jj.1, .ref jj.2.2.1, .ref jj.2.2.2.2.1, .ref jj.2.2.2.2.2.2.1, .ref jj.2.2.2.2.2.2.2.2.1, .ref jj.2.2.2.2.2.2.2.2.2.2.1, .ref jj.2.2.2.2.2.2.2.2.2.2.2.2.1, .ref jj.2.2.2.2.2.2.2.2.2.2.2.2.2.2.1, .ref jj.2.2.2.2.2.2.2.2.2.2.2.2.2.2.2.2.1, .ref jj.2.2.2.2.2.2.2.2.2.2.2.2.2.2.2.2.2.1, .ref jj.2.2.2.2.2.2.2.2.2.2.2.2.2.2.2.2.2.2.2.2.2.2.2.2.2.2.2.2.1, .ref jj.2.2.2.2.2.2.2.2.2.2.2.2.2.2.2.2.2.2.2.2.2.2.2.2.2.2.2.2.2.2.2.2.2.2.2.1, .ref jj.2.2.2.2.2.2.2.2.2.2.2.2.2.2.2.2.2.2.2.2.2.2.2.2.2.2.2.2.2.2.2.2.2.2.2.2.2.2.1, .ref jj.2.2.2.2.2.2.2.2.2.2.2.2.2.2.2.2.2.2.2.2.2.2.2.2.2.2.2.2.2.2.2.2.2.2.2.2.2.2.2.2.2.2.2.1], oB jj.1 7 [.ref jj.2.1, .int (nI 0)], bA g jj.2.1 600 (fun _ => 0), oB jj.2.2.1 7 [.ref jj.2.2.2.1, .int (nI 0)], bA g jj.2.2.2.1 32 (fun _ => 0), oB jj.2.2.2.2.1 7 [.ref jj.2.2.2.2.2.1, .int (nI 48)], bA g jj.2.2.2.2.2.1 48 (fun _ => 0), oB jj.2.2.2.2.2.2.1 7 [.ref jj.2.2.2.2.2.2.2.1, .int (nI 0)], bA g jj.2.2.2.2.2.2.2.1 16 (fun _ => 0), oB jj.2.2.2.2.2.2.2.2.1 7 [.ref jj.2.2.2.2.2.2.2.2.2.1, .int (nI 0)], bA g jj.2.2.2.2.2.2.2.2.2.1 16 (fun _ => 0), oB jj.2.2.2.2.2.2.2.2.2.2.1 7 [.ref jj.2.2.2.2.2.2.2.2.2.2.2.1, .int (nI 0)], bA g jj.2.2.2.2.2.2.2.2.2.2.2.1 1680 (fun _ => 0), oB jj.2.2.2.2.2.2.2.2.2.2.2.2.1 7 [.ref jj.2.2.2.2.2.2.2.2.2.2.2.2.2.1, .int (nI 0)], bA g jj.2.2.2.2.2.2.2.2.2.2.2.2.2.1 16 (fun _ => 0), oB jj.2.2.2.2.2.2.2.2.2.2.2.2.2.2.1 7 [.ref jj.2.2.2.2.2.2.2.2.2.2.2.2.2.2.2.1, .int (nI 0)], bA g jj.2.2.2.2.2.2.2.2.2.2.2.2.2.2.2.1 16 (fun _ => 0), oB jj.2.2.2.2.2.2.2.2.2.2.2.2.2.2.2.2.1 8 [.int (nI 0), .int (nI 4), .int (nI 1), .int (nI 1), .int (nI 1), .int (nI 1)], oB jj.2.2.2.2.2.2.2.2.2.2.2.2.2.2.2.2.2.1 5 [.ref jj.2.2.2.2.2.2.2.2.2.2.2.2.2.2.2.2.2.2.1, .ref jj.2.2.2.2.2.2.2.2.2.2.2.2.2.2.2.2.2.2.2.2.1, .ref jj.2.2.2.2.2.2.2.2.2.2.2.2.2.2.2.2.2.2.2.2.2.2.1, .ref jj.2.2.2.2.2.2.2.2.2.2.2.2.2.2.2.2.2.2.2.2.2.2.2.2.2.1, .ref jj.2.2.2.2.2.2.2.2.2.2.2.2.2.2.2.2.1, .ref jj.2.2.2.2.1, .int (nI 0), .int (nI 0)], oB jj.2.2.2.2.2.2.2.2.2.2.2.2.2.2.2.2.2.2.1 7 [.ref jj.2.2.2.2.2.2.2.2.2.2.2.2.2.2.2.2.2.2.2.1, .int (nI 0)], bA g jj.2.2.2.2.2.2.2.2.2.2.2.2.2.2.2.2.2.2.2.1 768 (fun _ => 0), oB jj.2.2.2.2.2.2.2.2.2.2.2.2.2.2.2.2.2.2.2.2.1 7 [.ref jj.2.2.2.2.2.2.2.2.2.2.2.2.2.2.2.2.2.2.2.2.2.1, .int (nI 0)], bA g jj.2.2.2.2.2.2.2.2.2.2.2.2.2.2.2.2.2.2.2.2.2.1 32 (fun _ => 0), oB jj.2.2.2.2.2.2.2.2.2.2.2.2.2.2.2.2.2.2.2.2.2.2.1 4 [.ref jj.2.2.2.2.2.2.2.2.2.2.2.2.2.2.2.2.2.2.2.2.2.2.2.1, .ref jj.2.2.2.2.2.2.2.2.2.2.2.2.2.2.2.2.2.2.2.2.2.2.2.2.1], iA g jj.2.2.2.2.2.2.2.2.2.2.2.2.2.2.2.2.2.2.2.2.2.2.2.1 8 (fun _ => 0), iA g jj.2.2.2.2.2.2.2.2.2.2.2.2.2.2.2.2.2.2.2.2.2.2.2.2.1 64 (fun _ => 0), oB jj.2.2.2.2.2.2.2.2.2.2.2.2.2.2.2.2.2.2.2.2.2.2.2.2.2.1 3 [.ref jj.2.2.2.2.2.2.2.2.2.2.2.2.2.2.2.2.2.2.2.2.2.2.2.2.2.2.1, .ref jj.2.2.2.2.2.2.2.2.2.2.2.2.2.2.2.2.2.2.2.2.2.2.2.2.2.2.2.1], lA g jj.2.2.2.2.2.2.2.2.2.2.2.2.2.2.2.2.2.2.2.2.2.2.2.2.2.2.1 25 (fun _ => 0), lA g jj.2.2.2.2.2.2.2.2.2.2.2.2.2.2.2.2.2.2.2.2.2.2.2.2.2.2.2.1 25 (fun _ => 0), oB jj.2.2.2.2.2.2.2.2.2.2.2.2.2.2.2.2.2.2.2.2.2.2.2.2.2.2.2.2.1 0 [.ref jj.2.2.2.2.2.2.2.2.2.2.2.2.2.2.2.2.2.2.2.2.2.2.2.2.2.2.2.2.2.1, .ref jj.2.2.2.2.2.2.2.2.2.2.2.2.2.2.2.2.2.2.2.2.2.2.2.2.2.2.2.2.2.2.2.1, .ref jj.2.2.2.2.2.2.2.2.2.2.2.2.2.2.2.2.2.2.2.2.2.2.2.2.2.2.2.2.2.2.2.2.1, .ref jj.2.2.2.2.2.2.2.2.2.2.2.2.2.2.2.2.2.2.2.2.2.2.2.2.2.2.2.2.2.2.2.2.2.1, .ref jj.2.2.2.2.2.2.2.2.2.2.2.2.2.2.2.2.1, .ref jj.2.2.2.2.2.2.2.2.2.2.2.2.2.2.2.2.2.1], oB jj.2.2.2.2.2.2.2.2.2.2.2.2.2.2.2.2.2.2.2.2.2.2.2.2.2.2.2.2.2.1 7 [.ref jj.2.2.2.2.2.2.2.2.2.2.2.2.2.2.2.2.2.2.2.2.2.2.2.2.2.2.2.2.2.2.1, .int (nI 512)], bA g jj.2.2.2.2.2.2.2.2.2.2.2.2.2.2.2.2.2.2.2.2.2.2.2.2.2.2.2.2.2.2.1 512 (fun _ => 0), zA g jj.2.2.2.2.2.2.2.2.2.2.2.2.2.2.2.2.2.2.2.2.2.2.2.2.2.2.2.2.2.2.2.1 32 (fun _ => 0), iA g jj.2.2.2.2.2.2.2.2.2.2.2.2.2.2.2.2.2.2.2.2.2.2.2.2.2.2.2.2.2.2.2.2.1 35 (fun _ => 0), oB jj.2.2.2.2.2.2.2.2.2.2.2.2.2.2.2.2.2.2.2.2.2.2.2.2.2.2.2.2.2.2.2.2.2.1 7 [.ref jj.2.2.2.2.2.2.2.2.2.2.2.2.2.2.2.2.2.2.2.2.2.2.2.2.2.2.2.2.2.2.2.2.2.2.1, .int (nI 0)], bA g jj.2.2.2.2.2.2.2.2.2.2.2.2.2.2.2.2.2.2.2.2.2.2.2.2.2.2.2.2.2.2.2.2.2.2.1 560 (fun _ => 0), oB jj.2.2.2.2.2.2.2.2.2.2.2.2.2.2.2.2.2.2.2.2.2.2.2.2.2.2.2.2.2.2.2.2.2.2.2.1 9 [.ref jj.2.2.2.2.2.2.2.2.2.2.2.2.2.2.2.2.2.2.2.2.2.2.2.2.2.2.2.2.2.2.2.2.2.2.2.2.1, .ref jj.2.2.2.2.2.2.2.2.2.2.2.2.2.2.2.2.1, .ref jj.2.2.2.2.2.2.2.2.2.2.2.2.2.2.2.2.2.1, .ref jj.2.2.2.2.2.2.2.2.2.2.2.2.2.2.2.2.2.2.2.2.2.2.2.2.2.2.2.2.1], oB jj.2.2.2.2.2.2.2.2.2.2.2.2.2.2.2.2.2.2.2.2.2.2.2.2.2.2.2.2.2.2.2.2.2.2.2.2.1 7 [.ref jj.2.2.2.2.2.2.2.2.2.2.2.2.2.2.2.2.2.2.2.2.2.2.2.2.2.2.2.2.2.2.2.2.2.2.2.2.2.1, .int (nI 0)], bA g jj.2.2.2.2.2.2.2.2.2.2.2.2.2.2.2.2.2.2.2.2.2.2.2.2.2.2.2.2.2.2.2.2.2.2.2.2.2.1 256 (fun _ => 0), oB jj.2.2.2.2.2.2.2.2.2.2.2.2.2.2.2.2.2.2.2.2.2.2.2.2.2.2.2.2.2.2.2.2.2.2.2.2.2.2.1 1 [.ref jj.2.2.2.2.2.2.2.2.2.2.2.2.2.2.2.2.2.2.2.2.2.2.2.2.2.2.2.2.2.2.2.2.2.2.2.2.2.2.2.1, .ref jj.2.2.2.2.2.2.2.2.2.2.2.2.2.2.2.2.2.2.2.2.2.2.2.2.2.2.2.2.2.2.2.2.2.2.2.2.2.2.2.2.2.1, .ref jj.2.2.2.2.2.2.2.2.2.2.2.2.2.2.2.2.1, .ref jj.2.2.2.2.2.2.2.2.2.2.2.2.2.2.2.2.2.1, .ref jj.2.2.2.2.2.2.2.2.2.2.2.2.2.2.2.2.2.2.2.2.2.2.2.2.2.2.2.2.2.2.2.2.2.2.2.1], oB jj.2.2.2.2.2.2.2.2.2.2.2.2.2.2.2.2.2.2.2.2.2.2.2.2.2.2.2.2.2.2.2.2.2.2.2.2.2.2.2.1 7 [.ref jj.2.2.2.2.2.2.2.2.2.2.2.2.2.2.2.2.2.2.2.2.2.2.2.2.2.2.2.2.2.2.2.2.2.2.2.2.2.2.2.2.1, .int (nI 0)], bA g jj.2.2.2.2.2.2.2.2.2.2.2.2.2.2.2.2.2.2.2.2.2.2.2.2.2.2.2.2.2.2.2.2.2.2.2.2.2.2.2.2.1 96 (fun _ => 0), oB jj.2.2.2.2.2.2.2.2.2.2.2.2.2.2.2.2.2.2.2.2.2.2.2.2.2.2.2.2.2.2.2.2.2.2.2.2.2.2.2.2.2.1 7 [.ref jj.2.2.2.2.2.2.2.2.2.2.2.2.2.2.2.2.2.2.2.2.2.2.2.2.2.2.2.2.2.2.2.2.2.2.2.2.2.2.2.2.2.2.1, .int (nI 0)], bA g jj.2.2.2.2.2.2.2.2.2.2.2.2.2.2.2.2.2.2.2.2.2.2.2.2.2.2.2.2.2.2.2.2.2.2.2.2.2.2.2.2.2.2.1 16 (fun _ => 0), oB jj.2.2.2.2.2.2.2.2.2.2.2.2.2.2.2.2.2.2.2.2.2.2.2.2.2.2.2.2.2.2.2.2.2.2.2.2.2.2.2.2.2.2.2.1 6 [.ref jj.2.2.2.2.2.2.2.2.2.2.2.2.2.2.2.2.2.2.2.2.2.2.2.2.2.2.2.2.2.2.2.2.2.2.2.2.2.2.2.2.2.2.2.2.1, .ref jj.2.2.2.2.2.2.2.2.2.2.2.2.2.2.2.2.2.2.2.2.2.2.2.2.2.2.2.2.2.2.2.2.2.2.2.2.2.2.2.2.2.2.2.2.2.2.1, .ref jj.2.2.2.2.2.2.2.2.2.2.2.2.2.2.2.2.1, .ref jj.2.2.2.2.1, .ref jj.2.2.2.2.2.2.2.2.2.2.2.2.2.2.2.2.2.1], oB jj.2.2.2.2.2.2.2.2.2.2.2.2.2.2.2.2.2.2.2.2.2.2.2.2.2.2.2.2.2.2.2.2.2.2.2.2.2.2.2.2.2.2.2.2.1 7 [.ref jj.2.2.2.2.2.2.2.2.2.2.2.2.2.2.2.2.2.2.2.2.2.2.2.2.2.2.2.2.2.2.2.2.2.2.2.2.2.2.2.2.2.2.2.2.2.1, .int (nI 0)], bA g jj.2.2.2.2.2.2.2.2.2.2.2.2.2.2.2.2.2.2.2.2.2.2.2.2.2.2.2.2.2.2.2.2.2.2.2.2.2.2.2.2.2.2.2.2.2.1 8 (fun _ => 0), oB jj.2.2.2.2.2.2.2.2.2.2.2.2.2.2.2.2.2.2.2.2.2.2.2.2.2.2.2.2.2.2.2.2.2.2.2.2.2.2.2.2.2.2.2.2.2.2.1 7 [.ref jj.2.2.2.2.2.2.2.2.2.2.2.2.2.2.2.2.2.2.2.2.2.2.2.2.2.2.2.2.2.2.2.2.2.2.2.2.2.2.2.2.2.2.2.2.2.2.2, .int (nI 0)], bA g jj.2.2.2.2.2.2.2.2.2.2.2.2.2.2.2.2.2.2.2.2.2.2.2.2.2.2.2.2.2.2.2.2.2.2.2.2.2.2.2.2.2.2.2.2.2.2.2 32 (fun _ => 0)]) 48 4965 := by
  refine jN.of (cc := cX10_init) (own := RX10) (maxL := 1) (by decide +kernel) rfl rfl rfl (Nat.le_of_ble_eq_true rfl) ?_
  intro p e s m below meth c A Q hin hNW hX hret
  have in0 : ∀ w ∈ wsX00, w ∈ wsX10_init := (fun w h => List.mem_cons_of_mem _ (List.mem_append_left _ (List.mem_append_left _ (List.mem_append_left _ (List.mem_append_left _ (List.mem_append_left _ (List.mem_append_right _ h)))))))
  have in1 : ∀ w ∈ wsX10, w ∈ wsX10_init := (fun w h => List.mem_cons_of_mem _ (List.mem_append_left _ (List.mem_append_left _ (List.mem_append_left _ (List.mem_append_right _ h)))))
  have in5 : ∀ w ∈ wsX50, w ∈ wsX10_init := (fun w h => List.mem_cons_of_mem _ (List.mem_append_left _ (List.mem_append_left _ (List.mem_append_left _ (List.mem_append_left _ (List.mem_append_left _ (List.mem_append_left _ (List.mem_append_right _ h))))))))
  have in6 : ∀ w ∈ wsX60, w ∈ wsX10_init := (fun w h => List.mem_cons_of_mem _ (List.mem_append_left _ (List.mem_append_left _ (List.mem_append_right _ h))))
  have in7 : ∀ w ∈ wsX70, w ∈ wsX10_init := (fun w h => List.mem_cons_of_mem _ (List.mem_append_left _ (List.mem_append_left _ (List.mem_append_left _ (List.mem_append_left _ (List.mem_append_left _ (List.mem_append_left _ (List.mem_append_left _ (List.mem_append_left _ (List.mem_append_left _ (List.mem_append_right _ h)))))))))))
  have in8 : ∀ w ∈ wsX80, w ∈ wsX10_init := (fun w h => List.mem_cons_of_mem _ (List.mem_append_left _ (List.mem_append_left _ (List.mem_append_left _ (List.mem_append_left _ (List.mem_append_left _ (List.mem_append_left _ (List.mem_append_left _ (List.mem_append_right _ h)))))))))
  have in9 : ∀ w ∈ wsX90, w ∈ wsX10_init := (fun w h => List.mem_cons_of_mem _ (List.mem_append_left _ (List.mem_append_left _ (List.mem_append_left _ (List.mem_append_left _ (List.mem_append_right _ h))))))
  have in10 : ∀ w ∈ wsX100, w ∈ wsX10_init := (fun w h => List.mem_cons_of_mem _ (List.mem_append_left _ (List.mem_append_left _ (List.mem_append_left _ (List.mem_append_left _ (List.mem_append_left _ (List.mem_append_left _ (List.mem_append_left _ (List.mem_append_left _ (List.mem_append_right _ h))))))))))
  refine j_aload_n hX 0 dX10_init_0 rfl ?_
  refine j_objInit hX (List.mem_of_getElem? (i := 1) rfl) (List.mem_of_getElem? (i := 2) rfl) (List.mem_of_getElem? (i := 3) rfl) (Nat.le_of_ble_eq_true rfl) (Nat.le_of_ble_eq_true rfl) dX10_init_1 ?_
  refine j_aload_n hX 0 dX10_init_4 rfl ?_
  refine j_new hX (ci := 7) (fs := [.null, .int (nI 0)]) in7 tyX7 tyX7_ok (List.mem_of_getElem? (i := 4) rfl) (List.mem_of_getElem? (i := 5) rfl) (List.mem_of_getElem? (i := 6) rfl) rfl (fun j hj => by rcases (show j = 0 ∨ j = 1 by omega) with rfl | rfl <;> rfl) (Nat.le_of_ble_eq_true rfl) (Nat.le_of_ble_eq_true rfl) dX10_init_5 (fun a_1 => ?_)
  refine j_w [oB so 10 [.null, .null, .null, .null, .null, .null, .null, .null, .null, .null, .null, .null, .null, .null], oB a_1 7 [.null, .int (nI 0)]] rfl ?_
  refine j_dup hX dX10_init_8 rfl ?_
  refine j_sipush hX (600) dX10_init_9 (by decide) ?_
  refine j_callI hX 1 hNW (i_Row l g a_1 600 (by omega)) gX10_init_X7_init (List.mem_of_getElem? (i := 6) rfl) (List.mem_of_getElem? (i := 39) rfl) (List.mem_of_getElem? (i := 40) rfl) rfl (by decide +kernel) rfl ⟨rfl, rfl⟩ ⟨Nat.le_of_ble_eq_true rfl, Nat.le_of_ble_eq_true rfl⟩ [1] [0] rfl (by decide) [oB so 10 [.null, .null, .null, .null, .null, .null, .null, .null, .null, .null, .null, .null, .null, .null]] rfl (by decide) (by decide) rfl [.ref a_1, .ref so] rfl (Nat.le_of_ble_eq_true rfl) ⟨Nat.le_of_ble_eq_true rfl, Nat.le_of_ble_eq_true rfl⟩ dX10_init_12 ?_
  intro a_2 hu_3
  refine j_w [oB so 10 [.null, .null, .null, .null, .null, .null, .null, .null, .null, .null, .null, .null, .null, .null], oB a_1 7 [.ref a_2, .int (nI 0)], bA g a_2 600 (fun _ => 0)] rfl ?_
  refine j_pc 15 rfl ?_
  refine j_putF hX hin (v := .ref a_1) in10 tyX10 tyX10_ok nmX10 10 0 0 rfl rfl (by decide) (List.mem_of_getElem? (i := 7) rfl) rfl rfl rfl rfl rfl rfl (Nat.le_of_ble_eq_true rfl) [oB so 10 [.ref a_1, .null, .null, .null, .null, .null, .null, .null, .null, .null, .null, .null, .null, .null], oB a_1 7 [.ref a_2, .int (nI 0)], bA g a_2 600 (fun _ => 0)] rfl dX10_init_15 ?_
  refine j_aload_n hX 0 dX10_init_18 rfl ?_
  refine j_new hX (ci := 7) (fs := [.null, .int (nI 0)]) in7 tyX7 tyX7_ok (List.mem_of_getElem? (i := 4) rfl) (List.mem_of_getElem? (i := 5) rfl) (List.mem_of_getElem? (i := 6) rfl) rfl (fun j hj => by rcases (show j = 0 ∨ j = 1 by omega) with rfl | rfl <;> rfl) (Nat.le_of_ble_eq_true rfl) (Nat.le_of_ble_eq_true rfl) dX10_init_19 (fun a_4 => ?_)
  refine j_w [oB so 10 [.ref a_1, .null, .null, .null, .null, .null, .null, .null, .null, .null, .null, .null, .null, .null], oB a_1 7 [.ref a_2, .int (nI 0)], bA g a_2 600 (fun _ => 0), oB a_4 7 [.null, .int (nI 0)]] rfl ?_
  refine j_dup hX dX10_init_22 rfl ?_
  refine j_bipush hX (32) dX10_init_23 (by decide) ?_
  refine j_callI hX 1 hNW (i_Row l g a_4 32 (by omega)) gX10_init_X7_init (List.mem_of_getElem? (i := 6) rfl) (List.mem_of_getElem? (i := 39) rfl) (List.mem_of_getElem? (i := 40) rfl) rfl (by decide +kernel) rfl ⟨rfl, rfl⟩ ⟨Nat.le_of_ble_eq_true rfl, Nat.le_of_ble_eq_true rfl⟩ [3] [0, 1, 2] rfl (by decide) [oB so 10 [.ref a_1, .null, .null, .null, .null, .null, .null, .null, .null, .null, .null, .null, .null, .null], oB a_1 7 [.ref a_2, .int (nI 0)], bA g a_2 600 (fun _ => 0)] rfl (by decide) (by decide) rfl [.ref a_4, .ref so] rfl (Nat.le_of_ble_eq_true rfl) ⟨Nat.le_of_ble_eq_true rfl, Nat.le_of_ble_eq_true rfl⟩ dX10_init_25 ?_
  intro a_5 hu_6
  refine j_w [oB so 10 [.ref a_1, .null, .null, .null, .null, .null, .null, .null, .null, .null, .null, .null, .null, .null], oB a_1 7 [.ref a_2, .int (nI 0)], bA g a_2 600 (fun _ => 0), oB a_4 7 [.ref a_5, .int (nI 0)], bA g a_5 32 (fun _ => 0)] rfl ?_
  refine j_putF hX hin (v := .ref a_4) in10 tyX10 tyX10_ok nmX10 10 0 1 rfl rfl (by decide) (List.mem_of_getElem? (i := 8) rfl) rfl rfl rfl rfl rfl rfl (Nat.le_of_ble_eq_true rfl) [oB so 10 [.ref a_1, .ref a_4, .null, .null, .null, .null, .null, .null, .null, .null, .null, .null, .null, .null], oB a_1 7 [.ref a_2, .int (nI 0)], bA g a_2 600 (fun _ => 0), oB a_4 7 [.ref a_5, .int (nI 0)], bA g a_5 32 (fun _ => 0)] rfl dX10_init_28 ?_
  refine j_aload_n hX 0 dX10_init_31 rfl ?_
  refine j_pc 32 rfl ?_
  refine j_new hX (ci := 7) (fs := [.null, .int (nI 0)]) in7 tyX7 tyX7_ok (List.mem_of_getElem? (i := 4) rfl) (List.mem_of_getElem? (i := 5) rfl) (List.mem_of_getElem? (i := 6) rfl) rfl (fun j hj => by rcases (show j = 0 ∨ j = 1 by omega) with rfl | rfl <;> rfl) (Nat.le_of_ble_eq_true rfl) (Nat.le_of_ble_eq_true rfl) dX10_init_32 (fun a_7 => ?_)
  refine j_w [oB so 10 [.ref a_1, .ref a_4, .null, .null, .null, .null, .null, .null, .null, .null, .null, .null, .null, .null], oB a_1 7 [.ref a_2, .int (nI 0)], bA g a_2 600 (fun _ => 0), oB a_4 7 [.ref a_5, .int (nI 0)], bA g a_5 32 (fun _ => 0), oB a_7 7 [.null, .int (nI 0)]] rfl ?_
  refine j_dup hX dX10_init_35 rfl ?_
  refine j_bipush hX (48) dX10_init_36 (by decide) ?_
  refine j_callI hX 1 hNW (i_Row l g a_7 48 (by omega)) gX10_init_X7_init (List.mem_of_getElem? (i := 6) rfl) (List.mem_of_getElem? (i := 39) rfl) (List.mem_of_getElem? (i := 40) rfl) rfl (by decide +kernel) rfl ⟨rfl, rfl⟩ ⟨Nat.le_of_ble_eq_true rfl, Nat.le_of_ble_eq_true rfl⟩ [5] [0, 1, 2, 3, 4] rfl (by decide) [oB so 10 [.ref a_1, .ref a_4, .null, .null, .null, .null, .null, .null, .null, .null, .null, .null, .null, .null], oB a_1 7 [.ref a_2, .int (nI 0)], bA g a_2 600 (fun _ => 0), oB a_4 7 [.ref a_5, .int (nI 0)], bA g a_5 32 (fun _ => 0)] rfl (by decide) (by decide) rfl [.ref a_7, .ref so] rfl (Nat.le_of_ble_eq_true rfl) ⟨Nat.le_of_ble_eq_true rfl, Nat.le_of_ble_eq_true rfl⟩ dX10_init_38 ?_
  intro a_8 hu_9
  refine j_w [oB so 10 [.ref a_1, .ref a_4, .null, .null, .null, .null, .null, .null, .null, .null, .null, .null, .null, .null], oB a_1 7 [.ref a_2, .int (nI 0)], bA g a_2 600 (fun _ => 0), oB a_4 7 [.ref a_5, .int (nI 0)], bA g a_5 32 (fun _ => 0), oB a_7 7 [.ref a_8, .int (nI 0)], bA g a_8 48 (fun _ => 0)] rfl ?_
  refine j_putF hX hin (v := .ref a_7) in10 tyX10 tyX10_ok nmX10 10 0 2 rfl rfl (by decide) (List.mem_of_getElem? (i := 9) rfl) rfl rfl rfl rfl rfl rfl (Nat.le_of_ble_eq_true rfl) [oB so 10 [.ref a_1, .ref a_4, .ref a_7, .null, .null, .null, .null, .null, .null, .null, .null, .null, .null, .null], oB a_1 7 [.ref a_2, .int (nI 0)], bA g a_2 600 (fun _ => 0), oB a_4 7 [.ref a_5, .int (nI 0)], bA g a_5 32 (fun _ => 0), oB a_7 7 [.ref a_8, .int (nI 0)], bA g a_8 48 (fun _ => 0)] rfl dX10_init_41 ?_
  refine j_aload_n hX 0 dX10_init_44 rfl ?_
  refine j_new hX (ci := 7) (fs := [.null, .int (nI 0)]) in7 tyX7 tyX7_ok (List.mem_of_getElem? (i := 4) rfl) (List.mem_of_getElem? (i := 5) rfl) (List.mem_of_getElem? (i := 6) rfl) rfl (fun j hj => by rcases (show j = 0 ∨ j = 1 by omega) with rfl | rfl <;> rfl) (Nat.le_of_ble_eq_true rfl) (Nat.le_of_ble_eq_true rfl) dX10_init_45 (fun a_10 => ?_)
  refine j_w [oB so 10 [.ref a_1, .ref a_4, .ref a_7, .null, .null, .null, .null, .null, .null, .null, .null, .null, .null, .null], oB a_1 7 [.ref a_2, .int (nI 0)], bA g a_2 600 (fun _ => 0), oB a_4 7 [.ref a_5, .int (nI 0)], bA g a_5 32 (fun _ => 0), oB a_7 7 [.ref a_8, .int (nI 0)], bA g a_8 48 (fun _ => 0), oB a_10 7 [.null, .int (nI 0)]] rfl ?_
  refine j_dup hX dX10_init_48 rfl ?_
  refine j_pc 49 rfl ?_
  refine j_bipush hX (16) dX10_init_49 (by decide) ?_
  refine j_callI hX 1 hNW (i_Row l g a_10 16 (by omega)) gX10_init_X7_init (List.mem_of_getElem? (i := 6) rfl) (List.mem_of_getElem? (i := 39) rfl) (List.mem_of_getElem? (i := 40) rfl) rfl (by decide +kernel) rfl ⟨rfl, rfl⟩ ⟨Nat.le_of_ble_eq_true rfl, Nat.le_of_ble_eq_true rfl⟩ [7] [0, 1, 2, 3, 4, 5, 6] rfl (by decide) [oB so 10 [.ref a_1, .ref a_4, .ref a_7, .null, .null, .null, .null, .null, .null, .null, .null, .null, .null, .null], oB a_1 7 [.ref a_2, .int (nI 0)], bA g a_2 600 (fun _ => 0), oB a_4 7 [.ref a_5, .int (nI 0)], bA g a_5 32 (fun _ => 0), oB a_7 7 [.ref a_8, .int (nI 0)], bA g a_8 48 (fun _ => 0)] rfl (by decide) (by decide) rfl [.ref a_10, .ref so] rfl (Nat.le_of_ble_eq_true rfl) ⟨Nat.le_of_ble_eq_true rfl, Nat.le_of_ble_eq_true rfl⟩ dX10_init_51 ?_
  intro a_11 hu_12
  refine j_w [oB so 10 [.ref a_1, .ref a_4, .ref a_7, .null, .null, .null, .null, .null, .null, .null, .null, .null, .null, .null], oB a_1 7 [.ref a_2, .int (nI 0)], bA g a_2 600 (fun _ => 0), oB a_4 7 [.ref a_5, .int (nI 0)], bA g a_5 32 (fun _ => 0), oB a_7 7 [.ref a_8, .int (nI 0)], bA g a_8 48 (fun _ => 0), oB a_10 7 [.ref a_11, .int (nI 0)], bA g a_11 16 (fun _ => 0)] rfl ?_
  refine j_putF hX hin (v := .ref a_10) in10 tyX10 tyX10_ok nmX10 10 0 3 rfl rfl (by decide) (List.mem_of_getElem? (i := 10) rfl) rfl rfl rfl rfl rfl rfl (Nat.le_of_ble_eq_true rfl) [oB so 10 [.ref a_1, .ref a_4, .ref a_7, .ref a_10, .null, .null, .null, .null, .null, .null, .null, .null, .null, .null], oB a_1 7 [.ref a_2, .int (nI 0)], bA g a_2 600 (fun _ => 0), oB a_4 7 [.ref a_5, .int (nI 0)], bA g a_5 32 (fun _ => 0), oB a_7 7 [.ref a_8, .int (nI 0)], bA g a_8 48 (fun _ => 0), oB a_10 7 [.ref a_11, .int (nI 0)], bA g a_11 16 (fun _ => 0)] rfl dX10_init_54 ?_
  refine j_aload_n hX 0 dX10_init_57 rfl ?_
  refine j_new hX (ci := 7) (fs := [.null, .int (nI 0)]) in7 tyX7 tyX7_ok (List.mem_of_getElem? (i := 4) rfl) (List.mem_of_getElem? (i := 5) rfl) (List.mem_of_getElem? (i := 6) rfl) rfl (fun j hj => by rcases (show j = 0 ∨ j = 1 by omega) with rfl | rfl <;> rfl) (Nat.le_of_ble_eq_true rfl) (Nat.le_of_ble_eq_true rfl) dX10_init_58 (fun a_13 => ?_)
  refine j_w [oB so 10 [.ref a_1, .ref a_4, .ref a_7, .ref a_10, .null, .null, .null, .null, .null, .null, .null, .null, .null, .null], oB a_1 7 [.ref a_2, .int (nI 0)], bA g a_2 600 (fun _ => 0), oB a_4 7 [.ref a_5, .int (nI 0)], bA g a_5 32 (fun _ => 0), oB a_7 7 [.ref a_8, .int (nI 0)], bA g a_8 48 (fun _ => 0), oB a_10 7 [.ref a_11, .int (nI 0)], bA g a_11 16 (fun _ => 0), oB a_13 7 [.null, .int (nI 0)]] rfl ?_
  refine j_dup hX dX10_init_61 rfl ?_
  refine j_bipush hX (16) dX10_init_62 (by decide) ?_
  refine j_callI hX 1 hNW (i_Row l g a_13 16 (by omega)) gX10_init_X7_init (List.mem_of_getElem? (i := 6) rfl) (List.mem_of_getElem? (i := 39) rfl) (List.mem_of_getElem? (i := 40) rfl) rfl (by decide +kernel) rfl ⟨rfl, rfl⟩ ⟨Nat.le_of_ble_eq_true rfl, Nat.le_of_ble_eq_true rfl⟩ [9] [0, 1, 2, 3, 4, 5, 6, 7, 8] rfl (by decide) [oB so 10 [.ref a_1, .ref a_4, .ref a_7, .ref a_10, .null, .null, .null, .null, .null, .null, .null, .null, .null, .null], oB a_1 7 [.ref a_2, .int (nI 0)], bA g a_2 600 (fun _ => 0), oB a_4 7 [.ref a_5, .int (nI 0)], bA g a_5 32 (fun _ => 0), oB a_7 7 [.ref a_8, .int (nI 0)], bA g a_8 48 (fun _ => 0), oB a_10 7 [.ref a_11, .int (nI 0)], bA g a_11 16 (fun _ => 0)] rfl (by decide) (by decide) rfl [.ref a_13, .ref so] rfl (Nat.le_of_ble_eq_true rfl) ⟨Nat.le_of_ble_eq_true rfl, Nat.le_of_ble_eq_true rfl⟩ dX10_init_64 ?_
  intro a_14 hu_15
  refine j_w [oB so 10 [.ref a_1, .ref a_4, .ref a_7, .ref a_10, .null, .null, .null, .null, .null, .null, .null, .null, .null, .null], oB a_1 7 [.ref a_2, .int (nI 0)], bA g a_2 600 (fun _ => 0), oB a_4 7 [.ref a_5, .int (nI 0)], bA g a_5 32 (fun _ => 0), oB a_7 7 [.ref a_8, .int (nI 0)], bA g a_8 48 (fun _ => 0), oB a_10 7 [.ref a_11, .int (nI 0)], bA g a_11 16 (fun _ => 0), oB a_13 7 [.ref a_14, .int (nI 0)], bA g a_14 16 (fun _ => 0)] rfl ?_
  refine j_pc 67 rfl ?_
  refine j_putF hX hin (v := .ref a_13) in10 tyX10 tyX10_ok nmX10 10 0 4 rfl rfl (by decide) (List.mem_of_getElem? (i := 11) rfl) rfl rfl rfl rfl rfl rfl (Nat.le_of_ble_eq_true rfl) [oB so 10 [.ref a_1, .ref a_4, .ref a_7, .ref a_10, .ref a_13, .null, .null, .null, .null, .null, .null, .null, .null, .null], oB a_1 7 [.ref a_2, .int (nI 0)], bA g a_2 600 (fun _ => 0), oB a_4 7 [.ref a_5, .int (nI 0)], bA g a_5 32 (fun _ => 0), oB a_7 7 [.ref a_8, .int (nI 0)], bA g a_8 48 (fun _ => 0), oB a_10 7 [.ref a_11, .int (nI 0)], bA g a_11 16 (fun _ => 0), oB a_13 7 [.ref a_14, .int (nI 0)], bA g a_14 16 (fun _ => 0)] rfl dX10_init_67 ?_
  refine j_aload_n hX 0 dX10_init_70 rfl ?_
  refine j_new hX (ci := 7) (fs := [.null, .int (nI 0)]) in7 tyX7 tyX7_ok (List.mem_of_getElem? (i := 4) rfl) (List.mem_of_getElem? (i := 5) rfl) (List.mem_of_getElem? (i := 6) rfl) rfl (fun j hj => by rcases (show j = 0 ∨ j = 1 by omega) with rfl | rfl <;> rfl) (Nat.le_of_ble_eq_true rfl) (Nat.le_of_ble_eq_true rfl) dX10_init_71 (fun a_16 => ?_)
  refine j_w [oB so 10 [.ref a_1, .ref a_4, .ref a_7, .ref a_10, .ref a_13, .null, .null, .null, .null, .null, .null, .null, .null, .null], oB a_1 7 [.ref a_2, .int (nI 0)], bA g a_2 600 (fun _ => 0), oB a_4 7 [.ref a_5, .int (nI 0)], bA g a_5 32 (fun _ => 0), oB a_7 7 [.ref a_8, .int (nI 0)], bA g a_8 48 (fun _ => 0), oB a_10 7 [.ref a_11, .int (nI 0)], bA g a_11 16 (fun _ => 0), oB a_13 7 [.ref a_14, .int (nI 0)], bA g a_14 16 (fun _ => 0), oB a_16 7 [.null, .int (nI 0)]] rfl ?_
  refine j_dup hX dX10_init_74 rfl ?_
  refine j_sipush hX (1680) dX10_init_75 (by decide) ?_
  refine j_callI hX 1 hNW (i_Row l g a_16 1680 (by omega)) gX10_init_X7_init (List.mem_of_getElem? (i := 6) rfl) (List.mem_of_getElem? (i := 39) rfl) (List.mem_of_getElem? (i := 40) rfl) rfl (by decide +kernel) rfl ⟨rfl, rfl⟩ ⟨Nat.le_of_ble_eq_true rfl, Nat.le_of_ble_eq_true rfl⟩ [11] [0, 1, 2, 3, 4, 5, 6, 7, 8, 9, 10] rfl (by decide) [oB so 10 [.ref a_1, .ref a_4, .ref a_7, .ref a_10, .ref a_13, .null, .null, .null, .null, .null, .null, .null, .null, .null], oB a_1 7 [.ref a_2, .int (nI 0)], bA g a_2 600 (fun _ => 0), oB a_4 7 [.ref a_5, .int (nI 0)], bA g a_5 32 (fun _ => 0), oB a_7 7 [.ref a_8, .int (nI 0)], bA g a_8 48 (fun _ => 0), oB a_10 7 [.ref a_11, .int (nI 0)], bA g a_11 16 (fun _ => 0), oB a_13 7 [.ref a_14, .int (nI 0)], bA g a_14 16 (fun _ => 0)] rfl (by decide) (by decide) rfl [.ref a_16, .ref so] rfl (Nat.le_of_ble_eq_true rfl) ⟨Nat.le_of_ble_eq_true rfl, Nat.le_of_ble_eq_true rfl⟩ dX10_init_78 ?_
  intro a_17 hu_18
  refine j_w [oB so 10 [.ref a_1, .ref a_4, .ref a_7, .ref a_10, .ref a_13, .null, .null, .null, .null, .null, .null, .null, .null, .null], oB a_1 7 [.ref a_2, .int (nI 0)], bA g a_2 600 (fun _ => 0), oB a_4 7 [.ref a_5, .int (nI 0)], bA g a_5 32 (fun _ => 0), oB a_7 7 [.ref a_8, .int (nI 0)], bA g a_8 48 (fun _ => 0), oB a_10 7 [.ref a_11, .int (nI 0)], bA g a_11 16 (fun _ => 0), oB a_13 7 [.ref a_14, .int (nI 0)], bA g a_14 16 (fun _ => 0), oB a_16 7 [.ref a_17, .int (nI 0)], bA g a_17 1680 (fun _ => 0)] rfl ?_
  refine j_putF hX hin (v := .ref a_16) in10 tyX10 tyX10_ok nmX10 10 0 5 rfl rfl (by decide) (List.mem_of_getElem? (i := 12) rfl) rfl rfl rfl rfl rfl rfl (Nat.le_of_ble_eq_true rfl) [oB so 10 [.ref a_1, .ref a_4, .ref a_7, .ref a_10, .ref a_13, .ref a_16, .null, .null, .null, .null, .null, .null, .null, .null], oB a_1 7 [.ref a_2, .int (nI 0)], bA g a_2 600 (fun _ => 0), oB a_4 7 [.ref a_5, .int (nI 0)], bA g a_5 32 (fun _ => 0), oB a_7 7 [.ref a_8, .int (nI 0)], bA g a_8 48 (fun _ => 0), oB a_10 7 [.ref a_11, .int (nI 0)], bA g a_11 16 (fun _ => 0), oB a_13 7 [.ref a_14, .int (nI 0)], bA g a_14 16 (fun _ => 0), oB a_16 7 [.ref a_17, .int (nI 0)], bA g a_17 1680 (fun _ => 0)] rfl dX10_init_81 ?_
  refine j_aload_n hX 0 dX10_init_84 rfl ?_
  refine j_pc 85 rfl ?_
  refine j_new hX (ci := 7) (fs := [.null, .int (nI 0)]) in7 tyX7 tyX7_ok (List.mem_of_getElem? (i := 4) rfl) (List.mem_of_getElem? (i := 5) rfl) (List.mem_of_getElem? (i := 6) rfl) rfl (fun j hj => by rcases (show j = 0 ∨ j = 1 by omega) with rfl | rfl <;> rfl) (Nat.le_of_ble_eq_true rfl) (Nat.le_of_ble_eq_true rfl) dX10_init_85 (fun a_19 => ?_)
  refine j_w [oB so 10 [.ref a_1, .ref a_4, .ref a_7, .ref a_10, .ref a_13, .ref a_16, .null, .null, .null, .null, .null, .null, .null, .null], oB a_1 7 [.ref a_2, .int (nI 0)], bA g a_2 600 (fun _ => 0), oB a_4 7 [.ref a_5, .int (nI 0)], bA g a_5 32 (fun _ => 0), oB a_7 7 [.ref a_8, .int (nI 0)], bA g a_8 48 (fun _ => 0), oB a_10 7 [.ref a_11, .int (nI 0)], bA g a_11 16 (fun _ => 0), oB a_13 7 [.ref a_14, .int (nI 0)], bA g a_14 16 (fun _ => 0), oB a_16 7 [.ref a_17, .int (nI 0)], bA g a_17 1680 (fun _ => 0), oB a_19 7 [.null, .int (nI 0)]] rfl ?_
  refine j_dup hX dX10_init_88 rfl ?_
  refine j_bipush hX (16) dX10_init_89 (by decide) ?_
  refine j_callI hX 1 hNW (i_Row l g a_19 16 (by omega)) gX10_init_X7_init (List.mem_of_getElem? (i := 6) rfl) (List.mem_of_getElem? (i := 39) rfl) (List.mem_of_getElem? (i := 40) rfl) rfl (by decide +kernel) rfl ⟨rfl, rfl⟩ ⟨Nat.le_of_ble_eq_true rfl, Nat.le_of_ble_eq_true rfl⟩ [13] [0, 1, 2, 3, 4, 5, 6, 7, 8, 9, 10, 11, 12] rfl (by decide) [oB so 10 [.ref a_1, .ref a_4, .ref a_7, .ref a_10, .ref a_13, .ref a_16, .null, .null, .null, .null, .null, .null, .null, .null], oB a_1 7 [.ref a_2, .int (nI 0)], bA g a_2 600 (fun _ => 0), oB a_4 7 [.ref a_5, .int (nI 0)], bA g a_5 32 (fun _ => 0), oB a_7 7 [.ref a_8, .int (nI 0)], bA g a_8 48 (fun _ => 0), oB a_10 7 [.ref a_11, .int (nI 0)], bA g a_11 16 (fun _ => 0), oB a_13 7 [.ref a_14, .int (nI 0)], bA g a_14 16 (fun _ => 0), oB a_16 7 [.ref a_17, .int (nI 0)], bA g a_17 1680 (fun _ => 0)] rfl (by decide) (by decide) rfl [.ref a_19, .ref so] rfl (Nat.le_of_ble_eq_true rfl) ⟨Nat.le_of_ble_eq_true rfl, Nat.le_of_ble_eq_true rfl⟩ dX10_init_91 ?_
  intro a_20 hu_21
  refine j_w [oB so 10 [.ref a_1, .ref a_4, .ref a_7, .ref a_10, .ref a_13, .ref a_16, .null, .null, .null, .null, .null, .null, .null, .null], oB a_1 7 [.ref a_2, .int (nI 0)], bA g a_2 600 (fun _ => 0), oB a_4 7 [.ref a_5, .int (nI 0)], bA g a_5 32 (fun _ => 0), oB a_7 7 [.ref a_8, .int (nI 0)], bA g a_8 48 (fun _ => 0), oB a_10 7 [.ref a_11, .int (nI 0)], bA g a_11 16 (fun _ => 0), oB a_13 7 [.ref a_14, .int (nI 0)], bA g a_14 16 (fun _ => 0), oB a_16 7 [.ref a_17, .int (nI 0)], bA g a_17 1680 (fun _ => 0), oB a_19 7 [.ref a_20, .int (nI 0)], bA g a_20 16 (fun _ => 0)] rfl ?_
  refine j_putF hX hin (v := .ref a_19) in10 tyX10 tyX10_ok nmX10 10 0 6 rfl rfl (by decide) (List.mem_of_getElem? (i := 13) rfl) rfl rfl rfl rfl rfl rfl (Nat.le_of_ble_eq_true rfl) [oB so 10 [.ref a_1, .ref a_4, .ref a_7, .ref a_10, .ref a_13, .ref a_16, .ref a_19, .null, .null, .null, .null, .null, .null, .null], oB a_1 7 [.ref a_2, .int (nI 0)], bA g a_2 600 (fun _ => 0), oB a_4 7 [.ref a_5, .int (nI 0)], bA g a_5 32 (fun _ => 0), oB a_7 7 [.ref a_8, .int (nI 0)], bA g a_8 48 (fun _ => 0), oB a_10 7 [.ref a_11, .int (nI 0)], bA g a_11 16 (fun _ => 0), oB a_13 7 [.ref a_14, .int (nI 0)], bA g a_14 16 (fun _ => 0), oB a_16 7 [.ref a_17, .int (nI 0)], bA g a_17 1680 (fun _ => 0), oB a_19 7 [.ref a_20, .int (nI 0)], bA g a_20 16 (fun _ => 0)] rfl dX10_init_94 ?_
  refine j_aload_n hX 0 dX10_init_97 rfl ?_
  refine j_new hX (ci := 7) (fs := [.null, .int (nI 0)]) in7 tyX7 tyX7_ok (List.mem_of_getElem? (i := 4) rfl) (List.mem_of_getElem? (i := 5) rfl) (List.mem_of_getElem? (i := 6) rfl) rfl (fun j hj => by rcases (show j = 0 ∨ j = 1 by omega) with rfl | rfl <;> rfl) (Nat.le_of_ble_eq_true rfl) (Nat.le_of_ble_eq_true rfl) dX10_init_98 (fun a_22 => ?_)
  refine j_w [oB so 10 [.ref a_1, .ref a_4, .ref a_7, .ref a_10, .ref a_13, .ref a_16, .ref a_19, .null, .null, .null, .null, .null, .null, .null], oB a_1 7 [.ref a_2, .int (nI 0)], bA g a_2 600 (fun _ => 0), oB a_4 7 [.ref a_5, .int (nI 0)], bA g a_5 32 (fun _ => 0), oB a_7 7 [.ref a_8, .int (nI 0)], bA g a_8 48 (fun _ => 0), oB a_10 7 [.ref a_11, .int (nI 0)], bA g a_11 16 (fun _ => 0), oB a_13 7 [.ref a_14, .int (nI 0)], bA g a_14 16 (fun _ => 0), oB a_16 7 [.ref a_17, .int (nI 0)], bA g a_17 1680 (fun _ => 0), oB a_19 7 [.ref a_20, .int (nI 0)], bA g a_20 16 (fun _ => 0), oB a_22 7 [.null, .int (nI 0)]] rfl ?_
  refine j_dup hX dX10_init_101 rfl ?_
  refine j_pc 102 rfl ?_
  refine j_bipush hX (16) dX10_init_102 (by decide) ?_
  refine j_callI hX 1 hNW (i_Row l g a_22 16 (by omega)) gX10_init_X7_init (List.mem_of_getElem? (i := 6) rfl) (List.mem_of_getElem? (i := 39) rfl) (List.mem_of_getElem? (i := 40) rfl) rfl (by decide +kernel) rfl ⟨rfl, rfl⟩ ⟨Nat.le_of_ble_eq_true rfl, Nat.le_of_ble_eq_true rfl⟩ [15] [0, 1, 2, 3, 4, 5, 6, 7, 8, 9, 10, 11, 12, 13, 14] rfl (by decide) [oB so 10 [.ref a_1, .ref a_4, .ref a_7, .ref a_10, .ref a_13, .ref a_16, .ref a_19, .null, .null, .null, .null, .null, .null, .null], oB a_1 7 [.ref a_2, .int (nI 0)], bA g a_2 600 (fun _ => 0), oB a_4 7 [.ref a_5, .int (nI 0)], bA g a_5 32 (fun _ => 0), oB a_7 7 [.ref a_8, .int (nI 0)], bA g a_8 48 (fun _ => 0), oB a_10 7 [.ref a_11, .int (nI 0)], bA g a_11 16 (fun _ => 0), oB a_13 7 [.ref a_14, .int (nI 0)], bA g a_14 16 (fun _ => 0), oB a_16 7 [.ref a_17, .int (nI 0)], bA g a_17 1680 (fun _ => 0), oB a_19 7 [.ref a_20, .int (nI 0)], bA g a_20 16 (fun _ => 0)] rfl (by decide) (by decide) rfl [.ref a_22, .ref so] rfl (Nat.le_of_ble_eq_true rfl) ⟨Nat.le_of_ble_eq_true rfl, Nat.le_of_ble_eq_true rfl⟩ dX10_init_104 ?_
  intro a_23 hu_24
  refine j_w [oB so 10 [.ref a_1, .ref a_4, .ref a_7, .ref a_10, .ref a_13, .ref a_16, .ref a_19, .null, .null, .null, .null, .null, .null, .null], oB a_1 7 [.ref a_2, .int (nI 0)], bA g a_2 600 (fun _ => 0), oB a_4 7 [.ref a_5, .int (nI 0)], bA g a_5 32 (fun _ => 0), oB a_7 7 [.ref a_8, .int (nI 0)], bA g a_8 48 (fun _ => 0), oB a_10 7 [.ref a_11, .int (nI 0)], bA g a_11 16 (fun _ => 0), oB a_13 7 [.ref a_14, .int (nI 0)], bA g a_14 16 (fun _ => 0), oB a_16 7 [.ref a_17, .int (nI 0)], bA g a_17 1680 (fun _ => 0), oB a_19 7 [.ref a_20, .int (nI 0)], bA g a_20 16 (fun _ => 0), oB a_22 7 [.ref a_23, .int (nI 0)], bA g a_23 16 (fun _ => 0)] rfl ?_
  refine j_putF hX hin (v := .ref a_22) in10 tyX10 tyX10_ok nmX10 10 0 7 rfl rfl (by decide) (List.mem_of_getElem? (i := 14) rfl) rfl rfl rfl rfl rfl rfl (Nat.le_of_ble_eq_true rfl) [oB so 10 [.ref a_1, .ref a_4, .ref a_7, .ref a_10, .ref a_13, .ref a_16, .ref a_19, .ref a_22, .null, .null, .null, .null, .null, .null], oB a_1 7 [.ref a_2, .int (nI 0)], bA g a_2 600 (fun _ => 0), oB a_4 7 [.ref a_5, .int (nI 0)], bA g a_5 32 (fun _ => 0), oB a_7 7 [.ref a_8, .int (nI 0)], bA g a_8 48 (fun _ => 0), oB a_10 7 [.ref a_11, .int (nI 0)], bA g a_11 16 (fun _ => 0), oB a_13 7 [.ref a_14, .int (nI 0)], bA g a_14 16 (fun _ => 0), oB a_16 7 [.ref a_17, .int (nI 0)], bA g a_17 1680 (fun _ => 0), oB a_19 7 [.ref a_20, .int (nI 0)], bA g a_20 16 (fun _ => 0), oB a_22 7 [.ref a_23, .int (nI 0)], bA g a_23 16 (fun _ => 0)] rfl dX10_init_107 ?_
  refine j_aload_n hX 0 dX10_init_110 rfl ?_
  refine j_new hX (ci := 8) (fs := [.int (nI 0), .int (nI 0), .int (nI 0), .int (nI 0), .int (nI 0), .int (nI 0)]) in8 tyX8 tyX8_ok (List.mem_of_getElem? (i := 15) rfl) (List.mem_of_getElem? (i := 16) rfl) (List.mem_of_getElem? (i := 17) rfl) rfl (fun j hj => by rcases (show j = 0 ∨ j = 1 ∨ j = 2 ∨ j = 3 ∨ j = 4 ∨ j = 5 by omega) with rfl | rfl | rfl | rfl | rfl | rfl <;> rfl) (Nat.le_of_ble_eq_true rfl) (Nat.le_of_ble_eq_true rfl) dX10_init_111 (fun a_25 => ?_)
  refine j_w [oB so 10 [.ref a_1, .ref a_4, .ref a_7, .ref a_10, .ref a_13, .ref a_16, .ref a_19, .ref a_22, .null, .null, .null, .null, .null, .null], oB a_1 7 [.ref a_2, .int (nI 0)], bA g a_2 600 (fun _ => 0), oB a_4 7 [.ref a_5, .int (nI 0)], bA g a_5 32 (fun _ => 0), oB a_7 7 [.ref a_8, .int (nI 0)], bA g a_8 48 (fun _ => 0), oB a_10 7 [.ref a_11, .int (nI 0)], bA g a_11 16 (fun _ => 0), oB a_13 7 [.ref a_14, .int (nI 0)], bA g a_14 16 (fun _ => 0), oB a_16 7 [.ref a_17, .int (nI 0)], bA g a_17 1680 (fun _ => 0), oB a_19 7 [.ref a_20, .int (nI 0)], bA g a_20 16 (fun _ => 0), oB a_22 7 [.ref a_23, .int (nI 0)], bA g a_23 16 (fun _ => 0), oB a_25 8 [.int (nI 0), .int (nI 0), .int (nI 0), .int (nI 0), .int (nI 0), .int (nI 0)]] rfl ?_
  refine j_dup hX dX10_init_114 rfl ?_
  refine j_callI hX 0 hNW (i_Shape l g a_25 ) gX10_init_X8_init (List.mem_of_getElem? (i := 17) rfl) (List.mem_of_getElem? (i := 49) rfl) (List.mem_of_getElem? (i := 50) rfl) rfl (by decide +kernel) rfl ⟨rfl, rfl⟩ ⟨Nat.le_of_ble_eq_true rfl, Nat.le_of_ble_eq_true rfl⟩ [17] [0, 1, 2, 3, 4, 5, 6, 7, 8, 9, 10, 11, 12, 13, 14, 15, 16] rfl (by decide) [oB so 10 [.ref a_1, .ref a_4, .ref a_7, .ref a_10, .ref a_13, .ref a_16, .ref a_19, .ref a_22, .null, .null, .null, .null, .null, .null], oB a_1 7 [.ref a_2, .int (nI 0)], bA g a_2 600 (fun _ => 0), oB a_4 7 [.ref a_5, .int (nI 0)], bA g a_5 32 (fun _ => 0), oB a_7 7 [.ref a_8, .int (nI 0)], bA g a_8 48 (fun _ => 0), oB a_10 7 [.ref a_11, .int (nI 0)], bA g a_11 16 (fun _ => 0), oB a_13 7 [.ref a_14, .int (nI 0)], bA g a_14 16 (fun _ => 0), oB a_16 7 [.ref a_17, .int (nI 0)], bA g a_17 1680 (fun _ => 0), oB a_19 7 [.ref a_20, .int (nI 0)], bA g a_20 16 (fun _ => 0), oB a_22 7 [.ref a_23, .int (nI 0)], bA g a_23 16 (fun _ => 0)] rfl (by decide) (by decide) rfl [.ref a_25, .ref so] rfl (Nat.le_of_ble_eq_true rfl) ⟨Nat.le_of_ble_eq_true rfl, Nat.le_of_ble_eq_true rfl⟩ dX10_init_115 ?_
  intro _ hu_26
  refine j_w [oB so 10 [.ref a_1, .ref a_4, .ref a_7, .ref a_10, .ref a_13, .ref a_16, .ref a_19, .ref a_22, .null, .null, .null, .null, .null, .null], oB a_1 7 [.ref a_2, .int (nI 0)], bA g a_2 600 (fun _ => 0), oB a_4 7 [.ref a_5, .int (nI 0)], bA g a_5 32 (fun _ => 0), oB a_7 7 [.ref a_8, .int (nI 0)], bA g a_8 48 (fun _ => 0), oB a_10 7 [.ref a_11, .int (nI 0)], bA g a_11 16 (fun _ => 0), oB a_13 7 [.ref a_14, .int (nI 0)], bA g a_14 16 (fun _ => 0), oB a_16 7 [.ref a_17, .int (nI 0)], bA g a_17 1680 (fun _ => 0), oB a_19 7 [.ref a_20, .int (nI 0)], bA g a_20 16 (fun _ => 0), oB a_22 7 [.ref a_23, .int (nI 0)], bA g a_23 16 (fun _ => 0), oB a_25 8 [.int (nI 0), .int (nI 4), .int (nI 1), .int (nI 1), .int (nI 1), .int (nI 1)]] rfl ?_
  refine j_putF hX hin (v := .ref a_25) in10 tyX10 tyX10_ok nmX10 10 0 8 rfl rfl (by decide) (List.mem_of_getElem? (i := 18) rfl) rfl rfl rfl rfl rfl rfl (Nat.le_of_ble_eq_true rfl) [oB so 10 [.ref a_1, .ref a_4, .ref a_7, .ref a_10, .ref a_13, .ref a_16, .ref a_19, .ref a_22, .ref a_25, .null, .null, .null, .null, .null], oB a_1 7 [.ref a_2, .int (nI 0)], bA g a_2 600 (fun _ => 0), oB a_4 7 [.ref a_5, .int (nI 0)], bA g a_5 32 (fun _ => 0), oB a_7 7 [.ref a_8, .int (nI 0)], bA g a_8 48 (fun _ => 0), oB a_10 7 [.ref a_11, .int (nI 0)], bA g a_11 16 (fun _ => 0), oB a_13 7 [.ref a_14, .int (nI 0)], bA g a_14 16 (fun _ => 0), oB a_16 7 [.ref a_17, .int (nI 0)], bA g a_17 1680 (fun _ => 0), oB a_19 7 [.ref a_20, .int (nI 0)], bA g a_20 16 (fun _ => 0), oB a_22 7 [.ref a_23, .int (nI 0)], bA g a_23 16 (fun _ => 0), oB a_25 8 [.int (nI 0), .int (nI 4), .int (nI 1), .int (nI 1), .int (nI 1), .int (nI 1)]] rfl dX10_init_118 ?_
  refine j_pc 121 rfl ?_
  refine j_aload_n hX 0 dX10_init_121 rfl ?_
  refine j_new hX (ci := 5) (fs := [.null, .null, .null, .null, .null, .null, .int (nI 0), .int (nI 0)]) in5 tyX5 tyX5_ok (List.mem_of_getElem? (i := 19) rfl) (List.mem_of_getElem? (i := 20) rfl) (List.mem_of_getElem? (i := 21) rfl) rfl (fun j hj => by rcases (show j = 0 ∨ j = 1 ∨ j = 2 ∨ j = 3 ∨ j = 4 ∨ j = 5 ∨ j = 6 ∨ j = 7 by omega) with rfl | rfl | rfl | rfl | rfl | rfl | rfl | rfl <;> rfl) (Nat.le_of_ble_eq_true rfl) (Nat.le_of_ble_eq_true rfl) dX10_init_122 (fun a_27 => ?_)
  refine j_w [oB so 10 [.ref a_1, .ref a_4, .ref a_7, .ref a_10, .ref a_13, .ref a_16, .ref a_19, .ref a_22, .ref a_25, .null, .null, .null, .null, .null], oB a_1 7 [.ref a_2, .int (nI 0)], bA g a_2 600 (fun _ => 0), oB a_4 7 [.ref a_5, .int (nI 0)], bA g a_5 32 (fun _ => 0), oB a_7 7 [.ref a_8, .int (nI 0)], bA g a_8 48 (fun _ => 0), oB a_10 7 [.ref a_11, .int (nI 0)], bA g a_11 16 (fun _ => 0), oB a_13 7 [.ref a_14, .int (nI 0)], bA g a_14 16 (fun _ => 0), oB a_16 7 [.ref a_17, .int (nI 0)], bA g a_17 1680 (fun _ => 0), oB a_19 7 [.ref a_20, .int (nI 0)], bA g a_20 16 (fun _ => 0), oB a_22 7 [.ref a_23, .int (nI 0)], bA g a_23 16 (fun _ => 0), oB a_25 8 [.int (nI 0), .int (nI 4), .int (nI 1), .int (nI 1), .int (nI 1), .int (nI 1)], oB a_27 5 [.null, .null, .null, .null, .null, .null, .int (nI 0), .int (nI 0)]] rfl ?_
  refine j_dup hX dX10_init_125 rfl ?_
  refine j_aload_n hX 0 dX10_init_126 rfl ?_
  refine j_get hX in10 10 0 8 (v := .ref a_25) rfl rfl (by decide) (List.mem_of_getElem? (i := 18) rfl) rfl rfl dX10_init_127 ?_
  refine j_aload_n hX 0 dX10_init_130 rfl ?_
  refine j_get hX in10 10 0 2 (v := .ref a_7) rfl rfl (by decide) (List.mem_of_getElem? (i := 9) rfl) rfl rfl dX10_init_131 ?_
  refine j_callI hX 2 hNW (i_Hasher l g a_27 a_25 a_7 ) gX10_init_X5_init (List.mem_of_getElem? (i := 21) rfl) (List.mem_of_getElem? (i := 63) rfl) (List.mem_of_getElem? (i := 64) rfl) rfl (by decide +kernel) rfl ⟨rfl, rfl⟩ ⟨Nat.le_of_ble_eq_true rfl, Nat.le_of_ble_eq_true rfl⟩ [18] [0, 1, 2, 3, 4, 5, 6, 7, 8, 9, 10, 11, 12, 13, 14, 15, 16, 17] rfl (by decide) [oB so 10 [.ref a_1, .ref a_4, .ref a_7, .ref a_10, .ref a_13, .ref a_16, .ref a_19, .ref a_22, .ref a_25, .null, .null, .null, .null, .null], oB a_1 7 [.ref a_2, .int (nI 0)], bA g a_2 600 (fun _ => 0), oB a_4 7 [.ref a_5, .int (nI 0)], bA g a_5 32 (fun _ => 0), oB a_7 7 [.ref a_8, .int (nI 0)], bA g a_8 48 (fun _ => 0), oB a_10 7 [.ref a_11, .int (nI 0)], bA g a_11 16 (fun _ => 0), oB a_13 7 [.ref a_14, .int (nI 0)], bA g a_14 16 (fun _ => 0), oB a_16 7 [.ref a_17, .int (nI 0)], bA g a_17 1680 (fun _ => 0), oB a_19 7 [.ref a_20, .int (nI 0)], bA g a_20 16 (fun _ => 0), oB a_22 7 [.ref a_23, .int (nI 0)], bA g a_23 16 (fun _ => 0), oB a_25 8 [.int (nI 0), .int (nI 4), .int (nI 1), .int (nI 1), .int (nI 1), .int (nI 1)]] rfl (by decide) (by decide) rfl [.ref a_27, .ref so] rfl (Nat.le_of_ble_eq_true rfl) ⟨Nat.le_of_ble_eq_true rfl, Nat.le_of_ble_eq_true rfl⟩ dX10_init_134 ?_
  rintro ⟨a_28, a_29, a_30, a_31, a_32, a_33, a_34, a_35, a_36, a_37⟩ hu_38
  refine j_w [oB so 10 [.ref a_1, .ref a_4, .ref a_7, .ref a_10, .ref a_13, .ref a_16, .ref a_19, .ref a_22, .ref a_25, .null, .null, .null, .null, .null], oB a_1 7 [.ref a_2, .int (nI 0)], bA g a_2 600 (fun _ => 0), oB a_4 7 [.ref a_5, .int (nI 0)], bA g a_5 32 (fun _ => 0), oB a_7 7 [.ref a_8, .int (nI 0)], bA g a_8 48 (fun _ => 0), oB a_10 7 [.ref a_11, .int (nI 0)], bA g a_11 16 (fun _ => 0), oB a_13 7 [.ref a_14, .int (nI 0)], bA g a_14 16 (fun _ => 0), oB a_16 7 [.ref a_17, .int (nI 0)], bA g a_17 1680 (fun _ => 0), oB a_19 7 [.ref a_20, .int (nI 0)], bA g a_20 16 (fun _ => 0), oB a_22 7 [.ref a_23, .int (nI 0)], bA g a_23 16 (fun _ => 0), oB a_25 8 [.int (nI 0), .int (nI 4), .int (nI 1), .int (nI 1), .int (nI 1), .int (nI 1)], oB a_27 5 [.ref a_28, .ref a_30, .ref a_32, .ref a_35, .ref a_25, .ref a_7, .int (nI 0), .int (nI 0)], oB a_28 7 [.ref a_29, .int (nI 0)], bA g a_29 768 (fun _ => 0), oB a_30 7 [.ref a_31, .int (nI 0)], bA g a_31 32 (fun _ => 0), oB a_32 4 [.ref a_33, .ref a_34], iA g a_33 8 (fun _ => 0), iA g a_34 64 (fun _ => 0), oB a_35 3 [.ref a_36, .ref a_37], lA g a_36 25 (fun _ => 0), lA g a_37 25 (fun _ => 0)] rfl ?_
  refine j_pc 137 rfl ?_
  refine j_putF hX hin (v := .ref a_27) in10 tyX10 tyX10_ok nmX10 10 0 9 rfl rfl (by decide) (List.mem_of_getElem? (i := 22) rfl) rfl rfl rfl rfl rfl rfl (Nat.le_of_ble_eq_true rfl) [oB so 10 [.ref a_1, .ref a_4, .ref a_7, .ref a_10, .ref a_13, .ref a_16, .ref a_19, .ref a_22, .ref a_25, .ref a_27, .null, .null, .null, .null], oB a_1 7 [.ref a_2, .int (nI 0)], bA g a_2 600 (fun _ => 0), oB a_4 7 [.ref a_5, .int (nI 0)], bA g a_5 32 (fun _ => 0), oB a_7 7 [.ref a_8, .int (nI 0)], bA g a_8 48 (fun _ => 0), oB a_10 7 [.ref a_11, .int (nI 0)], bA g a_11 16 (fun _ => 0), oB a_13 7 [.ref a_14, .int (nI 0)], bA g a_14 16 (fun _ => 0), oB a_16 7 [.ref a_17, .int (nI 0)], bA g a_17 1680 (fun _ => 0), oB a_19 7 [.ref a_20, .int (nI 0)], bA g a_20 16 (fun _ => 0), oB a_22 7 [.ref a_23, .int (nI 0)], bA g a_23 16 (fun _ => 0), oB a_25 8 [.int (nI 0), .int (nI 4), .int (nI 1), .int (nI 1), .int (nI 1), .int (nI 1)], oB a_27 5 [.ref a_28, .ref a_30, .ref a_32, .ref a_35, .ref a_25, .ref a_7, .int (nI 0), .int (nI 0)], oB a_28 7 [.ref a_29, .int (nI 0)], bA g a_29 768 (fun _ => 0), oB a_30 7 [.ref a_31, .int (nI 0)], bA g a_31 32 (fun _ => 0), oB a_32 4 [.ref a_33, .ref a_34], iA g a_33 8 (fun _ => 0), iA g a_34 64 (fun _ => 0), oB a_35 3 [.ref a_36, .ref a_37], lA g a_36 25 (fun _ => 0), lA g a_37 25 (fun _ => 0)] rfl dX10_init_137 ?_
  refine j_aload_n hX 0 dX10_init_140 rfl ?_
  refine j_new hX (ci := 0) (fs := [.null, .null, .null, .null, .null, .null]) in0 tyX0 tyX0_ok (List.mem_of_getElem? (i := 23) rfl) (List.mem_of_getElem? (i := 24) rfl) (List.mem_of_getElem? (i := 25) rfl) rfl (fun j hj => by rcases (show j = 0 ∨ j = 1 ∨ j = 2 ∨ j = 3 ∨ j = 4 ∨ j = 5 by omega) with rfl | rfl | rfl | rfl | rfl | rfl <;> rfl) (Nat.le_of_ble_eq_true rfl) (Nat.le_of_ble_eq_true rfl) dX10_init_141 (fun a_39 => ?_)
  refine j_w [oB so 10 [.ref a_1, .ref a_4, .ref a_7, .ref a_10, .ref a_13, .ref a_16, .ref a_19, .ref a_22, .ref a_25, .ref a_27, .null, .null, .null, .null], oB a_1 7 [.ref a_2, .int (nI 0)], bA g a_2 600 (fun _ => 0), oB a_4 7 [.ref a_5, .int (nI 0)], bA g a_5 32 (fun _ => 0), oB a_7 7 [.ref a_8, .int (nI 0)], bA g a_8 48 (fun _ => 0), oB a_10 7 [.ref a_11, .int (nI 0)], bA g a_11 16 (fun _ => 0), oB a_13 7 [.ref a_14, .int (nI 0)], bA g a_14 16 (fun _ => 0), oB a_16 7 [.ref a_17, .int (nI 0)], bA g a_17 1680 (fun _ => 0), oB a_19 7 [.ref a_20, .int (nI 0)], bA g a_20 16 (fun _ => 0), oB a_22 7 [.ref a_23, .int (nI 0)], bA g a_23 16 (fun _ => 0), oB a_25 8 [.int (nI 0), .int (nI 4), .int (nI 1), .int (nI 1), .int (nI 1), .int (nI 1)], oB a_27 5 [.ref a_28, .ref a_30, .ref a_32, .ref a_35, .ref a_25, .ref a_7, .int (nI 0), .int (nI 0)], oB a_28 7 [.ref a_29, .int (nI 0)], bA g a_29 768 (fun _ => 0), oB a_30 7 [.ref a_31, .int (nI 0)], bA g a_31 32 (fun _ => 0), oB a_32 4 [.ref a_33, .ref a_34], iA g a_33 8 (fun _ => 0), iA g a_34 64 (fun _ => 0), oB a_35 3 [.ref a_36, .ref a_37], lA g a_36 25 (fun _ => 0), lA g a_37 25 (fun _ => 0), oB a_39 0 [.null, .null, .null, .null, .null, .null]] rfl ?_
  refine j_dup hX dX10_init_144 rfl ?_
  refine j_aload_n hX 0 dX10_init_145 rfl ?_
  refine j_get hX in10 10 0 8 (v := .ref a_25) rfl rfl (by decide) (List.mem_of_getElem? (i := 18) rfl) rfl rfl dX10_init_146 ?_
  refine j_aload_n hX 0 dX10_init_149 rfl ?_
  refine j_get hX in10 10 0 9 (v := .ref a_27) rfl rfl (by decide) (List.mem_of_getElem? (i := 22) rfl) rfl rfl dX10_init_150 ?_
  refine j_pc 153 rfl ?_
  refine j_callI hX 2 hNW (i_Chains l g a_39 a_25 a_27 ) gX10_init_X0_init (List.mem_of_getElem? (i := 25) rfl) (List.mem_of_getElem? (i := 95) rfl) (List.mem_of_getElem? (i := 96) rfl) rfl (by decide +kernel) rfl ⟨rfl, rfl⟩ ⟨Nat.le_of_ble_eq_true rfl, Nat.le_of_ble_eq_true rfl⟩ [29] [0, 1, 2, 3, 4, 5, 6, 7, 8, 9, 10, 11, 12, 13, 14, 15, 16, 17, 18, 19, 20, 21, 22, 23, 24, 25, 26, 27, 28] rfl (by decide) [oB so 10 [.ref a_1, .ref a_4, .ref a_7, .ref a_10, .ref a_13, .ref a_16, .ref a_19, .ref a_22, .ref a_25, .ref a_27, .null, .null, .null, .null], oB a_1 7 [.ref a_2, .int (nI 0)], bA g a_2 600 (fun _ => 0), oB a_4 7 [.ref a_5, .int (nI 0)], bA g a_5 32 (fun _ => 0), oB a_7 7 [.ref a_8, .int (nI 0)], bA g a_8 48 (fun _ => 0), oB a_10 7 [.ref a_11, .int (nI 0)], bA g a_11 16 (fun _ => 0), oB a_13 7 [.ref a_14, .int (nI 0)], bA g a_14 16 (fun _ => 0), oB a_16 7 [.ref a_17, .int (nI 0)], bA g a_17 1680 (fun _ => 0), oB a_19 7 [.ref a_20, .int (nI 0)], bA g a_20 16 (fun _ => 0), oB a_22 7 [.ref a_23, .int (nI 0)], bA g a_23 16 (fun _ => 0), oB a_25 8 [.int (nI 0), .int (nI 4), .int (nI 1), .int (nI 1), .int (nI 1), .int (nI 1)], oB a_27 5 [.ref a_28, .ref a_30, .ref a_32, .ref a_35, .ref a_25, .ref a_7, .int (nI 0), .int (nI 0)], oB a_28 7 [.ref a_29, .int (nI 0)], bA g a_29 768 (fun _ => 0), oB a_30 7 [.ref a_31, .int (nI 0)], bA g a_31 32 (fun _ => 0), oB a_32 4 [.ref a_33, .ref a_34], iA g a_33 8 (fun _ => 0), iA g a_34 64 (fun _ => 0), oB a_35 3 [.ref a_36, .ref a_37], lA g a_36 25 (fun _ => 0), lA g a_37 25 (fun _ => 0)] rfl (by decide) (by decide) rfl [.ref a_39, .ref so] rfl (Nat.le_of_ble_eq_true rfl) ⟨Nat.le_of_ble_eq_true rfl, Nat.le_of_ble_eq_true rfl⟩ dX10_init_153 ?_
  rintro ⟨a_40, a_41, a_42, a_43, a_44, a_45⟩ hu_46
  refine j_w [oB so 10 [.ref a_1, .ref a_4, .ref a_7, .ref a_10, .ref a_13, .ref a_16, .ref a_19, .ref a_22, .ref a_25, .ref a_27, .null, .null, .null, .null], oB a_1 7 [.ref a_2, .int (nI 0)], bA g a_2 600 (fun _ => 0), oB a_4 7 [.ref a_5, .int (nI 0)], bA g a_5 32 (fun _ => 0), oB a_7 7 [.ref a_8, .int (nI 0)], bA g a_8 48 (fun _ => 0), oB a_10 7 [.ref a_11, .int (nI 0)], bA g a_11 16 (fun _ => 0), oB a_13 7 [.ref a_14, .int (nI 0)], bA g a_14 16 (fun _ => 0), oB a_16 7 [.ref a_17, .int (nI 0)], bA g a_17 1680 (fun _ => 0), oB a_19 7 [.ref a_20, .int (nI 0)], bA g a_20 16 (fun _ => 0), oB a_22 7 [.ref a_23, .int (nI 0)], bA g a_23 16 (fun _ => 0), oB a_25 8 [.int (nI 0), .int (nI 4), .int (nI 1), .int (nI 1), .int (nI 1), .int (nI 1)], oB a_27 5 [.ref a_28, .ref a_30, .ref a_32, .ref a_35, .ref a_25, .ref a_7, .int (nI 0), .int (nI 0)], oB a_28 7 [.ref a_29, .int (nI 0)], bA g a_29 768 (fun _ => 0), oB a_30 7 [.ref a_31, .int (nI 0)], bA g a_31 32 (fun _ => 0), oB a_32 4 [.ref a_33, .ref a_34], iA g a_33 8 (fun _ => 0), iA g a_34 64 (fun _ => 0), oB a_35 3 [.ref a_36, .ref a_37], lA g a_36 25 (fun _ => 0), lA g a_37 25 (fun _ => 0), oB a_39 0 [.ref a_40, .ref a_42, .ref a_43, .ref a_44, .ref a_25, .ref a_27], oB a_40 7 [.ref a_41, .int (nI 512)], bA g a_41 512 (fun _ => 0), zA g a_42 32 (fun _ => 0), iA g a_43 35 (fun _ => 0), oB a_44 7 [.ref a_45, .int (nI 0)], bA g a_45 560 (fun _ => 0)] rfl ?_
  refine j_putF hX hin (v := .ref a_39) in10 tyX10 tyX10_ok nmX10 10 0 10 rfl rfl (by decide) (List.mem_of_getElem? (i := 26) rfl) rfl rfl rfl rfl rfl rfl (Nat.le_of_ble_eq_true rfl) [oB so 10 [.ref a_1, .ref a_4, .ref a_7, .ref a_10, .ref a_13, .ref a_16, .ref a_19, .ref a_22, .ref a_25, .ref a_27, .ref a_39, .null, .null, .null], oB a_1 7 [.ref a_2, .int (nI 0)], bA g a_2 600 (fun _ => 0), oB a_4 7 [.ref a_5, .int (nI 0)], bA g a_5 32 (fun _ => 0), oB a_7 7 [.ref a_8, .int (nI 0)], bA g a_8 48 (fun _ => 0), oB a_10 7 [.ref a_11, .int (nI 0)], bA g a_11 16 (fun _ => 0), oB a_13 7 [.ref a_14, .int (nI 0)], bA g a_14 16 (fun _ => 0), oB a_16 7 [.ref a_17, .int (nI 0)], bA g a_17 1680 (fun _ => 0), oB a_19 7 [.ref a_20, .int (nI 0)], bA g a_20 16 (fun _ => 0), oB a_22 7 [.ref a_23, .int (nI 0)], bA g a_23 16 (fun _ => 0), oB a_25 8 [.int (nI 0), .int (nI 4), .int (nI 1), .int (nI 1), .int (nI 1), .int (nI 1)], oB a_27 5 [.ref a_28, .ref a_30, .ref a_32, .ref a_35, .ref a_25, .ref a_7, .int (nI 0), .int (nI 0)], oB a_28 7 [.ref a_29, .int (nI 0)], bA g a_29 768 (fun _ => 0), oB a_30 7 [.ref a_31, .int (nI 0)], bA g a_31 32 (fun _ => 0), oB a_32 4 [.ref a_33, .ref a_34], iA g a_33 8 (fun _ => 0), iA g a_34 64 (fun _ => 0), oB a_35 3 [.ref a_36, .ref a_37], lA g a_36 25 (fun _ => 0), lA g a_37 25 (fun _ => 0), oB a_39 0 [.ref a_40, .ref a_42, .ref a_43, .ref a_44, .ref a_25, .ref a_27], oB a_40 7 [.ref a_41, .int (nI 512)], bA g a_41 512 (fun _ => 0), zA g a_42 32 (fun _ => 0), iA g a_43 35 (fun _ => 0), oB a_44 7 [.ref a_45, .int (nI 0)], bA g a_45 560 (fun _ => 0)] rfl dX10_init_156 ?_
  refine j_aload_n hX 0 dX10_init_159 rfl ?_
  refine j_new hX (ci := 9) (fs := [.null, .null, .null, .null]) in9 tyX9 tyX9_ok (List.mem_of_getElem? (i := 27) rfl) (List.mem_of_getElem? (i := 28) rfl) (List.mem_of_getElem? (i := 29) rfl) rfl (fun j hj => by rcases (show j = 0 ∨ j = 1 ∨ j = 2 ∨ j = 3 by omega) with rfl | rfl | rfl | rfl <;> rfl) (Nat.le_of_ble_eq_true rfl) (Nat.le_of_ble_eq_true rfl) dX10_init_160 (fun a_47 => ?_)
  refine j_w [oB so 10 [.ref a_1, .ref a_4, .ref a_7, .ref a_10, .ref a_13, .ref a_16, .ref a_19, .ref a_22, .ref a_25, .ref a_27, .ref a_39, .null, .null, .null], oB a_1 7 [.ref a_2, .int (nI 0)], bA g a_2 600 (fun _ => 0), oB a_4 7 [.ref a_5, .int (nI 0)], bA g a_5 32 (fun _ => 0), oB a_7 7 [.ref a_8, .int (nI 0)], bA g a_8 48 (fun _ => 0), oB a_10 7 [.ref a_11, .int (nI 0)], bA g a_11 16 (fun _ => 0), oB a_13 7 [.ref a_14, .int (nI 0)], bA g a_14 16 (fun _ => 0), oB a_16 7 [.ref a_17, .int (nI 0)], bA g a_17 1680 (fun _ => 0), oB a_19 7 [.ref a_20, .int (nI 0)], bA g a_20 16 (fun _ => 0), oB a_22 7 [.ref a_23, .int (nI 0)], bA g a_23 16 (fun _ => 0), oB a_25 8 [.int (nI 0), .int (nI 4), .int (nI 1), .int (nI 1), .int (nI 1), .int (nI 1)], oB a_27 5 [.ref a_28, .ref a_30, .ref a_32, .ref a_35, .ref a_25, .ref a_7, .int (nI 0), .int (nI 0)], oB a_28 7 [.ref a_29, .int (nI 0)], bA g a_29 768 (fun _ => 0), oB a_30 7 [.ref a_31, .int (nI 0)], bA g a_31 32 (fun _ => 0), oB a_32 4 [.ref a_33, .ref a_34], iA g a_33 8 (fun _ => 0), iA g a_34 64 (fun _ => 0), oB a_35 3 [.ref a_36, .ref a_37], lA g a_36 25 (fun _ => 0), lA g a_37 25 (fun _ => 0), oB a_39 0 [.ref a_40, .ref a_42, .ref a_43, .ref a_44, .ref a_25, .ref a_27], oB a_40 7 [.ref a_41, .int (nI 512)], bA g a_41 512 (fun _ => 0), zA g a_42 32 (fun _ => 0), iA g a_43 35 (fun _ => 0), oB a_44 7 [.ref a_45, .int (nI 0)], bA g a_45 560 (fun _ => 0), oB a_47 9 [.null, .null, .null, .null]] rfl ?_
  refine j_dup hX dX10_init_163 rfl ?_
  refine j_aload_n hX 0 dX10_init_164 rfl ?_
  refine j_get hX in10 10 0 8 (v := .ref a_25) rfl rfl (by decide) (List.mem_of_getElem? (i := 18) rfl) rfl rfl dX10_init_165 ?_
  refine j_aload_n hX 0 dX10_init_168 rfl ?_
  refine j_pc 169 rfl ?_
  refine j_get hX in10 10 0 9 (v := .ref a_27) rfl rfl (by decide) (List.mem_of_getElem? (i := 22) rfl) rfl rfl dX10_init_169 ?_
  refine j_aload_n hX 0 dX10_init_172 rfl ?_
  refine j_get hX in10 10 0 10 (v := .ref a_39) rfl rfl (by decide) (List.mem_of_getElem? (i := 26) rfl) rfl rfl dX10_init_173 ?_
  refine j_callI hX 3 hNW (i_Trees l g a_47 a_25 a_27 a_39 ) gX10_init_X9_init (List.mem_of_getElem? (i := 29) rfl) (List.mem_of_getElem? (i := 113) rfl) (List.mem_of_getElem? (i := 114) rfl) rfl (by decide +kernel) rfl ⟨rfl, rfl⟩ ⟨Nat.le_of_ble_eq_true rfl, Nat.le_of_ble_eq_true rfl⟩ [36] [0, 1, 2, 3, 4, 5, 6, 7, 8, 9, 10, 11, 12, 13, 14, 15, 16, 17, 18, 19, 20, 21, 22, 23, 24, 25, 26, 27, 28, 29, 30, 31, 32, 33, 34, 35] rfl (by decide) [oB so 10 [.ref a_1, .ref a_4, .ref a_7, .ref a_10, .ref a_13, .ref a_16, .ref a_19, .ref a_22, .ref a_25, .ref a_27, .ref a_39, .null, .null, .null], oB a_1 7 [.ref a_2, .int (nI 0)], bA g a_2 600 (fun _ => 0), oB a_4 7 [.ref a_5, .int (nI 0)], bA g a_5 32 (fun _ => 0), oB a_7 7 [.ref a_8, .int (nI 0)], bA g a_8 48 (fun _ => 0), oB a_10 7 [.ref a_11, .int (nI 0)], bA g a_11 16 (fun _ => 0), oB a_13 7 [.ref a_14, .int (nI 0)], bA g a_14 16 (fun _ => 0), oB a_16 7 [.ref a_17, .int (nI 0)], bA g a_17 1680 (fun _ => 0), oB a_19 7 [.ref a_20, .int (nI 0)], bA g a_20 16 (fun _ => 0), oB a_22 7 [.ref a_23, .int (nI 0)], bA g a_23 16 (fun _ => 0), oB a_25 8 [.int (nI 0), .int (nI 4), .int (nI 1), .int (nI 1), .int (nI 1), .int (nI 1)], oB a_27 5 [.ref a_28, .ref a_30, .ref a_32, .ref a_35, .ref a_25, .ref a_7, .int (nI 0), .int (nI 0)], oB a_28 7 [.ref a_29, .int (nI 0)], bA g a_29 768 (fun _ => 0), oB a_30 7 [.ref a_31, .int (nI 0)], bA g a_31 32 (fun _ => 0), oB a_32 4 [.ref a_33, .ref a_34], iA g a_33 8 (fun _ => 0), iA g a_34 64 (fun _ => 0), oB a_35 3 [.ref a_36, .ref a_37], lA g a_36 25 (fun _ => 0), lA g a_37 25 (fun _ => 0), oB a_39 0 [.ref a_40, .ref a_42, .ref a_43, .ref a_44, .ref a_25, .ref a_27], oB a_40 7 [.ref a_41, .int (nI 512)], bA g a_41 512 (fun _ => 0), zA g a_42 32 (fun _ => 0), iA g a_43 35 (fun _ => 0), oB a_44 7 [.ref a_45, .int (nI 0)], bA g a_45 560 (fun _ => 0)] rfl (by decide) (by decide) rfl [.ref a_47, .ref so] rfl (Nat.le_of_ble_eq_true rfl) ⟨Nat.le_of_ble_eq_true rfl, Nat.le_of_ble_eq_true rfl⟩ dX10_init_176 ?_
  rintro ⟨a_48, a_49⟩ hu_50
  refine j_w [oB so 10 [.ref a_1, .ref a_4, .ref a_7, .ref a_10, .ref a_13, .ref a_16, .ref a_19, .ref a_22, .ref a_25, .ref a_27, .ref a_39, .null, .null, .null], oB a_1 7 [.ref a_2, .int (nI 0)], bA g a_2 600 (fun _ => 0), oB a_4 7 [.ref a_5, .int (nI 0)], bA g a_5 32 (fun _ => 0), oB a_7 7 [.ref a_8, .int (nI 0)], bA g a_8 48 (fun _ => 0), oB a_10 7 [.ref a_11, .int (nI 0)], bA g a_11 16 (fun _ => 0), oB a_13 7 [.ref a_14, .int (nI 0)], bA g a_14 16 (fun _ => 0), oB a_16 7 [.ref a_17, .int (nI 0)], bA g a_17 1680 (fun _ => 0), oB a_19 7 [.ref a_20, .int (nI 0)], bA g a_20 16 (fun _ => 0), oB a_22 7 [.ref a_23, .int (nI 0)], bA g a_23 16 (fun _ => 0), oB a_25 8 [.int (nI 0), .int (nI 4), .int (nI 1), .int (nI 1), .int (nI 1), .int (nI 1)], oB a_27 5 [.ref a_28, .ref a_30, .ref a_32, .ref a_35, .ref a_25, .ref a_7, .int (nI 0), .int (nI 0)], oB a_28 7 [.ref a_29, .int (nI 0)], bA g a_29 768 (fun _ => 0), oB a_30 7 [.ref a_31, .int (nI 0)], bA g a_31 32 (fun _ => 0), oB a_32 4 [.ref a_33, .ref a_34], iA g a_33 8 (fun _ => 0), iA g a_34 64 (fun _ => 0), oB a_35 3 [.ref a_36, .ref a_37], lA g a_36 25 (fun _ => 0), lA g a_37 25 (fun _ => 0), oB a_39 0 [.ref a_40, .ref a_42, .ref a_43, .ref a_44, .ref a_25, .ref a_27], oB a_40 7 [.ref a_41, .int (nI 512)], bA g a_41 512 (fun _ => 0), zA g a_42 32 (fun _ => 0), iA g a_43 35 (fun _ => 0), oB a_44 7 [.ref a_45, .int (nI 0)], bA g a_45 560 (fun _ => 0), oB a_47 9 [.ref a_48, .ref a_25, .ref a_27, .ref a_39], oB a_48 7 [.ref a_49, .int (nI 0)], bA g a_49 256 (fun _ => 0)] rfl ?_
  refine j_putF hX hin (v := .ref a_47) in10 tyX10 tyX10_ok nmX10 10 0 11 rfl rfl (by decide) (List.mem_of_getElem? (i := 30) rfl) rfl rfl rfl rfl rfl rfl (Nat.le_of_ble_eq_true rfl) [oB so 10 [.ref a_1, .ref a_4, .ref a_7, .ref a_10, .ref a_13, .ref a_16, .ref a_19, .ref a_22, .ref a_25, .ref a_27, .ref a_39, .ref a_47, .null, .null], oB a_1 7 [.ref a_2, .int (nI 0)], bA g a_2 600 (fun _ => 0), oB a_4 7 [.ref a_5, .int (nI 0)], bA g a_5 32 (fun _ => 0), oB a_7 7 [.ref a_8, .int (nI 0)], bA g a_8 48 (fun _ => 0), oB a_10 7 [.ref a_11, .int (nI 0)], bA g a_11 16 (fun _ => 0), oB a_13 7 [.ref a_14, .int (nI 0)], bA g a_14 16 (fun _ => 0), oB a_16 7 [.ref a_17, .int (nI 0)], bA g a_17 1680 (fun _ => 0), oB a_19 7 [.ref a_20, .int (nI 0)], bA g a_20 16 (fun _ => 0), oB a_22 7 [.ref a_23, .int (nI 0)], bA g a_23 16 (fun _ => 0), oB a_25 8 [.int (nI 0), .int (nI 4), .int (nI 1), .int (nI 1), .int (nI 1), .int (nI 1)], oB a_27 5 [.ref a_28, .ref a_30, .ref a_32, .ref a_35, .ref a_25, .ref a_7, .int (nI 0), .int (nI 0)], oB a_28 7 [.ref a_29, .int (nI 0)], bA g a_29 768 (fun _ => 0), oB a_30 7 [.ref a_31, .int (nI 0)], bA g a_31 32 (fun _ => 0), oB a_32 4 [.ref a_33, .ref a_34], iA g a_33 8 (fun _ => 0), iA g a_34 64 (fun _ => 0), oB a_35 3 [.ref a_36, .ref a_37], lA g a_36 25 (fun _ => 0), lA g a_37 25 (fun _ => 0), oB a_39 0 [.ref a_40, .ref a_42, .ref a_43, .ref a_44, .ref a_25, .ref a_27], oB a_40 7 [.ref a_41, .int (nI 512)], bA g a_41 512 (fun _ => 0), zA g a_42 32 (fun _ => 0), iA g a_43 35 (fun _ => 0), oB a_44 7 [.ref a_45, .int (nI 0)], bA g a_45 560 (fun _ => 0), oB a_47 9 [.ref a_48, .ref a_25, .ref a_27, .ref a_39], oB a_48 7 [.ref a_49, .int (nI 0)], bA g a_49 256 (fun _ => 0)] rfl dX10_init_179 ?_
  refine j_aload_n hX 0 dX10_init_182 rfl ?_
  refine j_new hX (ci := 1) (fs := [.null, .null, .null, .null, .null]) in1 tyX1 tyX1_ok (List.mem_of_getElem? (i := 31) rfl) (List.mem_of_getElem? (i := 32) rfl) (List.mem_of_getElem? (i := 33) rfl) rfl (fun j hj => by rcases (show j = 0 ∨ j = 1 ∨ j = 2 ∨ j = 3 ∨ j = 4 by omega) with rfl | rfl | rfl | rfl | rfl <;> rfl) (Nat.le_of_ble_eq_true rfl) (Nat.le_of_ble_eq_true rfl) dX10_init_183 (fun a_51 => ?_)
  refine j_w [oB so 10 [.ref a_1, .ref a_4, .ref a_7, .ref a_10, .ref a_13, .ref a_16, .ref a_19, .ref a_22, .ref a_25, .ref a_27, .ref a_39, .ref a_47, .null, .null], oB a_1 7 [.ref a_2, .int (nI 0)], bA g a_2 600 (fun _ => 0), oB a_4 7 [.ref a_5, .int (nI 0)], bA g a_5 32 (fun _ => 0), oB a_7 7 [.ref a_8, .int (nI 0)], bA g a_8 48 (fun _ => 0), oB a_10 7 [.ref a_11, .int (nI 0)], bA g a_11 16 (fun _ => 0), oB a_13 7 [.ref a_14, .int (nI 0)], bA g a_14 16 (fun _ => 0), oB a_16 7 [.ref a_17, .int (nI 0)], bA g a_17 1680 (fun _ => 0), oB a_19 7 [.ref a_20, .int (nI 0)], bA g a_20 16 (fun _ => 0), oB a_22 7 [.ref a_23, .int (nI 0)], bA g a_23 16 (fun _ => 0), oB a_25 8 [.int (nI 0), .int (nI 4), .int (nI 1), .int (nI 1), .int (nI 1), .int (nI 1)], oB a_27 5 [.ref a_28, .ref a_30, .ref a_32, .ref a_35, .ref a_25, .ref a_7, .int (nI 0), .int (nI 0)], oB a_28 7 [.ref a_29, .int (nI 0)], bA g a_29 768 (fun _ => 0), oB a_30 7 [.ref a_31, .int (nI 0)], bA g a_31 32 (fun _ => 0), oB a_32 4 [.ref a_33, .ref a_34], iA g a_33 8 (fun _ => 0), iA g a_34 64 (fun _ => 0), oB a_35 3 [.ref a_36, .ref a_37], lA g a_36 25 (fun _ => 0), lA g a_37 25 (fun _ => 0), oB a_39 0 [.ref a_40, .ref a_42, .ref a_43, .ref a_44, .ref a_25, .ref a_27], oB a_40 7 [.ref a_41, .int (nI 512)], bA g a_41 512 (fun _ => 0), zA g a_42 32 (fun _ => 0), iA g a_43 35 (fun _ => 0), oB a_44 7 [.ref a_45, .int (nI 0)], bA g a_45 560 (fun _ => 0), oB a_47 9 [.ref a_48, .ref a_25, .ref a_27, .ref a_39], oB a_48 7 [.ref a_49, .int (nI 0)], bA g a_49 256 (fun _ => 0), oB a_51 1 [.null, .null, .null, .null, .null]] rfl ?_
  refine j_dup hX dX10_init_186 rfl ?_
  refine j_pc 187 rfl ?_
  refine j_aload_n hX 0 dX10_init_187 rfl ?_
  refine j_get hX in10 10 0 8 (v := .ref a_25) rfl rfl (by decide) (List.mem_of_getElem? (i := 18) rfl) rfl rfl dX10_init_188 ?_
  refine j_aload_n hX 0 dX10_init_191 rfl ?_
  refine j_get hX in10 10 0 9 (v := .ref a_27) rfl rfl (by decide) (List.mem_of_getElem? (i := 22) rfl) rfl rfl dX10_init_192 ?_
  refine j_aload_n hX 0 dX10_init_195 rfl ?_
  refine j_get hX in10 10 0 11 (v := .ref a_47) rfl rfl (by decide) (List.mem_of_getElem? (i := 30) rfl) rfl rfl dX10_init_196 ?_
  refine j_callI hX 3 hNW (i_FewTrees l g a_51 a_25 a_27 a_47 ) gX10_init_X1_init (List.mem_of_getElem? (i := 33) rfl) (List.mem_of_getElem? (i := 123) rfl) (List.mem_of_getElem? (i := 124) rfl) rfl (by decide +kernel) rfl ⟨rfl, rfl⟩ ⟨Nat.le_of_ble_eq_true rfl, Nat.le_of_ble_eq_true rfl⟩ [39] [0, 1, 2, 3, 4, 5, 6, 7, 8, 9, 10, 11, 12, 13, 14, 15, 16, 17, 18, 19, 20, 21, 22, 23, 24, 25, 26, 27, 28, 29, 30, 31, 32, 33, 34, 35, 36, 37, 38] rfl (by decide) [oB so 10 [.ref a_1, .ref a_4, .ref a_7, .ref a_10, .ref a_13, .ref a_16, .ref a_19, .ref a_22, .ref a_25, .ref a_27, .ref a_39, .ref a_47, .null, .null], oB a_1 7 [.ref a_2, .int (nI 0)], bA g a_2 600 (fun _ => 0), oB a_4 7 [.ref a_5, .int (nI 0)], bA g a_5 32 (fun _ => 0), oB a_7 7 [.ref a_8, .int (nI 0)], bA g a_8 48 (fun _ => 0), oB a_10 7 [.ref a_11, .int (nI 0)], bA g a_11 16 (fun _ => 0), oB a_13 7 [.ref a_14, .int (nI 0)], bA g a_14 16 (fun _ => 0), oB a_16 7 [.ref a_17, .int (nI 0)], bA g a_17 1680 (fun _ => 0), oB a_19 7 [.ref a_20, .int (nI 0)], bA g a_20 16 (fun _ => 0), oB a_22 7 [.ref a_23, .int (nI 0)], bA g a_23 16 (fun _ => 0), oB a_25 8 [.int (nI 0), .int (nI 4), .int (nI 1), .int (nI 1), .int (nI 1), .int (nI 1)], oB a_27 5 [.ref a_28, .ref a_30, .ref a_32, .ref a_35, .ref a_25, .ref a_7, .int (nI 0), .int (nI 0)], oB a_28 7 [.ref a_29, .int (nI 0)], bA g a_29 768 (fun _ => 0), oB a_30 7 [.ref a_31, .int (nI 0)], bA g a_31 32 (fun _ => 0), oB a_32 4 [.ref a_33, .ref a_34], iA g a_33 8 (fun _ => 0), iA g a_34 64 (fun _ => 0), oB a_35 3 [.ref a_36, .ref a_37], lA g a_36 25 (fun _ => 0), lA g a_37 25 (fun _ => 0), oB a_39 0 [.ref a_40, .ref a_42, .ref a_43, .ref a_44, .ref a_25, .ref a_27], oB a_40 7 [.ref a_41, .int (nI 512)], bA g a_41 512 (fun _ => 0), zA g a_42 32 (fun _ => 0), iA g a_43 35 (fun _ => 0), oB a_44 7 [.ref a_45, .int (nI 0)], bA g a_45 560 (fun _ => 0), oB a_47 9 [.ref a_48, .ref a_25, .ref a_27, .ref a_39], oB a_48 7 [.ref a_49, .int (nI 0)], bA g a_49 256 (fun _ => 0)] rfl (by decide) (by decide) rfl [.ref a_51, .ref so] rfl (Nat.le_of_ble_eq_true rfl) ⟨Nat.le_of_ble_eq_true rfl, Nat.le_of_ble_eq_true rfl⟩ dX10_init_199 ?_
  rintro ⟨a_52, a_53, a_54, a_55⟩ hu_56
  refine j_w [oB so 10 [.ref a_1, .ref a_4, .ref a_7, .ref a_10, .ref a_13, .ref a_16, .ref a_19, .ref a_22, .ref a_25, .ref a_27, .ref a_39, .ref a_47, .null, .null], oB a_1 7 [.ref a_2, .int (nI 0)], bA g a_2 600 (fun _ => 0), oB a_4 7 [.ref a_5, .int (nI 0)], bA g a_5 32 (fun _ => 0), oB a_7 7 [.ref a_8, .int (nI 0)], bA g a_8 48 (fun _ => 0), oB a_10 7 [.ref a_11, .int (nI 0)], bA g a_11 16 (fun _ => 0), oB a_13 7 [.ref a_14, .int (nI 0)], bA g a_14 16 (fun _ => 0), oB a_16 7 [.ref a_17, .int (nI 0)], bA g a_17 1680 (fun _ => 0), oB a_19 7 [.ref a_20, .int (nI 0)], bA g a_20 16 (fun _ => 0), oB a_22 7 [.ref a_23, .int (nI 0)], bA g a_23 16 (fun _ => 0), oB a_25 8 [.int (nI 0), .int (nI 4), .int (nI 1), .int (nI 1), .int (nI 1), .int (nI 1)], oB a_27 5 [.ref a_28, .ref a_30, .ref a_32, .ref a_35, .ref a_25, .ref a_7, .int (nI 0), .int (nI 0)], oB a_28 7 [.ref a_29, .int (nI 0)], bA g a_29 768 (fun _ => 0), oB a_30 7 [.ref a_31, .int (nI 0)], bA g a_31 32 (fun _ => 0), oB a_32 4 [.ref a_33, .ref a_34], iA g a_33 8 (fun _ => 0), iA g a_34 64 (fun _ => 0), oB a_35 3 [.ref a_36, .ref a_37], lA g a_36 25 (fun _ => 0), lA g a_37 25 (fun _ => 0), oB a_39 0 [.ref a_40, .ref a_42, .ref a_43, .ref a_44, .ref a_25, .ref a_27], oB a_40 7 [.ref a_41, .int (nI 512)], bA g a_41 512 (fun _ => 0), zA g a_42 32 (fun _ => 0), iA g a_43 35 (fun _ => 0), oB a_44 7 [.ref a_45, .int (nI 0)], bA g a_45 560 (fun _ => 0), oB a_47 9 [.ref a_48, .ref a_25, .ref a_27, .ref a_39], oB a_48 7 [.ref a_49, .int (nI 0)], bA g a_49 256 (fun _ => 0), oB a_51 1 [.ref a_52, .ref a_54, .ref a_25, .ref a_27, .ref a_47], oB a_52 7 [.ref a_53, .int (nI 0)], bA g a_53 96 (fun _ => 0), oB a_54 7 [.ref a_55, .int (nI 0)], bA g a_55 16 (fun _ => 0)] rfl ?_
  refine j_putF hX hin (v := .ref a_51) in10 tyX10 tyX10_ok nmX10 10 0 12 rfl rfl (by decide) (List.mem_of_getElem? (i := 34) rfl) rfl rfl rfl rfl rfl rfl (Nat.le_of_ble_eq_true rfl) [oB so 10 [.ref a_1, .ref a_4, .ref a_7, .ref a_10, .ref a_13, .ref a_16, .ref a_19, .ref a_22, .ref a_25, .ref a_27, .ref a_39, .ref a_47, .ref a_51, .null], oB a_1 7 [.ref a_2, .int (nI 0)], bA g a_2 600 (fun _ => 0), oB a_4 7 [.ref a_5, .int (nI 0)], bA g a_5 32 (fun _ => 0), oB a_7 7 [.ref a_8, .int (nI 0)], bA g a_8 48 (fun _ => 0), oB a_10 7 [.ref a_11, .int (nI 0)], bA g a_11 16 (fun _ => 0), oB a_13 7 [.ref a_14, .int (nI 0)], bA g a_14 16 (fun _ => 0), oB a_16 7 [.ref a_17, .int (nI 0)], bA g a_17 1680 (fun _ => 0), oB a_19 7 [.ref a_20, .int (nI 0)], bA g a_20 16 (fun _ => 0), oB a_22 7 [.ref a_23, .int (nI 0)], bA g a_23 16 (fun _ => 0), oB a_25 8 [.int (nI 0), .int (nI 4), .int (nI 1), .int (nI 1), .int (nI 1), .int (nI 1)], oB a_27 5 [.ref a_28, .ref a_30, .ref a_32, .ref a_35, .ref a_25, .ref a_7, .int (nI 0), .int (nI 0)], oB a_28 7 [.ref a_29, .int (nI 0)], bA g a_29 768 (fun _ => 0), oB a_30 7 [.ref a_31, .int (nI 0)], bA g a_31 32 (fun _ => 0), oB a_32 4 [.ref a_33, .ref a_34], iA g a_33 8 (fun _ => 0), iA g a_34 64 (fun _ => 0), oB a_35 3 [.ref a_36, .ref a_37], lA g a_36 25 (fun _ => 0), lA g a_37 25 (fun _ => 0), oB a_39 0 [.ref a_40, .ref a_42, .ref a_43, .ref a_44, .ref a_25, .ref a_27], oB a_40 7 [.ref a_41, .int (nI 512)], bA g a_41 512 (fun _ => 0), zA g a_42 32 (fun _ => 0), iA g a_43 35 (fun _ => 0), oB a_44 7 [.ref a_45, .int (nI 0)], bA g a_45 560 (fun _ => 0), oB a_47 9 [.ref a_48, .ref a_25, .ref a_27, .ref a_39], oB a_48 7 [.ref a_49, .int (nI 0)], bA g a_49 256 (fun _ => 0), oB a_51 1 [.ref a_52, .ref a_54, .ref a_25, .ref a_27, .ref a_47], oB a_52 7 [.ref a_53, .int (nI 0)], bA g a_53 96 (fun _ => 0), oB a_54 7 [.ref a_55, .int (nI 0)], bA g a_55 16 (fun _ => 0)] rfl dX10_init_202 ?_
  refine j_pc 205 rfl ?_
  refine j_aload_n hX 0 dX10_init_205 rfl ?_
  refine j_new hX (ci := 6) (fs := [.null, .null, .null, .null, .null]) in6 tyX6 tyX6_ok (List.mem_of_getElem? (i := 35) rfl) (List.mem_of_getElem? (i := 36) rfl) (List.mem_of_getElem? (i := 37) rfl) rfl (fun j hj => by rcases (show j = 0 ∨ j = 1 ∨ j = 2 ∨ j = 3 ∨ j = 4 by omega) with rfl | rfl | rfl | rfl | rfl <;> rfl) (Nat.le_of_ble_eq_true rfl) (Nat.le_of_ble_eq_true rfl) dX10_init_206 (fun a_57 => ?_)
  refine j_w [oB so 10 [.ref a_1, .ref a_4, .ref a_7, .ref a_10, .ref a_13, .ref a_16, .ref a_19, .ref a_22, .ref a_25, .ref a_27, .ref a_39, .ref a_47, .ref a_51, .null], oB a_1 7 [.ref a_2, .int (nI 0)], bA g a_2 600 (fun _ => 0), oB a_4 7 [.ref a_5, .int (nI 0)], bA g a_5 32 (fun _ => 0), oB a_7 7 [.ref a_8, .int (nI 0)], bA g a_8 48 (fun _ => 0), oB a_10 7 [.ref a_11, .int (nI 0)], bA g a_11 16 (fun _ => 0), oB a_13 7 [.ref a_14, .int (nI 0)], bA g a_14 16 (fun _ => 0), oB a_16 7 [.ref a_17, .int (nI 0)], bA g a_17 1680 (fun _ => 0), oB a_19 7 [.ref a_20, .int (nI 0)], bA g a_20 16 (fun _ => 0), oB a_22 7 [.ref a_23, .int (nI 0)], bA g a_23 16 (fun _ => 0), oB a_25 8 [.int (nI 0), .int (nI 4), .int (nI 1), .int (nI 1), .int (nI 1), .int (nI 1)], oB a_27 5 [.ref a_28, .ref a_30, .ref a_32, .ref a_35, .ref a_25, .ref a_7, .int (nI 0), .int (nI 0)], oB a_28 7 [.ref a_29, .int (nI 0)], bA g a_29 768 (fun _ => 0), oB a_30 7 [.ref a_31, .int (nI 0)], bA g a_31 32 (fun _ => 0), oB a_32 4 [.ref a_33, .ref a_34], iA g a_33 8 (fun _ => 0), iA g a_34 64 (fun _ => 0), oB a_35 3 [.ref a_36, .ref a_37], lA g a_36 25 (fun _ => 0), lA g a_37 25 (fun _ => 0), oB a_39 0 [.ref a_40, .ref a_42, .ref a_43, .ref a_44, .ref a_25, .ref a_27], oB a_40 7 [.ref a_41, .int (nI 512)], bA g a_41 512 (fun _ => 0), zA g a_42 32 (fun _ => 0), iA g a_43 35 (fun _ => 0), oB a_44 7 [.ref a_45, .int (nI 0)], bA g a_45 560 (fun _ => 0), oB a_47 9 [.ref a_48, .ref a_25, .ref a_27, .ref a_39], oB a_48 7 [.ref a_49, .int (nI 0)], bA g a_49 256 (fun _ => 0), oB a_51 1 [.ref a_52, .ref a_54, .ref a_25, .ref a_27, .ref a_47], oB a_52 7 [.ref a_53, .int (nI 0)], bA g a_53 96 (fun _ => 0), oB a_54 7 [.ref a_55, .int (nI 0)], bA g a_55 16 (fun _ => 0), oB a_57 6 [.null, .null, .null, .null, .null]] rfl ?_
  refine j_dup hX dX10_init_209 rfl ?_
  refine j_aload_n hX 0 dX10_init_210 rfl ?_
  refine j_get hX in10 10 0 8 (v := .ref a_25) rfl rfl (by decide) (List.mem_of_getElem? (i := 18) rfl) rfl rfl dX10_init_211 ?_
  refine j_aload_n hX 0 dX10_init_214 rfl ?_
  refine j_get hX in10 10 0 2 (v := .ref a_7) rfl rfl (by decide) (List.mem_of_getElem? (i := 9) rfl) rfl rfl dX10_init_215 ?_
  refine j_aload_n hX 0 dX10_init_218 rfl ?_
  refine j_pc 219 rfl ?_
  refine j_get hX in10 10 0 9 (v := .ref a_27) rfl rfl (by decide) (List.mem_of_getElem? (i := 22) rfl) rfl rfl dX10_init_219 ?_
  refine j_callI hX 3 hNW (i_Points l g a_57 a_25 a_7 a_27 ) gX10_init_X6_init (List.mem_of_getElem? (i := 37) rfl) (List.mem_of_getElem? (i := 134) rfl) (List.mem_of_getElem? (i := 135) rfl) rfl (by decide +kernel) rfl ⟨rfl, rfl⟩ ⟨Nat.le_of_ble_eq_true rfl, Nat.le_of_ble_eq_true rfl⟩ [44] [0, 1, 2, 3, 4, 5, 6, 7, 8, 9, 10, 11, 12, 13, 14, 15, 16, 17, 18, 19, 20, 21, 22, 23, 24, 25, 26, 27, 28, 29, 30, 31, 32, 33, 34, 35, 36, 37, 38, 39, 40, 41, 42, 43] rfl (by decide) [oB so 10 [.ref a_1, .ref a_4, .ref a_7, .ref a_10, .ref a_13, .ref a_16, .ref a_19, .ref a_22, .ref a_25, .ref a_27, .ref a_39, .ref a_47, .ref a_51, .null], oB a_1 7 [.ref a_2, .int (nI 0)], bA g a_2 600 (fun _ => 0), oB a_4 7 [.ref a_5, .int (nI 0)], bA g a_5 32 (fun _ => 0), oB a_7 7 [.ref a_8, .int (nI 0)], bA g a_8 48 (fun _ => 0), oB a_10 7 [.ref a_11, .int (nI 0)], bA g a_11 16 (fun _ => 0), oB a_13 7 [.ref a_14, .int (nI 0)], bA g a_14 16 (fun _ => 0), oB a_16 7 [.ref a_17, .int (nI 0)], bA g a_17 1680 (fun _ => 0), oB a_19 7 [.ref a_20, .int (nI 0)], bA g a_20 16 (fun _ => 0), oB a_22 7 [.ref a_23, .int (nI 0)], bA g a_23 16 (fun _ => 0), oB a_25 8 [.int (nI 0), .int (nI 4), .int (nI 1), .int (nI 1), .int (nI 1), .int (nI 1)], oB a_27 5 [.ref a_28, .ref a_30, .ref a_32, .ref a_35, .ref a_25, .ref a_7, .int (nI 0), .int (nI 0)], oB a_28 7 [.ref a_29, .int (nI 0)], bA g a_29 768 (fun _ => 0), oB a_30 7 [.ref a_31, .int (nI 0)], bA g a_31 32 (fun _ => 0), oB a_32 4 [.ref a_33, .ref a_34], iA g a_33 8 (fun _ => 0), iA g a_34 64 (fun _ => 0), oB a_35 3 [.ref a_36, .ref a_37], lA g a_36 25 (fun _ => 0), lA g a_37 25 (fun _ => 0), oB a_39 0 [.ref a_40, .ref a_42, .ref a_43, .ref a_44, .ref a_25, .ref a_27], oB a_40 7 [.ref a_41, .int (nI 512)], bA g a_41 512 (fun _ => 0), zA g a_42 32 (fun _ => 0), iA g a_43 35 (fun _ => 0), oB a_44 7 [.ref a_45, .int (nI 0)], bA g a_45 560 (fun _ => 0), oB a_47 9 [.ref a_48, .ref a_25, .ref a_27, .ref a_39], oB a_48 7 [.ref a_49, .int (nI 0)], bA g a_49 256 (fun _ => 0), oB a_51 1 [.ref a_52, .ref a_54, .ref a_25, .ref a_27, .ref a_47], oB a_52 7 [.ref a_53, .int (nI 0)], bA g a_53 96 (fun _ => 0), oB a_54 7 [.ref a_55, .int (nI 0)], bA g a_55 16 (fun _ => 0)] rfl (by decide) (by decide) rfl [.ref a_57, .ref so] rfl (Nat.le_of_ble_eq_true rfl) ⟨Nat.le_of_ble_eq_true rfl, Nat.le_of_ble_eq_true rfl⟩ dX10_init_222 ?_
  rintro ⟨a_58, a_59, a_60, a_61⟩ hu_62
  refine j_w [oB so 10 [.ref a_1, .ref a_4, .ref a_7, .ref a_10, .ref a_13, .ref a_16, .ref a_19, .ref a_22, .ref a_25, .ref a_27, .ref a_39, .ref a_47, .ref a_51, .null], oB a_1 7 [.ref a_2, .int (nI 0)], bA g a_2 600 (fun _ => 0), oB a_4 7 [.ref a_5, .int (nI 0)], bA g a_5 32 (fun _ => 0), oB a_7 7 [.ref a_8, .int (nI 0)], bA g a_8 48 (fun _ => 0), oB a_10 7 [.ref a_11, .int (nI 0)], bA g a_11 16 (fun _ => 0), oB a_13 7 [.ref a_14, .int (nI 0)], bA g a_14 16 (fun _ => 0), oB a_16 7 [.ref a_17, .int (nI 0)], bA g a_17 1680 (fun _ => 0), oB a_19 7 [.ref a_20, .int (nI 0)], bA g a_20 16 (fun _ => 0), oB a_22 7 [.ref a_23, .int (nI 0)], bA g a_23 16 (fun _ => 0), oB a_25 8 [.int (nI 0), .int (nI 4), .int (nI 1), .int (nI 1), .int (nI 1), .int (nI 1)], oB a_27 5 [.ref a_28, .ref a_30, .ref a_32, .ref a_35, .ref a_25, .ref a_7, .int (nI 0), .int (nI 0)], oB a_28 7 [.ref a_29, .int (nI 0)], bA g a_29 768 (fun _ => 0), oB a_30 7 [.ref a_31, .int (nI 0)], bA g a_31 32 (fun _ => 0), oB a_32 4 [.ref a_33, .ref a_34], iA g a_33 8 (fun _ => 0), iA g a_34 64 (fun _ => 0), oB a_35 3 [.ref a_36, .ref a_37], lA g a_36 25 (fun _ => 0), lA g a_37 25 (fun _ => 0), oB a_39 0 [.ref a_40, .ref a_42, .ref a_43, .ref a_44, .ref a_25, .ref a_27], oB a_40 7 [.ref a_41, .int (nI 512)], bA g a_41 512 (fun _ => 0), zA g a_42 32 (fun _ => 0), iA g a_43 35 (fun _ => 0), oB a_44 7 [.ref a_45, .int (nI 0)], bA g a_45 560 (fun _ => 0), oB a_47 9 [.ref a_48, .ref a_25, .ref a_27, .ref a_39], oB a_48 7 [.ref a_49, .int (nI 0)], bA g a_49 256 (fun _ => 0), oB a_51 1 [.ref a_52, .ref a_54, .ref a_25, .ref a_27, .ref a_47], oB a_52 7 [.ref a_53, .int (nI 0)], bA g a_53 96 (fun _ => 0), oB a_54 7 [.ref a_55, .int (nI 0)], bA g a_55 16 (fun _ => 0), oB a_57 6 [.ref a_58, .ref a_60, .ref a_25, .ref a_7, .ref a_27], oB a_58 7 [.ref a_59, .int (nI 0)], bA g a_59 8 (fun _ => 0), oB a_60 7 [.ref a_61, .int (nI 0)], bA g a_61 32 (fun _ => 0)] rfl ?_
  refine j_putF hX hin (v := .ref a_57) in10 tyX10 tyX10_ok nmX10 10 0 13 rfl rfl (by decide) (List.mem_of_getElem? (i := 38) rfl) rfl rfl rfl rfl rfl rfl (Nat.le_of_ble_eq_true rfl) [oB so 10 [.ref a_1, .ref a_4, .ref a_7, .ref a_10, .ref a_13, .ref a_16, .ref a_19, .ref a_22, .ref a_25, .ref a_27, .ref a_39, .ref a_47, .ref a_51, .ref a_57], oB a_1 7 [.ref a_2, .int (nI 0)], bA g a_2 600 (fun _ => 0), oB a_4 7 [.ref a_5, .int (nI 0)], bA g a_5 32 (fun _ => 0), oB a_7 7 [.ref a_8, .int (nI 0)], bA g a_8 48 (fun _ => 0), oB a_10 7 [.ref a_11, .int (nI 0)], bA g a_11 16 (fun _ => 0), oB a_13 7 [.ref a_14, .int (nI 0)], bA g a_14 16 (fun _ => 0), oB a_16 7 [.ref a_17, .int (nI 0)], bA g a_17 1680 (fun _ => 0), oB a_19 7 [.ref a_20, .int (nI 0)], bA g a_20 16 (fun _ => 0), oB a_22 7 [.ref a_23, .int (nI 0)], bA g a_23 16 (fun _ => 0), oB a_25 8 [.int (nI 0), .int (nI 4), .int (nI 1), .int (nI 1), .int (nI 1), .int (nI 1)], oB a_27 5 [.ref a_28, .ref a_30, .ref a_32, .ref a_35, .ref a_25, .ref a_7, .int (nI 0), .int (nI 0)], oB a_28 7 [.ref a_29, .int (nI 0)], bA g a_29 768 (fun _ => 0), oB a_30 7 [.ref a_31, .int (nI 0)], bA g a_31 32 (fun _ => 0), oB a_32 4 [.ref a_33, .ref a_34], iA g a_33 8 (fun _ => 0), iA g a_34 64 (fun _ => 0), oB a_35 3 [.ref a_36, .ref a_37], lA g a_36 25 (fun _ => 0), lA g a_37 25 (fun _ => 0), oB a_39 0 [.ref a_40, .ref a_42, .ref a_43, .ref a_44, .ref a_25, .ref a_27], oB a_40 7 [.ref a_41, .int (nI 512)], bA g a_41 512 (fun _ => 0), zA g a_42 32 (fun _ => 0), iA g a_43 35 (fun _ => 0), oB a_44 7 [.ref a_45, .int (nI 0)], bA g a_45 560 (fun _ => 0), oB a_47 9 [.ref a_48, .ref a_25, .ref a_27, .ref a_39], oB a_48 7 [.ref a_49, .int (nI 0)], bA g a_49 256 (fun _ => 0), oB a_51 1 [.ref a_52, .ref a_54, .ref a_25, .ref a_27, .ref a_47], oB a_52 7 [.ref a_53, .int (nI 0)], bA g a_53 96 (fun _ => 0), oB a_54 7 [.ref a_55, .int (nI 0)], bA g a_55 16 (fun _ => 0), oB a_57 6 [.ref a_58, .ref a_60, .ref a_25, .ref a_7, .ref a_27], oB a_58 7 [.ref a_59, .int (nI 0)], bA g a_59 8 (fun _ => 0), oB a_60 7 [.ref a_61, .int (nI 0)], bA g a_61 32 (fun _ => 0)] rfl dX10_init_225 ?_
  refine j_aload_n hX 0 dX10_init_228 rfl ?_
  refine j_get hX in10 10 0 2 (v := .ref a_7) rfl rfl (by decide) (List.mem_of_getElem? (i := 9) rfl) rfl rfl dX10_init_229 ?_
  refine j_lconst hX 0 dX10_init_232 rfl ?_
  refine j_bipush hX (48) dX10_init_233 (by decide) ?_
  refine j_callV2 hX 2 (c_addNumber l g a_7 a_8 0 48 (fun _ => 0) (0 : Int64) 48 (by omega) (by omega) (by omega)) gX10_init_X7_addNumber (by decide +kernel) rfl ⟨rfl, rfl⟩ ⟨Nat.le_of_ble_eq_true rfl, Nat.le_of_ble_eq_true rfl⟩ 7 5 rfl rfl [5, 6] [0, 1, 2, 3, 4, 7, 8, 9, 10, 11, 12, 13, 14, 15, 16, 17, 18, 19, 20, 21, 22, 23, 24, 25, 26, 27, 28, 29, 30, 31, 32, 33, 34, 35, 36, 37, 38, 39, 40, 41, 42, 43, 44, 45, 46, 47, 48] 49 rfl (by decide) (fun jj : (Nat → Int32) => [oB so 10 [.ref a_1, .ref a_4, .ref a_7, .ref a_10, .ref a_13, .ref a_16, .ref a_19, .ref a_22, .ref a_25, .ref a_27, .ref a_39, .ref a_47, .ref a_51, .ref a_57], oB a_1 7 [.ref a_2, .int (nI 0)], bA g a_2 600 (fun _ => 0), oB a_4 7 [.ref a_5, .int (nI 0)], bA g a_5 32 (fun _ => 0), oB a_7 7 [.ref a_8, .int (nI (0 + 48))], bA g a_8 48 jj, oB a_10 7 [.ref a_11, .int (nI 0)], bA g a_11 16 (fun _ => 0), oB a_13 7 [.ref a_14, .int (nI 0)], bA g a_14 16 (fun _ => 0), oB a_16 7 [.ref a_17, .int (nI 0)], bA g a_17 1680 (fun _ => 0), oB a_19 7 [.ref a_20, .int (nI 0)], bA g a_20 16 (fun _ => 0), oB a_22 7 [.ref a_23, .int (nI 0)], bA g a_23 16 (fun _ => 0), oB a_25 8 [.int (nI 0), .int (nI 4), .int (nI 1), .int (nI 1), .int (nI 1), .int (nI 1)], oB a_27 5 [.ref a_28, .ref a_30, .ref a_32, .ref a_35, .ref a_25, .ref a_7, .int (nI 0), .int (nI 0)], oB a_28 7 [.ref a_29, .int (nI 0)], bA g a_29 768 (fun _ => 0), oB a_30 7 [.ref a_31, .int (nI 0)], bA g a_31 32 (fun _ => 0), oB a_32 4 [.ref a_33, .ref a_34], iA g a_33 8 (fun _ => 0), iA g a_34 64 (fun _ => 0), oB a_35 3 [.ref a_36, .ref a_37], lA g a_36 25 (fun _ => 0), lA g a_37 25 (fun _ => 0), oB a_39 0 [.ref a_40, .ref a_42, .ref a_43, .ref a_44, .ref a_25, .ref a_27], oB a_40 7 [.ref a_41, .int (nI 512)], bA g a_41 512 (fun _ => 0), zA g a_42 32 (fun _ => 0), iA g a_43 35 (fun _ => 0), oB a_44 7 [.ref a_45, .int (nI 0)], bA g a_45 560 (fun _ => 0), oB a_47 9 [.ref a_48, .ref a_25, .ref a_27, .ref a_39], oB a_48 7 [.ref a_49, .int (nI 0)], bA g a_49 256 (fun _ => 0), oB a_51 1 [.ref a_52, .ref a_54, .ref a_25, .ref a_27, .ref a_47], oB a_52 7 [.ref a_53, .int (nI 0)], bA g a_53 96 (fun _ => 0), oB a_54 7 [.ref a_55, .int (nI 0)], bA g a_55 16 (fun _ => 0), oB a_57 6 [.ref a_58, .ref a_60, .ref a_25, .ref a_7, .ref a_27], oB a_58 7 [.ref a_59, .int (nI 0)], bA g a_59 8 (fun _ => 0), oB a_60 7 [.ref a_61, .int (nI 0)], bA g a_61 32 (fun _ => 0)]) (fun _ => rfl) (by decide) [so, a_1, a_2, a_4, a_5, a_7, a_8, a_10, a_11, a_13, a_14, a_16, a_17, a_19, a_20, a_22, a_23, a_25, a_27, a_28, a_29, a_30, a_31, a_32, a_33, a_34, a_35, a_36, a_37, a_39, a_40, a_41, a_42, a_43, a_44, a_45, a_47, a_48, a_49, a_51, a_52, a_53, a_54, a_55, a_57, a_58, a_59, a_60, a_61] rfl (fun _ => rfl) (fun _ => rfl) [oB so 10 [.ref a_1, .ref a_4, .ref a_7, .ref a_10, .ref a_13, .ref a_16, .ref a_19, .ref a_22, .ref a_25, .ref a_27, .ref a_39, .ref a_47, .ref a_51, .ref a_57], oB a_1 7 [.ref a_2, .int (nI 0)], bA g a_2 600 (fun _ => 0), oB a_4 7 [.ref a_5, .int (nI 0)], bA g a_5 32 (fun _ => 0), oB a_10 7 [.ref a_11, .int (nI 0)], bA g a_11 16 (fun _ => 0), oB a_13 7 [.ref a_14, .int (nI 0)], bA g a_14 16 (fun _ => 0), oB a_16 7 [.ref a_17, .int (nI 0)], bA g a_17 1680 (fun _ => 0), oB a_19 7 [.ref a_20, .int (nI 0)], bA g a_20 16 (fun _ => 0), oB a_22 7 [.ref a_23, .int (nI 0)], bA g a_23 16 (fun _ => 0), oB a_25 8 [.int (nI 0), .int (nI 4), .int (nI 1), .int (nI 1), .int (nI 1), .int (nI 1)], oB a_27 5 [.ref a_28, .ref a_30, .ref a_32, .ref a_35, .ref a_25, .ref a_7, .int (nI 0), .int (nI 0)], oB a_28 7 [.ref a_29, .int (nI 0)], bA g a_29 768 (fun _ => 0), oB a_30 7 [.ref a_31, .int (nI 0)], bA g a_31 32 (fun _ => 0), oB a_32 4 [.ref a_33, .ref a_34], iA g a_33 8 (fun _ => 0), iA g a_34 64 (fun _ => 0), oB a_35 3 [.ref a_36, .ref a_37], lA g a_36 25 (fun _ => 0), lA g a_37 25 (fun _ => 0), oB a_39 0 [.ref a_40, .ref a_42, .ref a_43, .ref a_44, .ref a_25, .ref a_27], oB a_40 7 [.ref a_41, .int (nI 512)], bA g a_41 512 (fun _ => 0), zA g a_42 32 (fun _ => 0), iA g a_43 35 (fun _ => 0), oB a_44 7 [.ref a_45, .int (nI 0)], bA g a_45 560 (fun _ => 0), oB a_47 9 [.ref a_48, .ref a_25, .ref a_27, .ref a_39], oB a_48 7 [.ref a_49, .int (nI 0)], bA g a_49 256 (fun _ => 0), oB a_51 1 [.ref a_52, .ref a_54, .ref a_25, .ref a_27, .ref a_47], oB a_52 7 [.ref a_53, .int (nI 0)], bA g a_53 96 (fun _ => 0), oB a_54 7 [.ref a_55, .int (nI 0)], bA g a_55 16 (fun _ => 0), oB a_57 6 [.ref a_58, .ref a_60, .ref a_25, .ref a_7, .ref a_27], oB a_58 7 [.ref a_59, .int (nI 0)], bA g a_59 8 (fun _ => 0), oB a_60 7 [.ref a_61, .int (nI 0)], bA g a_61 32 (fun _ => 0)] rfl (fun _ => rfl) rfl [] rfl (Nat.le_of_ble_eq_true rfl) ⟨Nat.le_of_ble_eq_true rfl, Nat.le_of_ble_eq_true rfl⟩ dX10_init_235 ?_
  intro FZ hFZ
  try dsimp only at hFZ
  refine j_w [oB so 10 [.ref a_1, .ref a_4, .ref a_7, .ref a_10, .ref a_13, .ref a_16, .ref a_19, .ref a_22, .ref a_25, .ref a_27, .ref a_39, .ref a_47, .ref a_51, .ref a_57], oB a_1 7 [.ref a_2, .int (nI 0)], bA g a_2 600 (fun _ => 0), oB a_4 7 [.ref a_5, .int (nI 0)], bA g a_5 32 (fun _ => 0), oB a_7 7 [.ref a_8, .int (nI (0 + 48))], bA g a_8 48 FZ, oB a_10 7 [.ref a_11, .int (nI 0)], bA g a_11 16 (fun _ => 0), oB a_13 7 [.ref a_14, .int (nI 0)], bA g a_14 16 (fun _ => 0), oB a_16 7 [.ref a_17, .int (nI 0)], bA g a_17 1680 (fun _ => 0), oB a_19 7 [.ref a_20, .int (nI 0)], bA g a_20 16 (fun _ => 0), oB a_22 7 [.ref a_23, .int (nI 0)], bA g a_23 16 (fun _ => 0), oB a_25 8 [.int (nI 0), .int (nI 4), .int (nI 1), .int (nI 1), .int (nI 1), .int (nI 1)], oB a_27 5 [.ref a_28, .ref a_30, .ref a_32, .ref a_35, .ref a_25, .ref a_7, .int (nI 0), .int (nI 0)], oB a_28 7 [.ref a_29, .int (nI 0)], bA g a_29 768 (fun _ => 0), oB a_30 7 [.ref a_31, .int (nI 0)], bA g a_31 32 (fun _ => 0), oB a_32 4 [.ref a_33, .ref a_34], iA g a_33 8 (fun _ => 0), iA g a_34 64 (fun _ => 0), oB a_35 3 [.ref a_36, .ref a_37], lA g a_36 25 (fun _ => 0), lA g a_37 25 (fun _ => 0), oB a_39 0 [.ref a_40, .ref a_42, .ref a_43, .ref a_44, .ref a_25, .ref a_27], oB a_40 7 [.ref a_41, .int (nI 512)], bA g a_41 512 (fun _ => 0), zA g a_42 32 (fun _ => 0), iA g a_43 35 (fun _ => 0), oB a_44 7 [.ref a_45, .int (nI 0)], bA g a_45 560 (fun _ => 0), oB a_47 9 [.ref a_48, .ref a_25, .ref a_27, .ref a_39], oB a_48 7 [.ref a_49, .int (nI 0)], bA g a_49 256 (fun _ => 0), oB a_51 1 [.ref a_52, .ref a_54, .ref a_25, .ref a_27, .ref a_47], oB a_52 7 [.ref a_53, .int (nI 0)], bA g a_53 96 (fun _ => 0), oB a_54 7 [.ref a_55, .int (nI 0)], bA g a_55 16 (fun _ => 0), oB a_57 6 [.ref a_58, .ref a_60, .ref a_25, .ref a_7, .ref a_27], oB a_58 7 [.ref a_59, .int (nI 0)], bA g a_59 8 (fun _ => 0), oB a_60 7 [.ref a_61, .int (nI 0)], bA g a_61 32 (fun _ => 0)] rfl ?_
  refine j_st [] rfl ?_
  refine j_w [oB so 10 [.ref a_1, .ref a_4, .ref a_7, .ref a_10, .ref a_13, .ref a_16, .ref a_19, .ref a_22, .ref a_25, .ref a_27, .ref a_39, .ref a_47, .ref a_51, .ref a_57], oB a_1 7 [.ref a_2, .int (nI 0)], bA g a_2 600 (fun _ => 0), oB a_4 7 [.ref a_5, .int (nI 0)], bA g a_5 32 (fun _ => 0), oB a_7 7 [.ref a_8, .int (nI 48)], bA g a_8 48 (fun _ => 0), oB a_10 7 [.ref a_11, .int (nI 0)], bA g a_11 16 (fun _ => 0), oB a_13 7 [.ref a_14, .int (nI 0)], bA g a_14 16 (fun _ => 0), oB a_16 7 [.ref a_17, .int (nI 0)], bA g a_17 1680 (fun _ => 0), oB a_19 7 [.ref a_20, .int (nI 0)], bA g a_20 16 (fun _ => 0), oB a_22 7 [.ref a_23, .int (nI 0)], bA g a_23 16 (fun _ => 0), oB a_25 8 [.int (nI 0), .int (nI 4), .int (nI 1), .int (nI 1), .int (nI 1), .int (nI 1)], oB a_27 5 [.ref a_28, .ref a_30, .ref a_32, .ref a_35, .ref a_25, .ref a_7, .int (nI 0), .int (nI 0)], oB a_28 7 [.ref a_29, .int (nI 0)], bA g a_29 768 (fun _ => 0), oB a_30 7 [.ref a_31, .int (nI 0)], bA g a_31 32 (fun _ => 0), oB a_32 4 [.ref a_33, .ref a_34], iA g a_33 8 (fun _ => 0), iA g a_34 64 (fun _ => 0), oB a_35 3 [.ref a_36, .ref a_37], lA g a_36 25 (fun _ => 0), lA g a_37 25 (fun _ => 0), oB a_39 0 [.ref a_40, .ref a_42, .ref a_43, .ref a_44, .ref a_25, .ref a_27], oB a_40 7 [.ref a_41, .int (nI 512)], bA g a_41 512 (fun _ => 0), zA g a_42 32 (fun _ => 0), iA g a_43 35 (fun _ => 0), oB a_44 7 [.ref a_45, .int (nI 0)], bA g a_45 560 (fun _ => 0), oB a_47 9 [.ref a_48, .ref a_25, .ref a_27, .ref a_39], oB a_48 7 [.ref a_49, .int (nI 0)], bA g a_49 256 (fun _ => 0), oB a_51 1 [.ref a_52, .ref a_54, .ref a_25, .ref a_27, .ref a_47], oB a_52 7 [.ref a_53, .int (nI 0)], bA g a_53 96 (fun _ => 0), oB a_54 7 [.ref a_55, .int (nI 0)], bA g a_55 16 (fun _ => 0), oB a_57 6 [.ref a_58, .ref a_60, .ref a_25, .ref a_7, .ref a_27], oB a_58 7 [.ref a_59, .int (nI 0)], bA g a_59 8 (fun _ => 0), oB a_60 7 [.ref a_61, .int (nI 0)], bA g a_61 32 (fun _ => 0)] (by rw [hFZ, zero_put, Nat.zero_add]) ?_
  refine j_pc 238 rfl ?_
  exact hret (a_1, a_2, a_4, a_5, a_7, a_8, a_10, a_11, a_13, a_14, a_16, a_17, a_19, a_20, a_22, a_23, a_25, a_27, a_28, a_29, a_30, a_31, a_32, a_33, a_34, a_35, a_36, a_37, a_39, a_40, a_41, a_42, a_43, a_44, a_45, a_47, a_48, a_49, a_51, a_52, a_53, a_54, a_55, a_57, a_58, a_59, a_60, a_61) trivial 238 _ dX10_init_238

