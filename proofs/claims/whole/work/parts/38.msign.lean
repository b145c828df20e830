theorem ixV_in {ix : Nat → Nat} {mk j : Nat} (h : j < 2 + mk) : ixV ix mk j = nI (ix j) := if_pos h

set_option maxRecDepth 20000 in
theorem ggX11_signMixed_X11_mixRand : GoodIn wsX11_signMixed wsX11_mixRand := goodIn_r _ [22, 23, 24, 25, 11, 9, 26, 3, 27, 28, 29, 21, 30, 31, 32, 33, 34, 35, 36, 37, 38, 39, 40, 41, 42, 43, 44, 45, 46, 47, 48, 49, 50, 51, 52, 53, 54, 55, 56, 57, 58, 59, 60, 61, 62, 63, 64, 65, 66, 67, 68, 69, 70, 71, 72, 73, 74, 75, 76, 77, 78, 79, 80, 81, 82, 83, 84, 85, 86, 87, 88, 89, 90, 91, 149, 150, 151, 152, 153, 154, 155, 156, 157, 158, 159, 160, 161, 162, 163, 164, 165, 166, 167, 168, 169, 170, 171, 172, 173, 174, 175, 176, 177, 178, 179, 180, 181, 182, 183, 184, 185, 186, 187, 188, 189, 190, 191] rfl (by decide +kernel)
set_option maxRecDepth 20000 in
theorem gX11_signMixed_X11_mixRand : GoodIn wsX11_signMixed (wsV RX11 307 RX11 yX11_mixRand wsX11_mixRand) := goodIn_app (goodIn_of _ (by decide +kernel)) ggX11_signMixed_X11_mixRand
set_option maxRecDepth 20000 in
theorem ggX11_signMixed_X11_put : GoodIn wsX11_signMixed wsX11_put := goodIn_r _ [95, 11, 96, 2, 149, 150, 151, 152, 153, 154, 155, 156, 157, 158, 159, 160, 161, 162, 163, 164, 165, 166, 167, 168, 169, 170, 171, 172, 173, 174, 175, 176, 177, 178, 179, 180, 181, 182, 183, 184, 185, 186, 187, 188, 189, 190, 191] rfl (by decide +kernel)
set_option maxRecDepth 20000 in
theorem gX11_signMixed_X11_put : GoodIn wsX11_signMixed (wsV RX11 304 RX11 yX11_put wsX11_put) := goodIn_app (goodIn_of _ (by decide +kernel)) ggX11_signMixed_X11_put
set_option maxRecDepth 20000 in
theorem ggX11_signMixed_X11_point : GoodIn wsX11_signMixed wsX11_point := goodIn_r _ [100, 23, 11, 101, 24, 9, 26, 8, 7, 5, 16, 14, 41, 42, 43, 21, 44, 32, 33, 34, 35, 36, 37, 38, 39, 40, 31, 45, 46, 47, 48, 49, 50, 51, 52, 53, 54, 55, 56, 57, 58, 59, 60, 61, 62, 63, 64, 65, 66, 67, 68, 69, 70, 71, 72, 73, 74, 75, 76, 77, 78, 79, 80, 81, 82, 83, 84, 85, 86, 87, 88, 89, 90, 91, 149, 150, 151, 152, 153, 154, 155, 156, 157, 158, 159, 160, 161, 162, 163, 164, 165, 166, 167, 168, 169, 170, 171, 172, 173, 174, 175, 176, 177, 178, 179, 180, 181, 182, 183, 184, 185, 186, 187, 188, 189, 190, 191] rfl (by decide +kernel)
set_option maxRecDepth 20000 in
theorem gX11_signMixed_X11_point : GoodIn wsX11_signMixed (wsV RX11 310 RX11 yX11_point wsX11_point) := goodIn_app (goodIn_of _ (by decide +kernel)) ggX11_signMixed_X11_point
set_option maxRecDepth 20000 in
theorem ggX11_signMixed_X11_growFew : GoodIn wsX11_signMixed wsX11_growFew := goodIn_r _ [105, 8, 9, 11, 10, 106, 107, 108, 21, 109, 110, 111, 112, 113, 23, 24, 4, 6, 37, 38, 39, 40, 31, 32, 33, 34, 35, 36, 62, 63, 64, 65, 114, 115, 116, 117, 26, 51, 52, 53, 54, 55, 56, 57, 58, 59, 60, 61, 66, 67, 68, 69, 70, 71, 72, 73, 74, 75, 76, 77, 78, 79, 80, 81, 82, 83, 84, 85, 86, 87, 88, 89, 90, 91, 41, 42, 43, 44, 118, 119, 120, 121, 149, 150, 151, 152, 153, 154, 155, 156, 157, 158, 159, 160, 161, 162, 163, 164, 165, 166, 167, 168, 169, 170, 171, 172, 173, 174, 175, 176, 177, 178, 179, 180, 181, 182, 183, 184, 185, 186, 187, 188, 189, 190, 191] rfl (by decide +kernel)
set_option maxRecDepth 20000 in
theorem gX11_signMixed_X11_growFew : GoodIn wsX11_signMixed (wsV RX11 314 RX11 yX11_growFew wsX11_growFew) := goodIn_app (goodIn_of _ (by decide +kernel)) ggX11_signMixed_X11_growFew
set_option maxRecDepth 20000 in
theorem ggX11_signMixed_X11_secret : GoodIn wsX11_signMixed wsX11_secret := goodIn_r _ [109, 110, 111, 112, 21, 113, 23, 24, 4, 6, 37, 38, 39, 40, 11, 31, 32, 33, 34, 35, 36, 62, 63, 64, 65, 114, 115, 116, 117, 26, 51, 52, 53, 54, 55, 56, 57, 58, 59, 60, 61, 66, 67, 68, 69, 70, 71, 72, 73, 74, 75, 76, 77, 78, 79, 80, 81, 82, 83, 84, 85, 86, 87, 88, 89, 90, 91, 149, 150, 151, 152, 153, 154, 155, 156, 157, 158, 159, 160, 161, 162, 163, 164, 165, 166, 167, 168, 169, 170, 171, 172, 173, 174, 175, 176, 177, 178, 179, 180, 181, 182, 183, 184, 185, 186, 187, 188, 189, 190, 191] rfl (by decide +kernel)
set_option maxRecDepth 20000 in
theorem gX11_signMixed_X11_secret : GoodIn wsX11_signMixed (wsV RX11 274 RX11 yX11_secret wsX11_secret) := goodIn_app (goodIn_of _ (by decide +kernel)) ggX11_signMixed_X11_secret
set_option maxRecDepth 20000 in
theorem ggX11_signMixed_X11_fewAt : GoodIn wsX11_signMixed wsX11_fewAt := goodIn_r _ [121, 8, 149, 150, 151, 152, 153, 154, 155, 156, 157, 158, 159, 160, 161, 162, 163, 164, 165, 166, 167, 168, 169, 170, 171, 172, 173, 174, 175, 176, 177, 178, 179, 180, 181, 182, 183, 184, 185, 186, 187, 188, 189, 190, 191] rfl (by decide +kernel)
set_option maxRecDepth 20000 in
theorem gX11_signMixed_X11_fewAt : GoodIn wsX11_signMixed (wsV RX11 292 RX11 yX11_fewAt wsX11_fewAt) := goodIn_app (goodIn_of _ (by decide +kernel)) ggX11_signMixed_X11_fewAt
set_option maxRecDepth 20000 in
theorem ggX11_signMixed_X11_begin : GoodIn wsX11_signMixed wsX11_begin := goodIn_r _ [113, 23, 24, 4, 6, 37, 38, 39, 21, 40, 11, 31, 32, 33, 34, 35, 36, 62, 63, 64, 65, 149, 150, 151, 152, 153, 154, 155, 156, 157, 158, 159, 160, 161, 162, 163, 164, 165, 166, 167, 168, 169, 170, 171, 172, 173, 174, 175, 176, 177, 178, 179, 180, 181, 182, 183, 184, 185, 186, 187, 188, 189, 190, 191] rfl (by decide +kernel)
set_option maxRecDepth 20000 in
theorem gX11_signMixed_X11_begin : GoodIn wsX11_signMixed (wsV RX11 262 RX11 yX11_begin wsX11_begin) := goodIn_app (goodIn_of _ (by decide +kernel)) ggX11_signMixed_X11_begin
set_option maxRecDepth 20000 in
theorem ggX11_signMixed_X11_layRow : GoodIn wsX11_signMixed wsX11_layRow := goodIn_r _ [44, 32, 33, 34, 21, 35, 36, 23, 149, 150, 151, 152, 153, 154, 155, 156, 157, 158, 159, 160, 161, 162, 163, 164, 165, 166, 167, 168, 169, 170, 171, 172, 173, 174, 175, 176, 177, 178, 179, 180, 181, 182, 183, 184, 185, 186, 187, 188, 189, 190, 191] rfl (by decide +kernel)
set_option maxRecDepth 20000 in
theorem gX11_signMixed_X11_layRow : GoodIn wsX11_signMixed (wsV RX11 270 RX11 yX11_layRow wsX11_layRow) := goodIn_app (goodIn_of _ (by decide +kernel)) ggX11_signMixed_X11_layRow
set_option maxRecDepth 20000 in
theorem ggX11_signMixed_X11_end : GoodIn wsX11_signMixed wsX11_end := goodIn_r _ [117, 24, 11, 26, 51, 52, 53, 21, 54, 55, 56, 57, 58, 59, 23, 60, 61, 32, 33, 34, 35, 36, 62, 63, 64, 65, 66, 67, 68, 69, 70, 71, 72, 73, 74, 75, 76, 77, 78, 79, 80, 81, 82, 83, 84, 85, 86, 87, 88, 89, 90, 91, 149, 150, 151, 152, 153, 154, 155, 156, 157, 158, 159, 160, 161, 162, 163, 164, 165, 166, 167, 168, 169, 170, 171, 172, 173, 174, 175, 176, 177, 178, 179, 180, 181, 182, 183, 184, 185, 186, 187, 188, 189, 190, 191] rfl (by decide +kernel)
set_option maxRecDepth 20000 in
theorem gX11_signMixed_X11_end : GoodIn wsX11_signMixed (wsV RX11 266 RX11 yX11_end wsX11_end) := goodIn_app (goodIn_of _ (by decide +kernel)) ggX11_signMixed_X11_end
set_option maxRecDepth 20000 in
theorem ggX11_signMixed_X11_one : GoodIn wsX11_signMixed wsX11_one := goodIn_r _ [125, 126, 9, 127, 16, 15, 128, 129, 130, 21, 131, 11, 106, 107, 108, 109, 110, 111, 112, 113, 23, 24, 4, 6, 37, 38, 39, 40, 31, 32, 33, 34, 35, 36, 62, 63, 64, 65, 114, 115, 116, 117, 26, 51, 52, 53, 54, 55, 56, 57, 58, 59, 60, 61, 66, 67, 68, 69, 70, 71, 72, 73, 74, 75, 76, 77, 78, 79, 80, 81, 82, 83, 84, 85, 86, 87, 88, 89, 90, 91, 132, 133, 134, 135, 41, 42, 43, 44, 92, 93, 94, 95, 96, 2, 136, 137, 138, 139, 140, 141, 142, 143, 144, 145, 146, 147, 148, 149, 150, 151, 152, 153, 154, 155, 156, 157, 158, 159, 160, 161, 162, 163, 164, 165, 166, 167, 168, 169, 170, 171, 172, 173, 174, 175, 176, 177, 178, 179, 180, 181, 182, 183, 184, 185, 186, 187, 188, 189, 190, 191] rfl (by decide +kernel)
set_option maxRecDepth 20000 in
theorem gX11_signMixed_X11_one : GoodIn wsX11_signMixed (wsV RX11 318 RX11 yX11_one wsX11_one) := goodIn_app (goodIn_of _ (by decide +kernel)) ggX11_signMixed_X11_one
set_option maxRecDepth 20000 in
theorem ggX11_signMixed_X11_nodeAt : GoodIn wsX11_signMixed wsX11_nodeAt := goodIn_r _ [143, 16, 149, 150, 151, 152, 153, 154, 155, 156, 157, 158, 159, 160, 161, 162, 163, 164, 165, 166, 167, 168, 169, 170, 171, 172, 173, 174, 175, 176, 177, 178, 179, 180, 181, 182, 183, 184, 185, 186, 187, 188, 189, 190, 191] rfl (by decide +kernel)
set_option maxRecDepth 20000 in
theorem gX11_signMixed_X11_nodeAt : GoodIn wsX11_signMixed (wsV RX11 282 RX11 yX11_nodeAt wsX11_nodeAt) := goodIn_app (goodIn_of _ (by decide +kernel)) ggX11_signMixed_X11_nodeAt
theorem dX11_signMixed_0 : decode cX11_signMixed 0 = .ok (.aload_n 0, 1) := by decide +kernel
theorem dX11_signMixed_1 : decode cX11_signMixed 1 = .ok (.getfield 244, 3) := by decide +kernel
theorem dX11_signMixed_4 : decode cX11_signMixed 4 = .ok (.ifCond .ne 6, 3) := by decide +kernel
theorem dX11_signMixed_7 : decode cX11_signMixed 7 = .ok (.bipush (-3), 2) := by decide +kernel
theorem dX11_signMixed_9 : decode cX11_signMixed 9 = .ok (.ireturn, 1) := by decide +kernel
theorem dX11_signMixed_10 : decode cX11_signMixed 10 = .ok (.aload_n 0, 1) := by decide +kernel
theorem dX11_signMixed_11 : decode cX11_signMixed 11 = .ok (.invokevirtual 307, 3) := by decide +kernel
theorem dX11_signMixed_14 : decode cX11_signMixed 14 = .ok (.aload_n 0, 1) := by decide +kernel
theorem dX11_signMixed_15 : decode cX11_signMixed 15 = .ok (.iconst 0, 1) := by decide +kernel
theorem dX11_signMixed_16 : decode cX11_signMixed 16 = .ok (.putfield 298, 3) := by decide +kernel
theorem dX11_signMixed_19 : decode cX11_signMixed 19 = .ok (.aload_n 0, 1) := by decide +kernel
theorem dX11_signMixed_20 : decode cX11_signMixed 20 = .ok (.aload_n 0, 1) := by decide +kernel
theorem dX11_signMixed_21 : decode cX11_signMixed 21 = .ok (.getfield 144, 3) := by decide +kernel
theorem dX11_signMixed_24 : decode cX11_signMixed 24 = .ok (.iconst 0, 1) := by decide +kernel
theorem dX11_signMixed_25 : decode cX11_signMixed 25 = .ok (.invokevirtual 304, 3) := by decide +kernel
theorem dX11_signMixed_28 : decode cX11_signMixed 28 = .ok (.aload_n 0, 1) := by decide +kernel
theorem dX11_signMixed_29 : decode cX11_signMixed 29 = .ok (.aload_n 0, 1) := by decide +kernel
theorem dX11_signMixed_30 : decode cX11_signMixed 30 = .ok (.getfield 144, 3) := by decide +kernel
theorem dX11_signMixed_33 : decode cX11_signMixed 33 = .ok (.invokevirtual 310, 3) := by decide +kernel
theorem dX11_signMixed_36 : decode cX11_signMixed 36 = .ok (.aload_n 0, 1) := by decide +kernel
theorem dX11_signMixed_37 : decode cX11_signMixed 37 = .ok (.iconst 0, 1) := by decide +kernel
theorem dX11_signMixed_38 : decode cX11_signMixed 38 = .ok (.putfield 256, 3) := by decide +kernel
theorem dX11_signMixed_41 : decode cX11_signMixed 41 = .ok (.aload_n 0, 1) := by decide +kernel
theorem dX11_signMixed_42 : decode cX11_signMixed 42 = .ok (.aload_n 0, 1) := by decide +kernel
theorem dX11_signMixed_43 : decode cX11_signMixed 43 = .ok (.getfield 147, 3) := by decide +kernel
theorem dX11_signMixed_46 : decode cX11_signMixed 46 = .ok (.iconst 0, 1) := by decide +kernel
theorem dX11_signMixed_47 : decode cX11_signMixed 47 = .ok (.iaload, 1) := by decide +kernel
theorem dX11_signMixed_48 : decode cX11_signMixed 48 = .ok (.putfield 259, 3) := by decide +kernel
theorem dX11_signMixed_51 : decode cX11_signMixed 51 = .ok (.aload_n 0, 1) := by decide +kernel
theorem dX11_signMixed_52 : decode cX11_signMixed 52 = .ok (.getfield 147, 3) := by decide +kernel
theorem dX11_signMixed_55 : decode cX11_signMixed 55 = .ok (.iconst 1, 1) := by decide +kernel
theorem dX11_signMixed_56 : decode cX11_signMixed 56 = .ok (.iaload, 1) := by decide +kernel
theorem dX11_signMixed_57 : decode cX11_signMixed 57 = .ok (.istore_n 1, 1) := by decide +kernel
theorem dX11_signMixed_58 : decode cX11_signMixed 58 = .ok (.iconst 0, 1) := by decide +kernel
theorem dX11_signMixed_59 : decode cX11_signMixed 59 = .ok (.istore_n 2, 1) := by decide +kernel
theorem dX11_signMixed_60 : decode cX11_signMixed 60 = .ok (.iload_n 2, 1) := by decide +kernel
theorem dX11_signMixed_61 : decode cX11_signMixed 61 = .ok (.aload_n 0, 1) := by decide +kernel
theorem dX11_signMixed_62 : decode cX11_signMixed 62 = .ok (.getfield 178, 3) := by decide +kernel
theorem dX11_signMixed_65 : decode cX11_signMixed 65 = .ok (.if_icmp .ge 141, 3) := by decide +kernel
theorem dX11_signMixed_68 : decode cX11_signMixed 68 = .ok (.aload_n 0, 1) := by decide +kernel
theorem dX11_signMixed_69 : decode cX11_signMixed 69 = .ok (.getfield 147, 3) := by decide +kernel
theorem dX11_signMixed_72 : decode cX11_signMixed 72 = .ok (.iconst 2, 1) := by decide +kernel
theorem dX11_signMixed_73 : decode cX11_signMixed 73 = .ok (.iload_n 2, 1) := by decide +kernel
theorem dX11_signMixed_74 : decode cX11_signMixed 74 = .ok (.iadd, 1) := by decide +kernel
theorem dX11_signMixed_75 : decode cX11_signMixed 75 = .ok (.iaload, 1) := by decide +kernel
theorem dX11_signMixed_76 : decode cX11_signMixed 76 = .ok (.istore_n 3, 1) := by decide +kernel
theorem dX11_signMixed_77 : decode cX11_signMixed 77 = .ok (.aload_n 0, 1) := by decide +kernel
theorem dX11_signMixed_78 : decode cX11_signMixed 78 = .ok (.iload_n 1, 1) := by decide +kernel
theorem dX11_signMixed_79 : decode cX11_signMixed 79 = .ok (.iload_n 2, 1) := by decide +kernel
theorem dX11_signMixed_80 : decode cX11_signMixed 80 = .ok (.invokevirtual 314, 3) := by decide +kernel
theorem dX11_signMixed_83 : decode cX11_signMixed 83 = .ok (.aload_n 0, 1) := by decide +kernel
theorem dX11_signMixed_84 : decode cX11_signMixed 84 = .ok (.bipush 6, 2) := by decide +kernel
theorem dX11_signMixed_86 : decode cX11_signMixed 86 = .ok (.iload_n 1, 1) := by decide +kernel
theorem dX11_signMixed_87 : decode cX11_signMixed 87 = .ok (.iconst 0, 1) := by decide +kernel
theorem dX11_signMixed_88 : decode cX11_signMixed 88 = .ok (.iload_n 2, 1) := by decide +kernel
theorem dX11_signMixed_89 : decode cX11_signMixed 89 = .ok (.aload_n 0, 1) := by decide +kernel
theorem dX11_signMixed_90 : decode cX11_signMixed 90 = .ok (.getfield 175, 3) := by decide +kernel
theorem dX11_signMixed_93 : decode cX11_signMixed 93 = .ok (.ishl, 1) := by decide +kernel
theorem dX11_signMixed_94 : decode cX11_signMixed 94 = .ok (.iload_n 3, 1) := by decide +kernel
theorem dX11_signMixed_95 : decode cX11_signMixed 95 = .ok (.iadd, 1) := by decide +kernel
theorem dX11_signMixed_96 : decode cX11_signMixed 96 = .ok (.aload_n 0, 1) := by decide +kernel
theorem dX11_signMixed_97 : decode cX11_signMixed 97 = .ok (.getfield 138, 3) := by decide +kernel
theorem dX11_signMixed_100 : decode cX11_signMixed 100 = .ok (.iconst 0, 1) := by decide +kernel
theorem dX11_signMixed_101 : decode cX11_signMixed 101 = .ok (.invokevirtual 274, 3) := by decide +kernel
theorem dX11_signMixed_104 : decode cX11_signMixed 104 = .ok (.aload_n 0, 1) := by decide +kernel
theorem dX11_signMixed_105 : decode cX11_signMixed 105 = .ok (.aload_n 0, 1) := by decide +kernel
theorem dX11_signMixed_106 : decode cX11_signMixed 106 = .ok (.getfield 138, 3) := by decide +kernel
theorem dX11_signMixed_109 : decode cX11_signMixed 109 = .ok (.iconst 0, 1) := by decide +kernel
theorem dX11_signMixed_110 : decode cX11_signMixed 110 = .ok (.invokevirtual 304, 3) := by decide +kernel
theorem dX11_signMixed_113 : decode cX11_signMixed 113 = .ok (.iconst 0, 1) := by decide +kernel
theorem dX11_signMixed_114 : decode cX11_signMixed 114 = .ok (.istore 4, 2) := by decide +kernel
theorem dX11_signMixed_116 : decode cX11_signMixed 116 = .ok (.iload 4, 2) := by decide +kernel
theorem dX11_signMixed_118 : decode cX11_signMixed 118 = .ok (.aload_n 0, 1) := by decide +kernel
theorem dX11_signMixed_119 : decode cX11_signMixed 119 = .ok (.getfield 175, 3) := by decide +kernel
theorem dX11_signMixed_122 : decode cX11_signMixed 122 = .ok (.if_icmp .ge 29, 3) := by decide +kernel
theorem dX11_signMixed_125 : decode cX11_signMixed 125 = .ok (.aload_n 0, 1) := by decide +kernel
theorem dX11_signMixed_126 : decode cX11_signMixed 126 = .ok (.aload_n 0, 1) := by decide +kernel
theorem dX11_signMixed_127 : decode cX11_signMixed 127 = .ok (.getfield 135, 3) := by decide +kernel
theorem dX11_signMixed_130 : decode cX11_signMixed 130 = .ok (.aload_n 0, 1) := by decide +kernel
theorem dX11_signMixed_131 : decode cX11_signMixed 131 = .ok (.iload 4, 2) := by decide +kernel
theorem dX11_signMixed_133 : decode cX11_signMixed 133 = .ok (.iload_n 3, 1) := by decide +kernel
theorem dX11_signMixed_134 : decode cX11_signMixed 134 = .ok (.iload 4, 2) := by decide +kernel
theorem dX11_signMixed_136 : decode cX11_signMixed 136 = .ok (.ishr, 1) := by decide +kernel
theorem dX11_signMixed_137 : decode cX11_signMixed 137 = .ok (.iconst 1, 1) := by decide +kernel
theorem dX11_signMixed_138 : decode cX11_signMixed 138 = .ok (.ixor, 1) := by decide +kernel
theorem dX11_signMixed_139 : decode cX11_signMixed 139 = .ok (.invokevirtual 292, 3) := by decide +kernel
theorem dX11_signMixed_142 : decode cX11_signMixed 142 = .ok (.invokevirtual 304, 3) := by decide +kernel
theorem dX11_signMixed_145 : decode cX11_signMixed 145 = .ok (.iinc 4 1, 3) := by decide +kernel
theorem dX11_signMixed_148 : decode cX11_signMixed 148 = .ok (.goto (-32), 3) := by decide +kernel
theorem dX11_signMixed_151 : decode cX11_signMixed 151 = .ok (.iconst 0, 1) := by decide +kernel
theorem dX11_signMixed_152 : decode cX11_signMixed 152 = .ok (.istore 4, 2) := by decide +kernel
theorem dX11_signMixed_154 : decode cX11_signMixed 154 = .ok (.iload 4, 2) := by decide +kernel
theorem dX11_signMixed_156 : decode cX11_signMixed 156 = .ok (.aload_n 0, 1) := by decide +kernel
theorem dX11_signMixed_157 : decode cX11_signMixed 157 = .ok (.getfield 166, 3) := by decide +kernel
theorem dX11_signMixed_160 : decode cX11_signMixed 160 = .ok (.if_icmp .ge 40, 3) := by decide +kernel
theorem dX11_signMixed_163 : decode cX11_signMixed 163 = .ok (.aload_n 0, 1) := by decide +kernel
theorem dX11_signMixed_164 : decode cX11_signMixed 164 = .ok (.getfield 153, 3) := by decide +kernel
theorem dX11_signMixed_167 : decode cX11_signMixed 167 = .ok (.aload_n 0, 1) := by decide +kernel
theorem dX11_signMixed_168 : decode cX11_signMixed 168 = .ok (.getfield 166, 3) := by decide +kernel
theorem dX11_signMixed_171 : decode cX11_signMixed 171 = .ok (.iload_n 2, 1) := by decide +kernel
theorem dX11_signMixed_172 : decode cX11_signMixed 172 = .ok (.imul, 1) := by decide +kernel
theorem dX11_signMixed_173 : decode cX11_signMixed 173 = .ok (.iload 4, 2) := by decide +kernel
theorem dX11_signMixed_175 : decode cX11_signMixed 175 = .ok (.iadd, 1) := by decide +kernel
theorem dX11_signMixed_176 : decode cX11_signMixed 176 = .ok (.aload_n 0, 1) := by decide +kernel
theorem dX11_signMixed_177 : decode cX11_signMixed 177 = .ok (.getfield 135, 3) := by decide +kernel
theorem dX11_signMixed_180 : decode cX11_signMixed 180 = .ok (.aload_n 0, 1) := by decide +kernel
theorem dX11_signMixed_181 : decode cX11_signMixed 181 = .ok (.aload_n 0, 1) := by decide +kernel
theorem dX11_signMixed_182 : decode cX11_signMixed 182 = .ok (.getfield 175, 3) := by decide +kernel
theorem dX11_signMixed_185 : decode cX11_signMixed 185 = .ok (.iconst 0, 1) := by decide +kernel
theorem dX11_signMixed_186 : decode cX11_signMixed 186 = .ok (.invokevirtual 292, 3) := by decide +kernel
theorem dX11_signMixed_189 : decode cX11_signMixed 189 = .ok (.iload 4, 2) := by decide +kernel
theorem dX11_signMixed_191 : decode cX11_signMixed 191 = .ok (.iadd, 1) := by decide +kernel
theorem dX11_signMixed_192 : decode cX11_signMixed 192 = .ok (.baload, 1) := by decide +kernel
theorem dX11_signMixed_193 : decode cX11_signMixed 193 = .ok (.bastore, 1) := by decide +kernel
theorem dX11_signMixed_194 : decode cX11_signMixed 194 = .ok (.iinc 4 1, 3) := by decide +kernel
theorem dX11_signMixed_197 : decode cX11_signMixed 197 = .ok (.goto (-43), 3) := by decide +kernel
theorem dX11_signMixed_200 : decode cX11_signMixed 200 = .ok (.iinc 2 1, 3) := by decide +kernel
theorem dX11_signMixed_203 : decode cX11_signMixed 203 = .ok (.goto (-143), 3) := by decide +kernel
theorem dX11_signMixed_206 : decode cX11_signMixed 206 = .ok (.aload_n 0, 1) := by decide +kernel
theorem dX11_signMixed_207 : decode cX11_signMixed 207 = .ok (.iconst 4, 1) := by decide +kernel
theorem dX11_signMixed_208 : decode cX11_signMixed 208 = .ok (.iload_n 1, 1) := by decide +kernel
theorem dX11_signMixed_209 : decode cX11_signMixed 209 = .ok (.iconst 0, 1) := by decide +kernel
theorem dX11_signMixed_210 : decode cX11_signMixed 210 = .ok (.iconst 0, 1) := by decide +kernel
theorem dX11_signMixed_211 : decode cX11_signMixed 211 = .ok (.invokevirtual 262, 3) := by decide +kernel
theorem dX11_signMixed_214 : decode cX11_signMixed 214 = .ok (.aload_n 0, 1) := by decide +kernel
theorem dX11_signMixed_215 : decode cX11_signMixed 215 = .ok (.aload_n 0, 1) := by decide +kernel
theorem dX11_signMixed_216 : decode cX11_signMixed 216 = .ok (.getfield 153, 3) := by decide +kernel
theorem dX11_signMixed_219 : decode cX11_signMixed 219 = .ok (.iconst 0, 1) := by decide +kernel
theorem dX11_signMixed_220 : decode cX11_signMixed 220 = .ok (.aload_n 0, 1) := by decide +kernel
theorem dX11_signMixed_221 : decode cX11_signMixed 221 = .ok (.getfield 166, 3) := by decide +kernel
theorem dX11_signMixed_224 : decode cX11_signMixed 224 = .ok (.aload_n 0, 1) := by decide +kernel
theorem dX11_signMixed_225 : decode cX11_signMixed 225 = .ok (.getfield 178, 3) := by decide +kernel
theorem dX11_signMixed_228 : decode cX11_signMixed 228 = .ok (.imul, 1) := by decide +kernel
theorem dX11_signMixed_229 : decode cX11_signMixed 229 = .ok (.invokevirtual 270, 3) := by decide +kernel
theorem dX11_signMixed_232 : decode cX11_signMixed 232 = .ok (.aload_n 0, 1) := by decide +kernel
theorem dX11_signMixed_233 : decode cX11_signMixed 233 = .ok (.aload_n 0, 1) := by decide +kernel
theorem dX11_signMixed_234 : decode cX11_signMixed 234 = .ok (.getfield 156, 3) := by decide +kernel
theorem dX11_signMixed_237 : decode cX11_signMixed 237 = .ok (.iconst 0, 1) := by decide +kernel
theorem dX11_signMixed_238 : decode cX11_signMixed 238 = .ok (.invokevirtual 266, 3) := by decide +kernel
theorem dX11_signMixed_241 : decode cX11_signMixed 241 = .ok (.aload_n 0, 1) := by decide +kernel
theorem dX11_signMixed_242 : decode cX11_signMixed 242 = .ok (.aload_n 0, 1) := by decide +kernel
theorem dX11_signMixed_243 : decode cX11_signMixed 243 = .ok (.getfield 156, 3) := by decide +kernel
theorem dX11_signMixed_246 : decode cX11_signMixed 246 = .ok (.iconst 0, 1) := by decide +kernel
theorem dX11_signMixed_247 : decode cX11_signMixed 247 = .ok (.iload_n 1, 1) := by decide +kernel
theorem dX11_signMixed_248 : decode cX11_signMixed 248 = .ok (.invokevirtual 318, 3) := by decide +kernel
theorem dX11_signMixed_251 : decode cX11_signMixed 251 = .ok (.aload_n 0, 1) := by decide +kernel
theorem dX11_signMixed_252 : decode cX11_signMixed 252 = .ok (.getfield 172, 3) := by decide +kernel
theorem dX11_signMixed_255 : decode cX11_signMixed 255 = .ok (.iconst 2, 1) := by decide +kernel
theorem dX11_signMixed_256 : decode cX11_signMixed 256 = .ok (.if_icmp .ne 66, 3) := by decide +kernel
theorem dX11_signMixed_259 : decode cX11_signMixed 259 = .ok (.iconst 0, 1) := by decide +kernel
theorem dX11_signMixed_260 : decode cX11_signMixed 260 = .ok (.istore_n 2, 1) := by decide +kernel
theorem dX11_signMixed_261 : decode cX11_signMixed 261 = .ok (.iload_n 2, 1) := by decide +kernel
theorem dX11_signMixed_262 : decode cX11_signMixed 262 = .ok (.aload_n 0, 1) := by decide +kernel
theorem dX11_signMixed_263 : decode cX11_signMixed 263 = .ok (.getfield 166, 3) := by decide +kernel
theorem dX11_signMixed_266 : decode cX11_signMixed 266 = .ok (.if_icmp .ge 31, 3) := by decide +kernel
theorem dX11_signMixed_269 : decode cX11_signMixed 269 = .ok (.aload_n 0, 1) := by decide +kernel
theorem dX11_signMixed_270 : decode cX11_signMixed 270 = .ok (.getfield 156, 3) := by decide +kernel
theorem dX11_signMixed_273 : decode cX11_signMixed 273 = .ok (.iload_n 2, 1) := by decide +kernel
theorem dX11_signMixed_274 : decode cX11_signMixed 274 = .ok (.aload_n 0, 1) := by decide +kernel
theorem dX11_signMixed_275 : decode cX11_signMixed 275 = .ok (.getfield 129, 3) := by decide +kernel
theorem dX11_signMixed_278 : decode cX11_signMixed 278 = .ok (.aload_n 0, 1) := by decide +kernel
theorem dX11_signMixed_279 : decode cX11_signMixed 279 = .ok (.aload_n 0, 1) := by decide +kernel
theorem dX11_signMixed_280 : decode cX11_signMixed 280 = .ok (.getfield 169, 3) := by decide +kernel
theorem dX11_signMixed_283 : decode cX11_signMixed 283 = .ok (.iconst 0, 1) := by decide +kernel
theorem dX11_signMixed_284 : decode cX11_signMixed 284 = .ok (.invokevirtual 282, 3) := by decide +kernel
theorem dX11_signMixed_287 : decode cX11_signMixed 287 = .ok (.iload_n 2, 1) := by decide +kernel
theorem dX11_signMixed_288 : decode cX11_signMixed 288 = .ok (.iadd, 1) := by decide +kernel
theorem dX11_signMixed_289 : decode cX11_signMixed 289 = .ok (.baload, 1) := by decide +kernel
theorem dX11_signMixed_290 : decode cX11_signMixed 290 = .ok (.bastore, 1) := by decide +kernel
theorem dX11_signMixed_291 : decode cX11_signMixed 291 = .ok (.iinc 2 1, 3) := by decide +kernel
theorem dX11_signMixed_294 : decode cX11_signMixed 294 = .ok (.goto (-33), 3) := by decide +kernel
theorem dX11_signMixed_297 : decode cX11_signMixed 297 = .ok (.aload_n 0, 1) := by decide +kernel
theorem dX11_signMixed_298 : decode cX11_signMixed 298 = .ok (.getfield 259, 3) := by decide +kernel
theorem dX11_signMixed_301 : decode cX11_signMixed 301 = .ok (.istore_n 2, 1) := by decide +kernel
theorem dX11_signMixed_302 : decode cX11_signMixed 302 = .ok (.aload_n 0, 1) := by decide +kernel
theorem dX11_signMixed_303 : decode cX11_signMixed 303 = .ok (.iconst 1, 1) := by decide +kernel
theorem dX11_signMixed_304 : decode cX11_signMixed 304 = .ok (.putfield 256, 3) := by decide +kernel
theorem dX11_signMixed_307 : decode cX11_signMixed 307 = .ok (.aload_n 0, 1) := by decide +kernel
theorem dX11_signMixed_308 : decode cX11_signMixed 308 = .ok (.iconst 0, 1) := by decide +kernel
theorem dX11_signMixed_309 : decode cX11_signMixed 309 = .ok (.putfield 259, 3) := by decide +kernel
theorem dX11_signMixed_312 : decode cX11_signMixed 312 = .ok (.aload_n 0, 1) := by decide +kernel
theorem dX11_signMixed_313 : decode cX11_signMixed 313 = .ok (.aload_n 0, 1) := by decide +kernel
theorem dX11_signMixed_314 : decode cX11_signMixed 314 = .ok (.getfield 156, 3) := by decide +kernel
theorem dX11_signMixed_317 : decode cX11_signMixed 317 = .ok (.iconst 0, 1) := by decide +kernel
theorem dX11_signMixed_318 : decode cX11_signMixed 318 = .ok (.iload_n 2, 1) := by decide +kernel
theorem dX11_signMixed_319 : decode cX11_signMixed 319 = .ok (.invokevirtual 318, 3) := by decide +kernel
theorem dX11_signMixed_322 : decode cX11_signMixed 322 = .ok (.aload_n 0, 1) := by decide +kernel
theorem dX11_signMixed_323 : decode cX11_signMixed 323 = .ok (.aload_n 0, 1) := by decide +kernel
theorem dX11_signMixed_324 : decode cX11_signMixed 324 = .ok (.getfield 298, 3) := by decide +kernel
theorem dX11_signMixed_327 : decode cX11_signMixed 327 = .ok (.putfield 247, 3) := by decide +kernel
theorem dX11_signMixed_330 : decode cX11_signMixed 330 = .ok (.aload_n 0, 1) := by decide +kernel
theorem dX11_signMixed_331 : decode cX11_signMixed 331 = .ok (.getfield 298, 3) := by decide +kernel
theorem dX11_signMixed_334 : decode cX11_signMixed 334 = .ok (.ireturn, 1) := by decide +kernel
set_option maxRecDepth 20000 in
theorem ggX11_verify_X11_read : GoodIn wsX11_verify wsX11_read := goodIn_r _ [23, 12, 24, 4, 121, 122, 123, 124, 125, 126, 127, 128, 129, 130, 131, 132, 133, 134, 135, 136, 137, 138, 139, 140, 141, 142, 143, 144, 145, 146, 147, 148, 149, 150, 151, 152, 153, 154, 155, 156, 157, 158, 159, 160, 161, 162, 163] rfl (by decide +kernel)
set_option maxRecDepth 20000 in
theorem gX11_verify_X11_read : GoodIn wsX11_verify (wsV RX11 325 RX11 yX11_read wsX11_read) := goodIn_app (goodIn_of _ (by decide +kernel)) ggX11_verify_X11_read
set_option maxRecDepth 20000 in
theorem ggX11_verify_X11_point : GoodIn wsX11_verify wsX11_point := goodIn_r _ [28, 29, 12, 17, 30, 11, 31, 10, 9, 7, 32, 15, 33, 34, 35, 22, 36, 37, 38, 39, 40, 41, 42, 43, 44, 45, 46, 47, 48, 49, 50, 51, 52, 53, 54, 55, 56, 57, 58, 59, 60, 61, 62, 63, 64, 65, 66, 67, 68, 69, 70, 71, 72, 73, 74, 75, 76, 77, 78, 79, 80, 81, 82, 83, 84, 85, 86, 87, 88, 89, 90, 91, 92, 93, 121, 122, 123, 124, 125, 126, 127, 128, 129, 130, 131, 132, 133, 134, 135, 136, 137, 138, 139, 140, 141, 142, 143, 144, 145, 146, 147, 148, 149, 150, 151, 152, 153, 154, 155, 156, 157, 158, 159, 160, 161, 162, 163] rfl (by decide +kernel)
set_option maxRecDepth 20000 in
theorem gX11_verify_X11_point : GoodIn wsX11_verify (wsV RX11 310 RX11 yX11_point wsX11_point) := goodIn_app (goodIn_of _ (by decide +kernel)) ggX11_verify_X11_point
set_option maxRecDepth 20000 in
theorem ggX11_verify_X11_begin : GoodIn wsX11_verify wsX11_begin := goodIn_r _ [97, 29, 30, 6, 8, 42, 43, 44, 22, 45, 12, 46, 37, 38, 39, 40, 41, 64, 65, 66, 67, 121, 122, 123, 124, 125, 126, 127, 128, 129, 130, 131, 132, 133, 134, 135, 136, 137, 138, 139, 140, 141, 142, 143, 144, 145, 146, 147, 148, 149, 150, 151, 152, 153, 154, 155, 156, 157, 158, 159, 160, 161, 162, 163] rfl (by decide +kernel)
set_option maxRecDepth 20000 in
theorem gX11_verify_X11_begin : GoodIn wsX11_verify (wsV RX11 262 RX11 yX11_begin wsX11_begin) := goodIn_app (goodIn_of _ (by decide +kernel)) ggX11_verify_X11_begin
set_option maxRecDepth 20000 in
theorem ggX11_verify_X11_layRow : GoodIn wsX11_verify wsX11_layRow := goodIn_r _ [36, 37, 38, 39, 22, 40, 41, 29, 121, 122, 123, 124, 125, 126, 127, 128, 129, 130, 131, 132, 133, 134, 135, 136, 137, 138, 139, 140, 141, 142, 143, 144, 145, 146, 147, 148, 149, 150, 151, 152, 153, 154, 155, 156, 157, 158, 159, 160, 161, 162, 163] rfl (by decide +kernel)
set_option maxRecDepth 20000 in
theorem gX11_verify_X11_layRow : GoodIn wsX11_verify (wsV RX11 270 RX11 yX11_layRow wsX11_layRow) := goodIn_app (goodIn_of _ (by decide +kernel)) ggX11_verify_X11_layRow
set_option maxRecDepth 20000 in
theorem ggX11_verify_X11_end : GoodIn wsX11_verify wsX11_end := goodIn_r _ [101, 30, 12, 31, 53, 54, 55, 22, 56, 57, 58, 59, 60, 61, 29, 62, 63, 37, 38, 39, 40, 41, 64, 65, 66, 67, 68, 69, 70, 71, 72, 73, 74, 75, 76, 77, 78, 79, 80, 81, 82, 83, 84, 85, 86, 87, 88, 89, 90, 91, 92, 93, 121, 122, 123, 124, 125, 126, 127, 128, 129, 130, 131, 132, 133, 134, 135, 136, 137, 138, 139, 140, 141, 142, 143, 144, 145, 146, 147, 148, 149, 150, 151, 152, 153, 154, 155, 156, 157, 158, 159, 160, 161, 162, 163] rfl (by decide +kernel)
set_option maxRecDepth 20000 in
theorem gX11_verify_X11_end : GoodIn wsX11_verify (wsV RX11 266 RX11 yX11_end wsX11_end) := goodIn_app (goodIn_of _ (by decide +kernel)) ggX11_verify_X11_end
set_option maxRecDepth 20000 in
theorem ggX11_verify_X11_layPair : GoodIn wsX11_verify wsX11_layPair := goodIn_r _ [105, 11, 12, 19, 20, 21, 22, 23, 24, 4, 33, 34, 35, 36, 37, 38, 39, 40, 41, 29, 121, 122, 123, 124, 125, 126, 127, 128, 129, 130, 131, 132, 133, 134, 135, 136, 137, 138, 139, 140, 141, 142, 143, 144, 145, 146, 147, 148, 149, 150, 151, 152, 153, 154, 155, 156, 157, 158, 159, 160, 161, 162, 163] rfl (by decide +kernel)
set_option maxRecDepth 20000 in
theorem gX11_verify_X11_layPair : GoodIn wsX11_verify (wsV RX11 328 RX11 yX11_layPair wsX11_layPair) := goodIn_app (goodIn_of _ (by decide +kernel)) ggX11_verify_X11_layPair
set_option maxRecDepth 20000 in
theorem ggX11_verify_X11_oneLeads : GoodIn wsX11_verify wsX11_oneLeads := goodIn_r _ [109, 13, 110, 111, 12, 112, 32, 113, 114, 115, 22, 116, 19, 20, 21, 23, 24, 4, 117, 118, 119, 120, 94, 95, 96, 97, 29, 30, 6, 8, 42, 43, 44, 45, 46, 37, 38, 39, 40, 41, 64, 65, 66, 67, 33, 34, 35, 36, 98, 99, 100, 101, 31, 53, 54, 55, 56, 57, 58, 59, 60, 61, 62, 63, 68, 69, 70, 71, 72, 73, 74, 75, 76, 77, 78, 79, 80, 81, 82, 83, 84, 85, 86, 87, 88, 89, 90, 91, 92, 93, 102, 103, 104, 105, 11, 121, 122, 123, 124, 125, 126, 127, 128, 129, 130, 131, 132, 133, 134, 135, 136, 137, 138, 139, 140, 141, 142, 143, 144, 145, 146, 147, 148, 149, 150, 151, 152, 153, 154, 155, 156, 157, 158, 159, 160, 161, 162, 163] rfl (by decide +kernel)
set_option maxRecDepth 20000 in
theorem gX11_verify_X11_oneLeads : GoodIn wsX11_verify (wsV RX11 331 RX11 yX11_oneLeads wsX11_oneLeads) := goodIn_app (goodIn_of _ (by decide +kernel)) ggX11_verify_X11_oneLeads
theorem dX11_verify_0 : decode cX11_verify 0 = .ok (.aload_n 0, 1) := by decide +kernel
theorem dX11_verify_1 : decode cX11_verify 1 = .ok (.getfield 244, 3) := by decide +kernel
theorem dX11_verify_4 : decode cX11_verify 4 = .ok (.ifCond .ne 6, 3) := by decide +kernel
theorem dX11_verify_7 : decode cX11_verify 7 = .ok (.bipush (-3), 2) := by decide +kernel
theorem dX11_verify_9 : decode cX11_verify 9 = .ok (.ireturn, 1) := by decide +kernel
theorem dX11_verify_10 : decode cX11_verify 10 = .ok (.aload_n 0, 1) := by decide +kernel
theorem dX11_verify_11 : decode cX11_verify 11 = .ok (.getfield 247, 3) := by decide +kernel
theorem dX11_verify_14 : decode cX11_verify 14 = .ok (.aload_n 0, 1) := by decide +kernel
theorem dX11_verify_15 : decode cX11_verify 15 = .ok (.getfield 241, 3) := by decide +kernel
theorem dX11_verify_18 : decode cX11_verify 18 = .ok (.if_icmp .eq 5, 3) := by decide +kernel
theorem dX11_verify_21 : decode cX11_verify 21 = .ok (.iconst 0, 1) := by decide +kernel
theorem dX11_verify_22 : decode cX11_verify 22 = .ok (.ireturn, 1) := by decide +kernel
theorem dX11_verify_23 : decode cX11_verify 23 = .ok (.aload_n 0, 1) := by decide +kernel
theorem dX11_verify_24 : decode cX11_verify 24 = .ok (.iconst 0, 1) := by decide +kernel
theorem dX11_verify_25 : decode cX11_verify 25 = .ok (.putfield 298, 3) := by decide +kernel
theorem dX11_verify_28 : decode cX11_verify 28 = .ok (.aload_n 0, 1) := by decide +kernel
theorem dX11_verify_29 : decode cX11_verify 29 = .ok (.aload_n 0, 1) := by decide +kernel
theorem dX11_verify_30 : decode cX11_verify 30 = .ok (.getfield 144, 3) := by decide +kernel
theorem dX11_verify_33 : decode cX11_verify 33 = .ok (.iconst 0, 1) := by decide +kernel
theorem dX11_verify_34 : decode cX11_verify 34 = .ok (.invokevirtual 325, 3) := by decide +kernel
theorem dX11_verify_37 : decode cX11_verify 37 = .ok (.aload_n 0, 1) := by decide +kernel
theorem dX11_verify_38 : decode cX11_verify 38 = .ok (.aload_n 0, 1) := by decide +kernel
theorem dX11_verify_39 : decode cX11_verify 39 = .ok (.getfield 144, 3) := by decide +kernel
theorem dX11_verify_42 : decode cX11_verify 42 = .ok (.invokevirtual 310, 3) := by decide +kernel
theorem dX11_verify_45 : decode cX11_verify 45 = .ok (.aload_n 0, 1) := by decide +kernel
theorem dX11_verify_46 : decode cX11_verify 46 = .ok (.iconst 0, 1) := by decide +kernel
theorem dX11_verify_47 : decode cX11_verify 47 = .ok (.putfield 256, 3) := by decide +kernel
theorem dX11_verify_50 : decode cX11_verify 50 = .ok (.aload_n 0, 1) := by decide +kernel
theorem dX11_verify_51 : decode cX11_verify 51 = .ok (.aload_n 0, 1) := by decide +kernel
theorem dX11_verify_52 : decode cX11_verify 52 = .ok (.getfield 147, 3) := by decide +kernel
theorem dX11_verify_55 : decode cX11_verify 55 = .ok (.iconst 0, 1) := by decide +kernel
theorem dX11_verify_56 : decode cX11_verify 56 = .ok (.iaload, 1) := by decide +kernel
theorem dX11_verify_57 : decode cX11_verify 57 = .ok (.putfield 259, 3) := by decide +kernel
theorem dX11_verify_60 : decode cX11_verify 60 = .ok (.aload_n 0, 1) := by decide +kernel
theorem dX11_verify_61 : decode cX11_verify 61 = .ok (.getfield 147, 3) := by decide +kernel
theorem dX11_verify_64 : decode cX11_verify 64 = .ok (.iconst 1, 1) := by decide +kernel
theorem dX11_verify_65 : decode cX11_verify 65 = .ok (.iaload, 1) := by decide +kernel
theorem dX11_verify_66 : decode cX11_verify 66 = .ok (.istore_n 1, 1) := by decide +kernel
theorem dX11_verify_67 : decode cX11_verify 67 = .ok (.iconst 0, 1) := by decide +kernel
theorem dX11_verify_68 : decode cX11_verify 68 = .ok (.istore_n 2, 1) := by decide +kernel
theorem dX11_verify_69 : decode cX11_verify 69 = .ok (.iload_n 2, 1) := by decide +kernel
theorem dX11_verify_70 : decode cX11_verify 70 = .ok (.aload_n 0, 1) := by decide +kernel
theorem dX11_verify_71 : decode cX11_verify 71 = .ok (.getfield 178, 3) := by decide +kernel
theorem dX11_verify_74 : decode cX11_verify 74 = .ok (.if_icmp .ge 158, 3) := by decide +kernel
theorem dX11_verify_77 : decode cX11_verify 77 = .ok (.iload_n 2, 1) := by decide +kernel
theorem dX11_verify_78 : decode cX11_verify 78 = .ok (.aload_n 0, 1) := by decide +kernel
theorem dX11_verify_79 : decode cX11_verify 79 = .ok (.getfield 175, 3) := by decide +kernel
theorem dX11_verify_82 : decode cX11_verify 82 = .ok (.ishl, 1) := by decide +kernel
theorem dX11_verify_83 : decode cX11_verify 83 = .ok (.aload_n 0, 1) := by decide +kernel
theorem dX11_verify_84 : decode cX11_verify 84 = .ok (.getfield 147, 3) := by decide +kernel
theorem dX11_verify_87 : decode cX11_verify 87 = .ok (.iconst 2, 1) := by decide +kernel
theorem dX11_verify_88 : decode cX11_verify 88 = .ok (.iload_n 2, 1) := by decide +kernel
theorem dX11_verify_89 : decode cX11_verify 89 = .ok (.iadd, 1) := by decide +kernel
theorem dX11_verify_90 : decode cX11_verify 90 = .ok (.iaload, 1) := by decide +kernel
theorem dX11_verify_91 : decode cX11_verify 91 = .ok (.iadd, 1) := by decide +kernel
theorem dX11_verify_92 : decode cX11_verify 92 = .ok (.istore_n 3, 1) := by decide +kernel
theorem dX11_verify_93 : decode cX11_verify 93 = .ok (.aload_n 0, 1) := by decide +kernel
theorem dX11_verify_94 : decode cX11_verify 94 = .ok (.aload_n 0, 1) := by decide +kernel
theorem dX11_verify_95 : decode cX11_verify 95 = .ok (.getfield 138, 3) := by decide +kernel
theorem dX11_verify_98 : decode cX11_verify 98 = .ok (.iconst 0, 1) := by decide +kernel
theorem dX11_verify_99 : decode cX11_verify 99 = .ok (.invokevirtual 325, 3) := by decide +kernel
theorem dX11_verify_102 : decode cX11_verify 102 = .ok (.aload_n 0, 1) := by decide +kernel
theorem dX11_verify_103 : decode cX11_verify 103 = .ok (.iconst 3, 1) := by decide +kernel
theorem dX11_verify_104 : decode cX11_verify 104 = .ok (.iload_n 1, 1) := by decide +kernel
theorem dX11_verify_105 : decode cX11_verify 105 = .ok (.iconst 0, 1) := by decide +kernel
theorem dX11_verify_106 : decode cX11_verify 106 = .ok (.iload_n 3, 1) := by decide +kernel
theorem dX11_verify_107 : decode cX11_verify 107 = .ok (.invokevirtual 262, 3) := by decide +kernel
theorem dX11_verify_110 : decode cX11_verify 110 = .ok (.aload_n 0, 1) := by decide +kernel
theorem dX11_verify_111 : decode cX11_verify 111 = .ok (.aload_n 0, 1) := by decide +kernel
theorem dX11_verify_112 : decode cX11_verify 112 = .ok (.getfield 138, 3) := by decide +kernel
theorem dX11_verify_115 : decode cX11_verify 115 = .ok (.iconst 0, 1) := by decide +kernel
theorem dX11_verify_116 : decode cX11_verify 116 = .ok (.aload_n 0, 1) := by decide +kernel
theorem dX11_verify_117 : decode cX11_verify 117 = .ok (.getfield 166, 3) := by decide +kernel
theorem dX11_verify_120 : decode cX11_verify 120 = .ok (.invokevirtual 270, 3) := by decide +kernel
theorem dX11_verify_123 : decode cX11_verify 123 = .ok (.aload_n 0, 1) := by decide +kernel
theorem dX11_verify_124 : decode cX11_verify 124 = .ok (.aload_n 0, 1) := by decide +kernel
theorem dX11_verify_125 : decode cX11_verify 125 = .ok (.getfield 156, 3) := by decide +kernel
theorem dX11_verify_128 : decode cX11_verify 128 = .ok (.iconst 0, 1) := by decide +kernel
theorem dX11_verify_129 : decode cX11_verify 129 = .ok (.invokevirtual 266, 3) := by decide +kernel
theorem dX11_verify_132 : decode cX11_verify 132 = .ok (.iconst 0, 1) := by decide +kernel
theorem dX11_verify_133 : decode cX11_verify 133 = .ok (.istore 4, 2) := by decide +kernel
theorem dX11_verify_135 : decode cX11_verify 135 = .ok (.iload 4, 2) := by decide +kernel
theorem dX11_verify_137 : decode cX11_verify 137 = .ok (.aload_n 0, 1) := by decide +kernel
theorem dX11_verify_138 : decode cX11_verify 138 = .ok (.getfield 175, 3) := by decide +kernel
theorem dX11_verify_141 : decode cX11_verify 141 = .ok (.if_icmp .ge 46, 3) := by decide +kernel
theorem dX11_verify_144 : decode cX11_verify 144 = .ok (.aload_n 0, 1) := by decide +kernel
theorem dX11_verify_145 : decode cX11_verify 145 = .ok (.iconst 3, 1) := by decide +kernel
theorem dX11_verify_146 : decode cX11_verify 146 = .ok (.iload_n 1, 1) := by decide +kernel
theorem dX11_verify_147 : decode cX11_verify 147 = .ok (.iload 4, 2) := by decide +kernel
theorem dX11_verify_149 : decode cX11_verify 149 = .ok (.iconst 1, 1) := by decide +kernel
theorem dX11_verify_150 : decode cX11_verify 150 = .ok (.iadd, 1) := by decide +kernel
theorem dX11_verify_151 : decode cX11_verify 151 = .ok (.iload_n 3, 1) := by decide +kernel
theorem dX11_verify_152 : decode cX11_verify 152 = .ok (.iload 4, 2) := by decide +kernel
theorem dX11_verify_154 : decode cX11_verify 154 = .ok (.iconst 1, 1) := by decide +kernel
theorem dX11_verify_155 : decode cX11_verify 155 = .ok (.iadd, 1) := by decide +kernel
theorem dX11_verify_156 : decode cX11_verify 156 = .ok (.ishr, 1) := by decide +kernel
theorem dX11_verify_157 : decode cX11_verify 157 = .ok (.invokevirtual 262, 3) := by decide +kernel
theorem dX11_verify_160 : decode cX11_verify 160 = .ok (.aload_n 0, 1) := by decide +kernel
theorem dX11_verify_161 : decode cX11_verify 161 = .ok (.aload_n 0, 1) := by decide +kernel
theorem dX11_verify_162 : decode cX11_verify 162 = .ok (.getfield 156, 3) := by decide +kernel
theorem dX11_verify_165 : decode cX11_verify 165 = .ok (.iload_n 3, 1) := by decide +kernel
theorem dX11_verify_166 : decode cX11_verify 166 = .ok (.iload 4, 2) := by decide +kernel
theorem dX11_verify_168 : decode cX11_verify 168 = .ok (.ishr, 1) := by decide +kernel
theorem dX11_verify_169 : decode cX11_verify 169 = .ok (.invokevirtual 328, 3) := by decide +kernel
theorem dX11_verify_172 : decode cX11_verify 172 = .ok (.aload_n 0, 1) := by decide +kernel
theorem dX11_verify_173 : decode cX11_verify 173 = .ok (.aload_n 0, 1) := by decide +kernel
theorem dX11_verify_174 : decode cX11_verify 174 = .ok (.getfield 156, 3) := by decide +kernel
theorem dX11_verify_177 : decode cX11_verify 177 = .ok (.iconst 0, 1) := by decide +kernel
theorem dX11_verify_178 : decode cX11_verify 178 = .ok (.invokevirtual 266, 3) := by decide +kernel
theorem dX11_verify_181 : decode cX11_verify 181 = .ok (.iinc 4 1, 3) := by decide +kernel
theorem dX11_verify_184 : decode cX11_verify 184 = .ok (.goto (-49), 3) := by decide +kernel
theorem dX11_verify_187 : decode cX11_verify 187 = .ok (.iconst 0, 1) := by decide +kernel
theorem dX11_verify_188 : decode cX11_verify 188 = .ok (.istore 4, 2) := by decide +kernel
theorem dX11_verify_190 : decode cX11_verify 190 = .ok (.iload 4, 2) := by decide +kernel
theorem dX11_verify_192 : decode cX11_verify 192 = .ok (.aload_n 0, 1) := by decide +kernel
theorem dX11_verify_193 : decode cX11_verify 193 = .ok (.getfield 166, 3) := by decide +kernel
theorem dX11_verify_196 : decode cX11_verify 196 = .ok (.if_icmp .ge 30, 3) := by decide +kernel
theorem dX11_verify_199 : decode cX11_verify 199 = .ok (.aload_n 0, 1) := by decide +kernel
theorem dX11_verify_200 : decode cX11_verify 200 = .ok (.getfield 153, 3) := by decide +kernel
theorem dX11_verify_203 : decode cX11_verify 203 = .ok (.aload_n 0, 1) := by decide +kernel
theorem dX11_verify_204 : decode cX11_verify 204 = .ok (.getfield 166, 3) := by decide +kernel
theorem dX11_verify_207 : decode cX11_verify 207 = .ok (.iload_n 2, 1) := by decide +kernel
theorem dX11_verify_208 : decode cX11_verify 208 = .ok (.imul, 1) := by decide +kernel
theorem dX11_verify_209 : decode cX11_verify 209 = .ok (.iload 4, 2) := by decide +kernel
theorem dX11_verify_211 : decode cX11_verify 211 = .ok (.iadd, 1) := by decide +kernel
theorem dX11_verify_212 : decode cX11_verify 212 = .ok (.aload_n 0, 1) := by decide +kernel
theorem dX11_verify_213 : decode cX11_verify 213 = .ok (.getfield 156, 3) := by decide +kernel
theorem dX11_verify_216 : decode cX11_verify 216 = .ok (.iload 4, 2) := by decide +kernel
theorem dX11_verify_218 : decode cX11_verify 218 = .ok (.baload, 1) := by decide +kernel
theorem dX11_verify_219 : decode cX11_verify 219 = .ok (.bastore, 1) := by decide +kernel
theorem dX11_verify_220 : decode cX11_verify 220 = .ok (.iinc 4 1, 3) := by decide +kernel
theorem dX11_verify_223 : decode cX11_verify 223 = .ok (.goto (-33), 3) := by decide +kernel
theorem dX11_verify_226 : decode cX11_verify 226 = .ok (.iinc 2 1, 3) := by decide +kernel
theorem dX11_verify_229 : decode cX11_verify 229 = .ok (.goto (-160), 3) := by decide +kernel
theorem dX11_verify_232 : decode cX11_verify 232 = .ok (.aload_n 0, 1) := by decide +kernel
theorem dX11_verify_233 : decode cX11_verify 233 = .ok (.iconst 4, 1) := by decide +kernel
theorem dX11_verify_234 : decode cX11_verify 234 = .ok (.iload_n 1, 1) := by decide +kernel
theorem dX11_verify_235 : decode cX11_verify 235 = .ok (.iconst 0, 1) := by decide +kernel
theorem dX11_verify_236 : decode cX11_verify 236 = .ok (.iconst 0, 1) := by decide +kernel
theorem dX11_verify_237 : decode cX11_verify 237 = .ok (.invokevirtual 262, 3) := by decide +kernel
theorem dX11_verify_240 : decode cX11_verify 240 = .ok (.aload_n 0, 1) := by decide +kernel
theorem dX11_verify_241 : decode cX11_verify 241 = .ok (.aload_n 0, 1) := by decide +kernel
theorem dX11_verify_242 : decode cX11_verify 242 = .ok (.getfield 153, 3) := by decide +kernel
theorem dX11_verify_245 : decode cX11_verify 245 = .ok (.iconst 0, 1) := by decide +kernel
theorem dX11_verify_246 : decode cX11_verify 246 = .ok (.aload_n 0, 1) := by decide +kernel
theorem dX11_verify_247 : decode cX11_verify 247 = .ok (.getfield 166, 3) := by decide +kernel
theorem dX11_verify_250 : decode cX11_verify 250 = .ok (.aload_n 0, 1) := by decide +kernel
theorem dX11_verify_251 : decode cX11_verify 251 = .ok (.getfield 178, 3) := by decide +kernel
theorem dX11_verify_254 : decode cX11_verify 254 = .ok (.imul, 1) := by decide +kernel
theorem dX11_verify_255 : decode cX11_verify 255 = .ok (.invokevirtual 270, 3) := by decide +kernel
theorem dX11_verify_258 : decode cX11_verify 258 = .ok (.aload_n 0, 1) := by decide +kernel
theorem dX11_verify_259 : decode cX11_verify 259 = .ok (.aload_n 0, 1) := by decide +kernel
theorem dX11_verify_260 : decode cX11_verify 260 = .ok (.getfield 156, 3) := by decide +kernel
theorem dX11_verify_263 : decode cX11_verify 263 = .ok (.iconst 0, 1) := by decide +kernel
theorem dX11_verify_264 : decode cX11_verify 264 = .ok (.invokevirtual 266, 3) := by decide +kernel
theorem dX11_verify_267 : decode cX11_verify 267 = .ok (.aload_n 0, 1) := by decide +kernel
theorem dX11_verify_268 : decode cX11_verify 268 = .ok (.iload_n 1, 1) := by decide +kernel
theorem dX11_verify_269 : decode cX11_verify 269 = .ok (.invokevirtual 331, 3) := by decide +kernel
theorem dX11_verify_272 : decode cX11_verify 272 = .ok (.aload_n 0, 1) := by decide +kernel
theorem dX11_verify_273 : decode cX11_verify 273 = .ok (.getfield 172, 3) := by decide +kernel
theorem dX11_verify_276 : decode cX11_verify 276 = .ok (.iconst 2, 1) := by decide +kernel
theorem dX11_verify_277 : decode cX11_verify 277 = .ok (.if_icmp .ne 23, 3) := by decide +kernel
theorem dX11_verify_280 : decode cX11_verify 280 = .ok (.aload_n 0, 1) := by decide +kernel
theorem dX11_verify_281 : decode cX11_verify 281 = .ok (.getfield 259, 3) := by decide +kernel
theorem dX11_verify_284 : decode cX11_verify 284 = .ok (.istore_n 2, 1) := by decide +kernel
theorem dX11_verify_285 : decode cX11_verify 285 = .ok (.aload_n 0, 1) := by decide +kernel
theorem dX11_verify_286 : decode cX11_verify 286 = .ok (.iconst 1, 1) := by decide +kernel
theorem dX11_verify_287 : decode cX11_verify 287 = .ok (.putfield 256, 3) := by decide +kernel
theorem dX11_verify_290 : decode cX11_verify 290 = .ok (.aload_n 0, 1) := by decide +kernel
theorem dX11_verify_291 : decode cX11_verify 291 = .ok (.iconst 0, 1) := by decide +kernel
theorem dX11_verify_292 : decode cX11_verify 292 = .ok (.putfield 259, 3) := by decide +kernel
theorem dX11_verify_295 : decode cX11_verify 295 = .ok (.aload_n 0, 1) := by decide +kernel
theorem dX11_verify_296 : decode cX11_verify 296 = .ok (.iload_n 2, 1) := by decide +kernel
theorem dX11_verify_297 : decode cX11_verify 297 = .ok (.invokevirtual 331, 3) := by decide +kernel
theorem dX11_verify_300 : decode cX11_verify 300 = .ok (.iconst 1, 1) := by decide +kernel
theorem dX11_verify_301 : decode cX11_verify 301 = .ok (.istore_n 2, 1) := by decide +kernel
theorem dX11_verify_302 : decode cX11_verify 302 = .ok (.iconst 0, 1) := by decide +kernel
theorem dX11_verify_303 : decode cX11_verify 303 = .ok (.istore_n 3, 1) := by decide +kernel
theorem dX11_verify_304 : decode cX11_verify 304 = .ok (.iload_n 3, 1) := by decide +kernel
theorem dX11_verify_305 : decode cX11_verify 305 = .ok (.aload_n 0, 1) := by decide +kernel
theorem dX11_verify_306 : decode cX11_verify 306 = .ok (.getfield 166, 3) := by decide +kernel
theorem dX11_verify_309 : decode cX11_verify 309 = .ok (.if_icmp .ge 46, 3) := by decide +kernel
theorem dX11_verify_312 : decode cX11_verify 312 = .ok (.aload_n 0, 1) := by decide +kernel
theorem dX11_verify_313 : decode cX11_verify 313 = .ok (.getfield 159, 3) := by decide +kernel
theorem dX11_verify_316 : decode cX11_verify 316 = .ok (.iload_n 3, 1) := by decide +kernel
theorem dX11_verify_317 : decode cX11_verify 317 = .ok (.aload_n 0, 1) := by decide +kernel
theorem dX11_verify_318 : decode cX11_verify 318 = .ok (.getfield 156, 3) := by decide +kernel
theorem dX11_verify_321 : decode cX11_verify 321 = .ok (.iload_n 3, 1) := by decide +kernel
theorem dX11_verify_322 : decode cX11_verify 322 = .ok (.baload, 1) := by decide +kernel
theorem dX11_verify_323 : decode cX11_verify 323 = .ok (.bastore, 1) := by decide +kernel
theorem dX11_verify_324 : decode cX11_verify 324 = .ok (.iload_n 2, 1) := by decide +kernel
theorem dX11_verify_325 : decode cX11_verify 325 = .ok (.ifCond .eq 22, 3) := by decide +kernel
theorem dX11_verify_328 : decode cX11_verify 328 = .ok (.aload_n 0, 1) := by decide +kernel
theorem dX11_verify_329 : decode cX11_verify 329 = .ok (.getfield 156, 3) := by decide +kernel
theorem dX11_verify_332 : decode cX11_verify 332 = .ok (.iload_n 3, 1) := by decide +kernel
theorem dX11_verify_333 : decode cX11_verify 333 = .ok (.baload, 1) := by decide +kernel
theorem dX11_verify_334 : decode cX11_verify 334 = .ok (.aload_n 0, 1) := by decide +kernel
theorem dX11_verify_335 : decode cX11_verify 335 = .ok (.getfield 132, 3) := by decide +kernel
theorem dX11_verify_338 : decode cX11_verify 338 = .ok (.iload_n 3, 1) := by decide +kernel
theorem dX11_verify_339 : decode cX11_verify 339 = .ok (.baload, 1) := by decide +kernel
theorem dX11_verify_340 : decode cX11_verify 340 = .ok (.if_icmp .ne 7, 3) := by decide +kernel
theorem dX11_verify_343 : decode cX11_verify 343 = .ok (.iconst 1, 1) := by decide +kernel
theorem dX11_verify_344 : decode cX11_verify 344 = .ok (.goto 4, 3) := by decide +kernel
theorem dX11_verify_347 : decode cX11_verify 347 = .ok (.iconst 0, 1) := by decide +kernel
theorem dX11_verify_348 : decode cX11_verify 348 = .ok (.istore_n 2, 1) := by decide +kernel
theorem dX11_verify_349 : decode cX11_verify 349 = .ok (.iinc 3 1, 3) := by decide +kernel
theorem dX11_verify_352 : decode cX11_verify 352 = .ok (.goto (-48), 3) := by decide +kernel
theorem dX11_verify_355 : decode cX11_verify 355 = .ok (.aload_n 0, 1) := by decide +kernel
theorem dX11_verify_356 : decode cX11_verify 356 = .ok (.iconst 1, 1) := by decide +kernel
theorem dX11_verify_357 : decode cX11_verify 357 = .ok (.putfield 250, 3) := by decide +kernel
theorem dX11_verify_360 : decode cX11_verify 360 = .ok (.iload_n 2, 1) := by decide +kernel
theorem dX11_verify_361 : decode cX11_verify 361 = .ok (.ifCond .eq 7, 3) := by decide +kernel
theorem dX11_verify_364 : decode cX11_verify 364 = .ok (.iconst 1, 1) := by decide +kernel
theorem dX11_verify_365 : decode cX11_verify 365 = .ok (.goto 4, 3) := by decide +kernel
theorem dX11_verify_368 : decode cX11_verify 368 = .ok (.iconst 0, 1) := by decide +kernel
theorem dX11_verify_369 : decode cX11_verify 369 = .ok (.ireturn, 1) := by decide +kernel
set_option maxRecDepth 20000 in
theorem ggX11_sign_X11_signMixed : GoodIn wsX11_sign wsX11_signMixed := goodIn_r _ [8, 9, 10, 11, 12, 13, 14, 15, 16, 17, 18, 1, 19, 20, 21, 22, 23, 24, 25, 26, 27, 7, 28, 29, 30, 2, 31, 32, 33, 34, 35, 3, 36, 37, 38, 39, 40, 41, 42, 43, 44, 45, 46, 47, 48, 49, 50, 51, 52, 53, 54, 55, 56, 57, 58, 59, 60, 61, 62, 63, 64, 65, 66, 67, 68, 69, 70, 71, 72, 73, 74, 75, 76, 77, 78, 79, 80, 81, 82, 83, 84, 85, 86, 87, 88, 89, 90, 91, 92, 93, 94, 95, 96, 97, 98, 99, 100, 101, 102, 103, 104, 105, 106, 107, 108, 109, 110, 111, 112, 113, 114, 115, 116, 117, 118, 119, 120, 121, 122, 123, 124, 125, 126, 127, 128, 129, 130, 131, 132, 133, 134, 135, 136, 137, 138, 139, 140, 141, 142, 143, 144, 145, 146, 147, 148, 149, 150, 151, 152, 153, 154, 155, 156, 157, 158, 159, 160, 161, 162, 163, 164, 165, 166, 167, 168, 169, 170, 171, 172, 173, 174, 175, 176, 177, 178, 179, 180, 181, 182, 183, 184, 185, 186, 187, 188, 189, 190, 191, 192, 193, 194, 195] rfl (by decide +kernel)
set_option maxRecDepth 20000 in
theorem gX11_sign_X11_signMixed : GoodIn wsX11_sign (wsV RX11 321 RX11 yX11_signMixed wsX11_signMixed) := goodIn_app (goodIn_of _ (by decide +kernel)) ggX11_sign_X11_signMixed
theorem dX11_sign_0 : decode cX11_sign 0 = .ok (.iconst 0, 1) := by decide +kernel
theorem dX11_sign_1 : decode cX11_sign 1 = .ok (.istore_n 1, 1) := by decide +kernel
theorem dX11_sign_2 : decode cX11_sign 2 = .ok (.iload_n 1, 1) := by decide +kernel
theorem dX11_sign_3 : decode cX11_sign 3 = .ok (.aload_n 0, 1) := by decide +kernel
theorem dX11_sign_4 : decode cX11_sign 4 = .ok (.getfield 166, 3) := by decide +kernel
theorem dX11_sign_7 : decode cX11_sign 7 = .ok (.if_icmp .ge 24, 3) := by decide +kernel
theorem dX11_sign_10 : decode cX11_sign 10 = .ok (.aload_n 0, 1) := by decide +kernel
theorem dX11_sign_11 : decode cX11_sign 11 = .ok (.getfield 141, 3) := by decide +kernel
theorem dX11_sign_14 : decode cX11_sign 14 = .ok (.iload_n 1, 1) := by decide +kernel
theorem dX11_sign_15 : decode cX11_sign 15 = .ok (.aload_n 0, 1) := by decide +kernel
theorem dX11_sign_16 : decode cX11_sign 16 = .ok (.getfield 120, 3) := by decide +kernel
theorem dX11_sign_19 : decode cX11_sign 19 = .ok (.bipush 32, 2) := by decide +kernel
theorem dX11_sign_21 : decode cX11_sign 21 = .ok (.iload_n 1, 1) := by decide +kernel
theorem dX11_sign_22 : decode cX11_sign 22 = .ok (.iadd, 1) := by decide +kernel
theorem dX11_sign_23 : decode cX11_sign 23 = .ok (.baload, 1) := by decide +kernel
theorem dX11_sign_24 : decode cX11_sign 24 = .ok (.bastore, 1) := by decide +kernel
theorem dX11_sign_25 : decode cX11_sign 25 = .ok (.iinc 1 1, 3) := by decide +kernel
theorem dX11_sign_28 : decode cX11_sign 28 = .ok (.goto (-26), 3) := by decide +kernel
theorem dX11_sign_31 : decode cX11_sign 31 = .ok (.aload_n 0, 1) := by decide +kernel
theorem dX11_sign_32 : decode cX11_sign 32 = .ok (.invokevirtual 321, 3) := by decide +kernel
theorem dX11_sign_35 : decode cX11_sign 35 = .ok (.ireturn, 1) := by decide +kernel
set_option maxRecDepth 20000 in
theorem ggX11_signWith_X11_signMixed : GoodIn wsX11_signWith wsX11_signMixed := goodIn_r _ [7, 8, 9, 10, 11, 12, 13, 14, 15, 16, 17, 1, 18, 19, 20, 21, 22, 23, 24, 25, 26, 6, 27, 28, 29, 2, 30, 31, 32, 33, 34, 35, 36, 37, 38, 39, 40, 41, 42, 43, 44, 45, 46, 47, 48, 49, 50, 51, 52, 53, 54, 55, 56, 57, 58, 59, 60, 61, 62, 63, 64, 65, 66, 67, 68, 69, 70, 71, 72, 73, 74, 75, 76, 77, 78, 79, 80, 81, 82, 83, 84, 85, 86, 87, 88, 89, 90, 91, 92, 93, 94, 95, 96, 97, 98, 99, 100, 101, 102, 103, 104, 105, 106, 107, 108, 109, 110, 111, 112, 113, 114, 115, 116, 117, 118, 119, 120, 121, 122, 123, 124, 125, 126, 127, 128, 129, 130, 131, 132, 133, 134, 135, 136, 137, 138, 139, 140, 141, 142, 143, 144, 145, 146, 147, 148, 149, 150, 151, 152, 153, 154, 155, 156, 157, 158, 159, 160, 161, 162, 163, 164, 165, 166, 167, 168, 169, 170, 171, 172, 173, 174, 175, 176, 177, 178, 179, 180, 181, 182, 183, 184, 185, 186, 187, 188, 189, 190, 191, 192, 193, 194, 195] rfl (by decide +kernel)
set_option maxRecDepth 20000 in
theorem gX11_signWith_X11_signMixed : GoodIn wsX11_signWith (wsV RX11 321 RX11 yX11_signMixed wsX11_signMixed) := goodIn_app (goodIn_of _ (by decide +kernel)) ggX11_signWith_X11_signMixed
theorem dX11_signWith_0 : decode cX11_signWith 0 = .ok (.iconst 0, 1) := by decide +kernel
theorem dX11_signWith_1 : decode cX11_signWith 1 = .ok (.istore 5, 2) := by decide +kernel
theorem dX11_signWith_3 : decode cX11_signWith 3 = .ok (.iload 5, 2) := by decide +kernel
theorem dX11_signWith_5 : decode cX11_signWith 5 = .ok (.aload_n 0, 1) := by decide +kernel
theorem dX11_signWith_6 : decode cX11_signWith 6 = .ok (.getfield 166, 3) := by decide +kernel
theorem dX11_signWith_9 : decode cX11_signWith 9 = .ok (.if_icmp .ge 48, 3) := by decide +kernel
theorem dX11_signWith_12 : decode cX11_signWith 12 = .ok (.aload_n 0, 1) := by decide +kernel
theorem dX11_signWith_13 : decode cX11_signWith 13 = .ok (.getfield 141, 3) := by decide +kernel
theorem dX11_signWith_16 : decode cX11_signWith 16 = .ok (.iload 5, 2) := by decide +kernel
theorem dX11_signWith_18 : decode cX11_signWith 18 = .ok (.iload 5, 2) := by decide +kernel
theorem dX11_signWith_20 : decode cX11_signWith 20 = .ok (.bipush 8, 2) := by decide +kernel
theorem dX11_signWith_22 : decode cX11_signWith 22 = .ok (.if_icmp .ge 16, 3) := by decide +kernel
theorem dX11_signWith_25 : decode cX11_signWith 25 = .ok (.lload_n 1, 1) := by decide +kernel
theorem dX11_signWith_26 : decode cX11_signWith 26 = .ok (.bipush 56, 2) := by decide +kernel
theorem dX11_signWith_28 : decode cX11_signWith 28 = .ok (.bipush 8, 2) := by decide +kernel
theorem dX11_signWith_30 : decode cX11_signWith 30 = .ok (.iload 5, 2) := by decide +kernel
theorem dX11_signWith_32 : decode cX11_signWith 32 = .ok (.imul, 1) := by decide +kernel
theorem dX11_signWith_33 : decode cX11_signWith 33 = .ok (.isub, 1) := by decide +kernel
theorem dX11_signWith_34 : decode cX11_signWith 34 = .ok (.lshr, 1) := by decide +kernel
theorem dX11_signWith_35 : decode cX11_signWith 35 = .ok (.goto 13, 3) := by decide +kernel
theorem dX11_signWith_38 : decode cX11_signWith 38 = .ok (.lload_n 3, 1) := by decide +kernel
theorem dX11_signWith_39 : decode cX11_signWith 39 = .ok (.bipush 120, 2) := by decide +kernel
theorem dX11_signWith_41 : decode cX11_signWith 41 = .ok (.bipush 8, 2) := by decide +kernel
theorem dX11_signWith_43 : decode cX11_signWith 43 = .ok (.iload 5, 2) := by decide +kernel
theorem dX11_signWith_45 : decode cX11_signWith 45 = .ok (.imul, 1) := by decide +kernel
theorem dX11_signWith_46 : decode cX11_signWith 46 = .ok (.isub, 1) := by decide +kernel
theorem dX11_signWith_47 : decode cX11_signWith 47 = .ok (.lshr, 1) := by decide +kernel
theorem dX11_signWith_48 : decode cX11_signWith 48 = .ok (.l2i, 1) := by decide +kernel
theorem dX11_signWith_49 : decode cX11_signWith 49 = .ok (.i2b, 1) := by decide +kernel
theorem dX11_signWith_50 : decode cX11_signWith 50 = .ok (.bastore, 1) := by decide +kernel
theorem dX11_signWith_51 : decode cX11_signWith 51 = .ok (.iinc 5 1, 3) := by decide +kernel
theorem dX11_signWith_54 : decode cX11_signWith 54 = .ok (.goto (-51), 3) := by decide +kernel
theorem dX11_signWith_57 : decode cX11_signWith 57 = .ok (.aload_n 0, 1) := by decide +kernel
theorem dX11_signWith_58 : decode cX11_signWith 58 = .ok (.invokevirtual 321, 3) := by decide +kernel
theorem dX11_signWith_61 : decode cX11_signWith 61 = .ok (.ireturn, 1) := by decide +kernel
set_option maxHeartbeats 4000000 in
set_option maxRecDepth 100000 in
/-- the reference: signMixed -/
theorem c_signMixedT (l : Launch) (g : jG) (h : Nat) (b : Nat → Nat) (v : Nat → Int32) (n0 : Nat) (f : Nat → Int32) (dg : Nat → Int32) (w0 : Nat → Int32) (S0 : Nat → Int32) (fs : Nat → Int32) (rt : Nat → Int32) (A0 : Nat → Int64) (T0 : Nat → Int64) (U0 : Nat → Int64) (tn : Nat → Int32) (sd : Nat → Int32) (tp : Nat → Int32) (ntp : Nat) (D0 : Nat → Int32) (e0 : Nat → Int32) (nd : Nat → Int32) (ro : Nat → Int32) (fn : Nat → Int32) (pf : Nat → Int32) (rd : Nat → Int32) (mx : Nat → Int32) (xf : Nat → Int32) (sg : Nat → Int32) (frf : Nat → Int32) (rw : Nat → Int32) (fm : Nat) (nn : Nat) (ht : Nat) (lys : Nat) (fa : Nat) (mk : Nat) (hfs : ∀ j, j < 8 → fs j = s_first.getD j 0) (hrt : ∀ j, j < 64 → rt j = s_cube.getD j 0) (htn : ∀ k, k < 25 → tn k = s_turns.getD k 0) (hv3 : v 3 = nI n0) (hn0 : n0 ≤ 1400) (hB : isB sd) (hv1 : v 1 = nI ntp) (hntp : ntp ≤ 600) (hTpB : isB tp) (hEB : isB e0) (hNB : isB nd) (hRoB : isB ro) (hFnB : isB fn) (hPB : isB pf) (hRdB : isB rd) (hMxB : isB mx) (hSgB : isB sg) (hFrB : isB frf) (hRwB : isB rw) (hv15 : v 15 = nI fm) (hv16 : v 16 = nI nn) (hv17 : v 17 = nI ht) (hv18 : v 18 = nI lys) (hv19 : v 19 = nI fa) (hv20 : v 20 = nI mk) (hv21 : v 21 = nI (ln nn)) (hv24 : v 24 = nI 1) (hfm : fm < 2) (hnn4 : nn = 4 ∨ nn = 8 ∨ nn = 12 ∨ nn = 16) (hht : 1 ≤ ht ∧ ht ≤ 2) (hlys : 1 ≤ lys ∧ lys ≤ 2) (hfa : 1 ≤ fa ∧ fa ≤ 4) (hmk : 1 ≤ mk ∧ mk ≤ 6) : jC l g yX11_signMixed wsX11_signMixed ({ frames := 9, cells := 0, slots := 0, locals := 217 } : Room) [.ref h] [oB h 11 (mO b v), bA g (b 2) 1400 f, bA g (b 4) 32 dg, iA g (b 5) 64 w0, iA g (b 6) 8 S0, iA g (b 7) 8 fs, iA g (b 8) 64 rt, lA g (b 9) 25 A0, lA g (b 10) 25 T0, lA g (b 11) 5 U0, iA g (b 12) 25 tn, bA g (b 23) 48 sd, bA g (b 0) 600 tp, iA g (b 29) 40 D0, bA g (b 30) 560 e0, bA g (b 31) 112 nd, bA g (b 32) 16 ro, bA g (b 33) 496 fn, bA g (b 34) 32 pf, bA g (b 35) 16 rd, bA g (b 36) 16 mx, iA g (b 37) 8 xf, bA g (b 38) 2000 sg, bA g (b 40) 96 frf, bA g (b 41) 16 rw] (fun jj : (Nat → Int32) × (Nat → Int32) × (Nat → Int64) × (Nat → Int64) × (Nat → Int64) × Nat × (Nat → Int32) × (Nat → Int32) × Nat × Nat × Nat × (Nat → Int32) × (Nat → Int32) × (Nat → Int32) × (Nat → Int32) × (Nat → Int32) × (Nat → Int32) × (Nat → Int32) × (Nat → Int32) × (Nat → Int32) × (Nat → Int32) => some (.int (nI (sgS nn ht lys fa mk)))) (fun jj : (Nat → Int32) × (Nat → Int32) × (Nat → Int64) × (Nat → Int64) × (Nat → Int64) × Nat × (Nat → Int32) × (Nat → Int32) × Nat × Nat × Nat × (Nat → Int32) × (Nat → Int32) × (Nat → Int32) × (Nat → Int32) × (Nat → Int32) × (Nat → Int32) × (Nat → Int32) × (Nat → Int32) × (Nat → Int32) × (Nat → Int32) => jj.2.2.2.2.2.1 ≤ 1400 ∧ (isB jj.2.2.2.2.2.2.2.2.2.2.2.2.1 ∧ isB jj.2.2.2.2.2.2.2.2.2.2.2.2.2.1 ∧ isB jj.2.2.2.2.2.2.2.2.2.2.2.2.2.2.1 ∧ isB jj.2.2.2.2.2.2.2.2.2.2.2.2.2.2.2.1 ∧ isB jj.2.2.2.2.2.2.2.2.2.2.2.2.2.2.2.2.1 ∧ isB jj.2.2.2.2.2.2.2.2.2.2.2.2.2.2.2.2.2.2.1 ∧ isB jj.2.2.2.2.2.2.2.2.2.2.2.2.2.2.2.2.2.2.2.1) ∧ isB jj.2.2.2.2.2.2.2.2.2.2.2.2.2.2.2.2.2.2.2.2 ∧ jj.2.2.2.2.2.2.2.2.2.2.2.2.2.2.2.2.2.2.2.2 = putL sg 0 (SIG fm nn sd ht lys fa mk (slice rd 0 nn) (slice ro 0 nn) (slice tp 0 ntp)) ∧ ∀ j, j < 8 → jj.2.2.2.2.2.2.2.2.2.2.2.2.2.2.2.2.2.1 j = ixV (IXS fm nn sd ht lys fa mk (MIXED fm nn sd (slice rd 0 nn) (slice tp 0 ntp)) (slice ro 0 nn) (slice tp 0 ntp)) mk j) (fun jj : (Nat → Int32) × (Nat → Int32) × (Nat → Int64) × (Nat → Int64) × (Nat → Int64) × Nat × (Nat → Int32) × (Nat → Int32) × Nat × Nat × Nat × (Nat → Int32) × (Nat → Int32) × (Nat → Int32) × (Nat → Int32) × (Nat → Int32) × (Nat → Int32) × (Nat → Int32) × (Nat → Int32) × (Nat → Int32) × (Nat → Int32) => [oB h 11 (mO b (upd (upd (upd (upd (upd v 3 (nI jj.2.2.2.2.2.1)) 39 (nI jj.2.2.2.2.2.2.2.2.2.2.1)) 27 (nI jj.2.2.2.2.2.2.2.2.1)) 28 (nI jj.2.2.2.2.2.2.2.2.2.1)) 25 (nI (sgS nn ht lys fa mk)))), bA g (b 2) 1400 jj.2.2.2.2.2.2.1, bA g (b 4) 32 jj.2.2.2.2.2.2.2.1, iA g (b 5) 64 jj.1, iA g (b 6) 8 jj.2.1, iA g (b 7) 8 fs, iA g (b 8) 64 rt, lA g (b 9) 25 jj.2.2.1, lA g (b 10) 25 jj.2.2.2.1, lA g (b 11) 5 jj.2.2.2.2.1, iA g (b 12) 25 tn, bA g (b 23) 48 sd, bA g (b 0) 600 tp, iA g (b 29) 40 jj.2.2.2.2.2.2.2.2.2.2.2.1, bA g (b 30) 560 jj.2.2.2.2.2.2.2.2.2.2.2.2.1, bA g (b 31) 112 jj.2.2.2.2.2.2.2.2.2.2.2.2.2.1, bA g (b 32) 16 ro, bA g (b 33) 496 jj.2.2.2.2.2.2.2.2.2.2.2.2.2.2.1, bA g (b 34) 32 jj.2.2.2.2.2.2.2.2.2.2.2.2.2.2.2.1, bA g (b 35) 16 rd, bA g (b 36) 16 jj.2.2.2.2.2.2.2.2.2.2.2.2.2.2.2.2.1, iA g (b 37) 8 jj.2.2.2.2.2.2.2.2.2.2.2.2.2.2.2.2.2.1, bA g (b 38) 2000 jj.2.2.2.2.2.2.2.2.2.2.2.2.2.2.2.2.2.2.2.2, bA g (b 40) 96 jj.2.2.2.2.2.2.2.2.2.2.2.2.2.2.2.2.2.2.1, bA g (b 41) 16 jj.2.2.2.2.2.2.2.2.2.2.2.2.2.2.2.2.2.2.2.1]) := by
  refine jC.of (cc := cX11_signMixed) (own := RX11) (maxL := 5) (ret := (some .int)) (by decide +kernel) rfl rfl (Nat.le_of_ble_eq_true rfl) (fun u hu => ⟨_, rfl, rfl⟩) ?_
  intro p e s m below meth c A Q hX hret
  have in11 : ∀ w ∈ wsX110, w ∈ wsX11_signMixed := (fun w h => List.mem_cons_of_mem _ (List.mem_append_right _ h))
  have hnn : nn ≤ 16 := by omega
  have hn1 : 1 ≤ nn := by omega
  have hp4 := pow4 hht.2
  have hp16 := pow_le16 hfa.2
  have hcap := sig_cap (nn := nn) (ht := ht) (lys := lys) (fa := fa) (mk := mk) hnn hht.2 hlys.2 hfa.2 hmk.2
  have hsq := sgS_eq nn ht lys fa mk
  have hln := ln_le nn
  have hh := hl_le (fm := fm) hnn
  have hm96 : nn * mk ≤ 16 * 6 := Nat.mul_le_mul hnn hmk.2
  have hmc := Nat.mul_comm nn mk
  refine j_w [oB h 11 (mO b (upd v 3 (nI n0))), bA g (b 2) 1400 f, bA g (b 4) 32 dg, iA g (b 5) 64 w0, iA g (b 6) 8 S0, iA g (b 7) 8 fs, iA g (b 8) 64 rt, lA g (b 9) 25 A0, lA g (b 10) 25 T0, lA g (b 11) 5 U0, iA g (b 12) 25 tn, bA g (b 23) 48 sd, bA g (b 0) 600 tp, iA g (b 29) 40 D0, bA g (b 30) 560 e0, bA g (b 31) 112 nd, bA g (b 32) 16 ro, bA g (b 33) 496 fn, bA g (b 34) 32 pf, bA g (b 35) 16 rd, bA g (b 36) 16 mx, iA g (b 37) 8 xf, bA g (b 38) 2000 sg, bA g (b 40) 96 frf, bA g (b 41) 16 rw] (by rw [updS (hv3 : (v : Nat → Int32) 3 = nI n0)]) ?_
  refine j_aload_n hX 0 dX11_signMixed_0 rfl ?_
  refine j_gete hX (nI 1) in11 11 0 24 rfl rfl (by decide) (List.mem_of_getElem? (i := 1) rfl) rfl rfl hv24 dX11_signMixed_1 ?_
  refine j_if_neN hX 1 10 dX11_signMixed_4 (by decide) (by omega) (fun b_4 => ?_) (fun b_4 => absurd b_4 (by omega))
  refine j_aload_n hX 0 dX11_signMixed_10 rfl ?_
  refine j_callV2 hX 0 (c_mixRand l g h b (upd v 3 (nI n0)) n0 f dg w0 S0 fs rt A0 T0 U0 tn sd tp ntp rd pf mx fm nn hfs hrt htn rfl (by omega) hB hv1 (by omega) hTpB hRdB hPB hMxB hv15 hv16 (by omega) (by omega)) gX11_signMixed_X11_mixRand (by decide +kernel) rfl ⟨rfl, rfl⟩ ⟨Nat.le_of_ble_eq_true rfl, Nat.le_of_ble_eq_true rfl⟩ 11 0 rfl rfl [0, 1, 2, 3, 4, 5, 6, 7, 8, 9, 10, 11, 12, 19, 18, 20] [13, 14, 15, 16, 17, 21, 22, 23, 24] 25 rfl (by decide) (fun jj : (Nat → Int32) × (Nat → Int32) × (Nat → Int64) × (Nat → Int64) × (Nat → Int64) × Nat × (Nat → Int32) × (Nat → Int32) × (Nat → Int32) × (Nat → Int32) => [oB h 11 (mO b (upd v 3 (nI jj.2.2.2.2.2.1))), bA g (b 2) 1400 jj.2.2.2.2.2.2.1, bA g (b 4) 32 jj.2.2.2.2.2.2.2.1, iA g (b 5) 64 jj.1, iA g (b 6) 8 jj.2.1, iA g (b 7) 8 fs, iA g (b 8) 64 rt, lA g (b 9) 25 jj.2.2.1, lA g (b 10) 25 jj.2.2.2.1, lA g (b 11) 5 jj.2.2.2.2.1, iA g (b 12) 25 tn, bA g (b 23) 48 sd, bA g (b 0) 600 tp, iA g (b 29) 40 D0, bA g (b 30) 560 e0, bA g (b 31) 112 nd, bA g (b 32) 16 ro, bA g (b 33) 496 fn, bA g (b 34) 32 jj.2.2.2.2.2.2.2.2.1, bA g (b 35) 16 rd, bA g (b 36) 16 jj.2.2.2.2.2.2.2.2.2, iA g (b 37) 8 xf, bA g (b 38) 2000 sg, bA g (b 40) 96 frf, bA g (b 41) 16 rw]) (fun _ => rfl) (by decide) [h, (b 2), (b 4), (b 5), (b 6), (b 7), (b 8), (b 9), (b 10), (b 11), (b 12), (b 23), (b 0), (b 29), (b 30), (b 31), (b 32), (b 33), (b 34), (b 35), (b 36), (b 37), (b 38), (b 40), (b 41)] rfl (fun _ => rfl) (fun _ => rfl) [iA g (b 29) 40 D0, bA g (b 30) 560 e0, bA g (b 31) 112 nd, bA g (b 32) 16 ro, bA g (b 33) 496 fn, iA g (b 37) 8 xf, bA g (b 38) 2000 sg, bA g (b 40) 96 frf, bA g (b 41) 16 rw] rfl (fun _ => rfl) rfl [] rfl (Nat.le_of_ble_eq_true rfl) ⟨Nat.le_refl _, Nat.le_refl _⟩ dX11_signMixed_11 ?_
  rintro ⟨w2, S2, A2, T2, U2, nl2, G2, FO2, PF2, M2⟩ hM
  try dsimp only at hM
  refine j_w [oB h 11 (mO b (upd v 3 (nI nl2))), bA g (b 2) 1400 G2, bA g (b 4) 32 FO2, iA g (b 5) 64 w2, iA g (b 6) 8 S2, iA g (b 7) 8 fs, iA g (b 8) 64 rt, lA g (b 9) 25 A2, lA g (b 10) 25 T2, lA g (b 11) 5 U2, iA g (b 12) 25 tn, bA g (b 23) 48 sd, bA g (b 0) 600 tp, iA g (b 29) 40 D0, bA g (b 30) 560 e0, bA g (b 31) 112 nd, bA g (b 32) 16 ro, bA g (b 33) 496 fn, bA g (b 34) 32 PF2, bA g (b 35) 16 rd, bA g (b 36) 16 M2, iA g (b 37) 8 xf, bA g (b 38) 2000 sg, bA g (b 40) 96 frf, bA g (b 41) 16 rw] rfl ?_
  refine j_st [] rfl ?_
  have hMl := MIXED_length (fm := fm) (n := nn) (by omega) sd (slice rd 0 nn) (slice tp 0 ntp)
  have hMs : slice M2 0 nn = (MIXED fm nn sd (slice rd 0 nn) (slice tp 0 ntp)) := by rw [hM.2.2.2, slice_put hMl.symm]
  refine j_aload_n hX 0 dX11_signMixed_14 rfl ?_
  refine j_iconst hX (0) dX11_signMixed_15 (by decide) ?_
  refine j_pc 16 rfl ?_
  refine j_st [.int (nI 0), .ref h] rfl ?_
  refine j_put hX (v := .int (nI 0)) (ty := .int) in11 tyX11 tyX11_ok nmX11 11 0 39 rfl rfl (by decide) (List.mem_of_getElem? (i := 2) rfl) rfl rfl rfl rfl rfl (Nat.le_of_ble_eq_true rfl) [oB h 11 (mO b (upd (upd v 3 (nI nl2)) 39 (nI 0))), bA g (b 2) 1400 G2, bA g (b 4) 32 FO2, iA g (b 5) 64 w2, iA g (b 6) 8 S2, iA g (b 7) 8 fs, iA g (b 8) 64 rt, lA g (b 9) 25 A2, lA g (b 10) 25 T2, lA g (b 11) 5 U2, iA g (b 12) 25 tn, bA g (b 23) 48 sd, bA g (b 0) 600 tp, iA g (b 29) 40 D0, bA g (b 30) 560 e0, bA g (b 31) 112 nd, bA g (b 32) 16 ro, bA g (b 33) 496 fn, bA g (b 34) 32 PF2, bA g (b 35) 16 rd, bA g (b 36) 16 M2, iA g (b 37) 8 xf, bA g (b 38) 2000 sg, bA g (b 40) 96 frf, bA g (b 41) 16 rw] rfl dX11_signMixed_16 ?_
  refine j_aload_n hX 0 dX11_signMixed_19 rfl ?_
  refine j_aload_n hX 0 dX11_signMixed_20 rfl ?_
  refine j_get hX in11 11 0 36 (v := .ref (b 36)) rfl rfl (by decide) (List.mem_of_getElem? (i := 3) rfl) rfl rfl dX11_signMixed_21 ?_
  refine j_iconst hX (0) dX11_signMixed_24 (by decide) ?_
  refine j_callV2 hX 2 (c_mput l g h b (upd (upd v 3 (nI nl2)) 39 (nI 0)) nn 0 (b 36) 16 M2 sg 0 hv16 rfl (by omega) (by omega) (by omega) (by omega) hM.2.2.1) gX11_signMixed_X11_put (by decide +kernel) rfl ⟨rfl, rfl⟩ ⟨Nat.le_of_ble_eq_true rfl, Nat.le_of_ble_eq_true rfl⟩ 11 0 rfl rfl [0, 20, 22] [1, 2, 3, 4, 5, 6, 7, 8, 9, 10, 11, 12, 13, 14, 15, 16, 17, 18, 19, 21, 23, 24] 25 rfl (by decide) (fun jj : (Nat → Int32) => [oB h 11 (mO b (upd (upd v 3 (nI nl2)) 39 (nI (0 + nn)))), bA g (b 2) 1400 G2, bA g (b 4) 32 FO2, iA g (b 5) 64 w2, iA g (b 6) 8 S2, iA g (b 7) 8 fs, iA g (b 8) 64 rt, lA g (b 9) 25 A2, lA g (b 10) 25 T2, lA g (b 11) 5 U2, iA g (b 12) 25 tn, bA g (b 23) 48 sd, bA g (b 0) 600 tp, iA g (b 29) 40 D0, bA g (b 30) 560 e0, bA g (b 31) 112 nd, bA g (b 32) 16 ro, bA g (b 33) 496 fn, bA g (b 34) 32 PF2, bA g (b 35) 16 rd, bA g (b 36) 16 M2, iA g (b 37) 8 xf, bA g (b 38) 2000 jj, bA g (b 40) 96 frf, bA g (b 41) 16 rw]) (fun _ => rfl) (by decide) [h, (b 2), (b 4), (b 5), (b 6), (b 7), (b 8), (b 9), (b 10), (b 11), (b 12), (b 23), (b 0), (b 29), (b 30), (b 31), (b 32), (b 33), (b 34), (b 35), (b 36), (b 37), (b 38), (b 40), (b 41)] rfl (fun _ => rfl) (fun _ => rfl) [bA g (b 2) 1400 G2, bA g (b 4) 32 FO2, iA g (b 5) 64 w2, iA g (b 6) 8 S2, iA g (b 7) 8 fs, iA g (b 8) 64 rt, lA g (b 9) 25 A2, lA g (b 10) 25 T2, lA g (b 11) 5 U2, iA g (b 12) 25 tn, bA g (b 23) 48 sd, bA g (b 0) 600 tp, iA g (b 29) 40 D0, bA g (b 30) 560 e0, bA g (b 31) 112 nd, bA g (b 32) 16 ro, bA g (b 33) 496 fn, bA g (b 34) 32 PF2, bA g (b 35) 16 rd, iA g (b 37) 8 xf, bA g (b 40) 96 frf, bA g (b 41) 16 rw] rfl (fun _ => rfl) rfl [] rfl (Nat.le_of_ble_eq_true rfl) ⟨Nat.le_refl _, Nat.le_refl _⟩ dX11_signMixed_25 ?_
  intro SG3 hT0
  try dsimp only at hT0
  refine j_w [oB h 11 (mO b (upd (upd v 3 (nI nl2)) 39 (nI (0 + nn)))), bA g (b 2) 1400 G2, bA g (b 4) 32 FO2, iA g (b 5) 64 w2, iA g (b 6) 8 S2, iA g (b 7) 8 fs, iA g (b 8) 64 rt, lA g (b 9) 25 A2, lA g (b 10) 25 T2, lA g (b 11) 5 U2, iA g (b 12) 25 tn, bA g (b 23) 48 sd, bA g (b 0) 600 tp, iA g (b 29) 40 D0, bA g (b 30) 560 e0, bA g (b 31) 112 nd, bA g (b 32) 16 ro, bA g (b 33) 496 fn, bA g (b 34) 32 PF2, bA g (b 35) 16 rd, bA g (b 36) 16 M2, iA g (b 37) 8 xf, bA g (b 38) 2000 SG3, bA g (b 40) 96 frf, bA g (b 41) 16 rw] rfl ?_
  refine j_st [] rfl ?_
  rw [hMs] at hT0
  have hS3 : isB SG3 := by rw [hT0]; exact putL_B hSgB (MIXED_B _ _ _ _ _)
  refine j_aload_n hX 0 dX11_signMixed_28 rfl ?_
  refine j_aload_n hX 0 dX11_signMixed_29 rfl ?_
  refine j_pc 30 rfl ?_
  refine j_get hX in11 11 0 36 (v := .ref (b 36)) rfl rfl (by decide) (List.mem_of_getElem? (i := 3) rfl) rfl rfl dX11_signMixed_30 ?_
  refine j_callV2 hX 1 (c_point l g h b (upd (upd v 3 (nI nl2)) 39 (nI (0 + nn))) nl2 G2 FO2 w2 S2 fs rt A2 T2 U2 tn sd tp ntp ro PF2 M2 xf fm nn ht lys fa mk hfs hrt htn rfl hM.1 hB hv1 (by omega) hTpB hRoB hM.2.1 hM.2.2.1 hv15 hv16 hv17 hv18 hv19 hv20 (by omega) (by omega) hht.2 hlys hfa hmk) gX11_signMixed_X11_point (by decide +kernel) rfl ⟨rfl, rfl⟩ ⟨Nat.le_of_ble_eq_true rfl, Nat.le_of_ble_eq_true rfl⟩ 11 0 rfl rfl [0, 1, 2, 3, 4, 5, 6, 7, 8, 9, 10, 11, 12, 16, 18, 20, 21] [13, 14, 15, 17, 19, 22, 23, 24] 25 rfl (by decide) (fun jj : (Nat → Int32) × (Nat → Int32) × (Nat → Int64) × (Nat → Int64) × (Nat → Int64) × Nat × (Nat → Int32) × (Nat → Int32) × (Nat → Int32) × (Nat → Int32) => [oB h 11 (mO b (upd (upd v 3 (nI jj.2.2.2.2.2.1)) 39 (nI (0 + nn)))), bA g (b 2) 1400 jj.2.2.2.2.2.2.1, bA g (b 4) 32 jj.2.2.2.2.2.2.2.1, iA g (b 5) 64 jj.1, iA g (b 6) 8 jj.2.1, iA g (b 7) 8 fs, iA g (b 8) 64 rt, lA g (b 9) 25 jj.2.2.1, lA g (b 10) 25 jj.2.2.2.1, lA g (b 11) 5 jj.2.2.2.2.1, iA g (b 12) 25 tn, bA g (b 23) 48 sd, bA g (b 0) 600 tp, iA g (b 29) 40 D0, bA g (b 30) 560 e0, bA g (b 31) 112 nd, bA g (b 32) 16 ro, bA g (b 33) 496 fn, bA g (b 34) 32 jj.2.2.2.2.2.2.2.2.1, bA g (b 35) 16 rd, bA g (b 36) 16 M2, iA g (b 37) 8 jj.2.2.2.2.2.2.2.2.2, bA g (b 38) 2000 SG3, bA g (b 40) 96 frf, bA g (b 41) 16 rw]) (fun _ => rfl) (by decide) [h, (b 2), (b 4), (b 5), (b 6), (b 7), (b 8), (b 9), (b 10), (b 11), (b 12), (b 23), (b 0), (b 29), (b 30), (b 31), (b 32), (b 33), (b 34), (b 35), (b 36), (b 37), (b 38), (b 40), (b 41)] rfl (fun _ => rfl) (fun _ => rfl) [iA g (b 29) 40 D0, bA g (b 30) 560 e0, bA g (b 31) 112 nd, bA g (b 33) 496 fn, bA g (b 35) 16 rd, bA g (b 38) 2000 SG3, bA g (b 40) 96 frf, bA g (b 41) 16 rw] rfl (fun _ => rfl) rfl [] rfl (Nat.le_of_ble_eq_true rfl) ⟨Nat.le_refl _, Nat.le_refl _⟩ dX11_signMixed_33 ?_
  rintro ⟨w4, S4, A4, T4, U4, nl4, G4, FO4, P4, X4⟩ hN
  try dsimp only at hN
  refine j_w [oB h 11 (mO b (upd (upd v 3 (nI nl4)) 39 (nI (0 + nn)))), bA g (b 2) 1400 G4, bA g (b 4) 32 FO4, iA g (b 5) 64 w4, iA g (b 6) 8 S4, iA g (b 7) 8 fs, iA g (b 8) 64 rt, lA g (b 9) 25 A4, lA g (b 10) 25 T4, lA g (b 11) 5 U4, iA g (b 12) 25 tn, bA g (b 23) 48 sd, bA g (b 0) 600 tp, iA g (b 29) 40 D0, bA g (b 30) 560 e0, bA g (b 31) 112 nd, bA g (b 32) 16 ro, bA g (b 33) 496 fn, bA g (b 34) 32 P4, bA g (b 35) 16 rd, bA g (b 36) 16 M2, iA g (b 37) 8 X4, bA g (b 38) 2000 SG3, bA g (b 40) 96 frf, bA g (b 41) 16 rw] rfl ?_
  refine j_st [] rfl ?_
  rw [hMs] at hN
  obtain ⟨ix, hixd⟩ : ∃ z, z = IXS fm nn sd ht lys fa mk (MIXED fm nn sd (slice rd 0 nn) (slice tp 0 ntp)) (slice ro 0 nn) (slice tp 0 ntp) := ⟨_, rfl⟩
  have hxv : ∀ j, j < 2 + mk → X4 j = nI (ix j) := fun j hj => by rw [hN.2.2 j (by omega), ← hixd]; exact ixV_in hj
  obtain ⟨hix, hixc, hix0, hixL⟩ := ix_facts _ hht hlys hfa hmk hixd
  have hi0 := hix 0
  have hi1 := hix 1
  have hu1 := (hixL 0 (by omega)).2
  refine j_aload_n hX 0 dX11_signMixed_36 rfl ?_
  refine j_iconst hX (0) dX11_signMixed_37 (by decide) ?_
  refine j_st [.int (nI 0), .ref h] rfl ?_
  refine j_put hX (v := .int (nI 0)) (ty := .int) in11 tyX11 tyX11_ok nmX11 11 0 27 rfl rfl (by decide) (List.mem_of_getElem? (i := 4) rfl) rfl rfl rfl rfl rfl (Nat.le_of_ble_eq_true rfl) [oB h 11 (mO b (upd (upd (upd v 3 (nI nl4)) 39 (nI (0 + nn))) 27 (nI 0))), bA g (b 2) 1400 G4, bA g (b 4) 32 FO4, iA g (b 5) 64 w4, iA g (b 6) 8 S4, iA g (b 7) 8 fs, iA g (b 8) 64 rt, lA g (b 9) 25 A4, lA g (b 10) 25 T4, lA g (b 11) 5 U4, iA g (b 12) 25 tn, bA g (b 23) 48 sd, bA g (b 0) 600 tp, iA g (b 29) 40 D0, bA g (b 30) 560 e0, bA g (b 31) 112 nd, bA g (b 32) 16 ro, bA g (b 33) 496 fn, bA g (b 34) 32 P4, bA g (b 35) 16 rd, bA g (b 36) 16 M2, iA g (b 37) 8 X4, bA g (b 38) 2000 SG3, bA g (b 40) 96 frf, bA g (b 41) 16 rw] rfl dX11_signMixed_38 ?_
  refine j_aload_n hX 0 dX11_signMixed_41 rfl ?_
  refine j_aload_n hX 0 dX11_signMixed_42 rfl ?_
  refine j_get hX in11 11 0 37 (v := .ref (b 37)) rfl rfl (by decide) (List.mem_of_getElem? (i := 5) rfl) rfl rfl dX11_signMixed_43 ?_
  refine j_pc 46 rfl ?_
  refine j_iconst hX (0) dX11_signMixed_46 (by decide) ?_
  refine j_ialdN hX 21 0 rfl (by omega) (by omega) dX11_signMixed_47 ?_
  refine j_topeq _ (nI (ix 0)) (hxv 0 (by omega)) ?_
  refine j_put hX (v := .int (nI (ix 0))) (ty := .int) in11 tyX11 tyX11_ok nmX11 11 0 28 rfl rfl (by decide) (List.mem_of_getElem? (i := 6) rfl) rfl rfl rfl rfl rfl (Nat.le_of_ble_eq_true rfl) [oB h 11 (mO b (upd (upd (upd (upd v 3 (nI nl4)) 39 (nI (0 + nn))) 27 (nI 0)) 28 (nI (ix 0)))), bA g (b 2) 1400 G4, bA g (b 4) 32 FO4, iA g (b 5) 64 w4, iA g (b 6) 8 S4, iA g (b 7) 8 fs, iA g (b 8) 64 rt, lA g (b 9) 25 A4, lA g (b 10) 25 T4, lA g (b 11) 5 U4, iA g (b 12) 25 tn, bA g (b 23) 48 sd, bA g (b 0) 600 tp, iA g (b 29) 40 D0, bA g (b 30) 560 e0, bA g (b 31) 112 nd, bA g (b 32) 16 ro, bA g (b 33) 496 fn, bA g (b 34) 32 P4, bA g (b 35) 16 rd, bA g (b 36) 16 M2, iA g (b 37) 8 X4, bA g (b 38) 2000 SG3, bA g (b 40) 96 frf, bA g (b 41) 16 rw] rfl dX11_signMixed_48 ?_
  refine j_aload_n hX 0 dX11_signMixed_51 rfl ?_
  refine j_get hX in11 11 0 37 (v := .ref (b 37)) rfl rfl (by decide) (List.mem_of_getElem? (i := 5) rfl) rfl rfl dX11_signMixed_52 ?_
  refine j_iconst hX (1) dX11_signMixed_55 (by decide) ?_
  refine j_ialdN hX 21 1 rfl (by omega) (by omega) dX11_signMixed_56 ?_
  refine j_topeq _ (nI (ix 1)) (hxv 1 (by omega)) ?_
  refine j_istore_n hX 1 [(1, .int (nI (ix 1))), (0, .ref h)] dX11_signMixed_57 rfl (by decide) rfl ?_
  refine j_pc 58 rfl ?_
  refine j_iconst hX (0) dX11_signMixed_58 (by decide) ?_
  refine j_st [.int (nI 0)] rfl ?_
  refine j_istore_n hX 2 [(2, .int (nI 0)), (1, .int (nI (ix 1))), (0, .ref h)] dX11_signMixed_59 rfl (by decide) rfl ?_
  have lp_1 : ∀ (n_2 : Nat) (i : Nat) (w1 : Nat → Int32) (S1 : Nat → Int32) (A1 : Nat → Int64) (T1 : Nat → Int64) (U1 : Nat → Int64) (nl : Nat) (G : Nat → Int32) (FO : Nat → Int32) (P1 : Nat → Int32) (N1 : Nat → Int32) (at1 : Nat) (SGF : Nat → Int32) (FRF : Nat → Int32), (mk - i < n_2) → (i ≤ mk) → (nl ≤ 1400) → (isB P1) → (isB N1) → (isB SGF) → (isB FRF) → (at1 = nn + i * ((fa + 1) * nn)) → (SGF = putL sg 0 ((MIXED fm nn sd (slice rd 0 nn) (slice tp 0 ntp)) ++ fewS fm nn sd 0 (ix 0) (ix 1) fa (fun i => ix (2 + i)) i)) → (FRF = putL frf 0 (fewTp fm nn sd 0 (ix 0) (ix 1) fa i)) → J p l e ({ frames := 9, cells := 0, slots := 0, locals := 217 } : Room) s m ([.ref h] : List Value).toArray below meth c g A 5 Q 0 0 [oB h 11 (mO b (upd (upd (upd (upd v 3 (nI nl)) 39 (nI at1)) 27 (nI 0)) 28 (nI (ix 0)))), bA g (b 2) 1400 G, bA g (b 4) 32 FO, iA g (b 5) 64 w1, iA g (b 6) 8 S1, iA g (b 7) 8 fs, iA g (b 8) 64 rt, lA g (b 9) 25 A1, lA g (b 10) 25 T1, lA g (b 11) 5 U1, iA g (b 12) 25 tn, bA g (b 23) 48 sd, bA g (b 0) 600 tp, iA g (b 29) 40 D0, bA g (b 30) 560 e0, bA g (b 31) 112 nd, bA g (b 32) 16 ro, bA g (b 33) 496 N1, bA g (b 34) 32 P1, bA g (b 35) 16 rd, bA g (b 36) 16 M2, iA g (b 37) 8 X4, bA g (b 38) 2000 SGF, bA g (b 40) 96 FRF, bA g (b 41) 16 rw] [(0, .ref h), (1, .int (nI (ix 1))), (2, .int (nI i))] 60 [] := by
    intro n_2
    induction n_2 with
    | zero => intro i w1 S1 A1 T1 U1 nl G FO P1 N1 at1 SGF FRF hm; exact absurd hm (Nat.not_lt_zero _)
    | succ n_2 ih_3 =>
      intro i w1 S1 A1 T1 U1 nl G FO P1 N1 at1 SGF FRF hm hi hnl hP1 hN1 hSF hFR hat1 hO hT1
      refine j_iload_n hX 2 dX11_signMixed_60 rfl ?_
      refine j_aload_n hX 0 dX11_signMixed_61 rfl ?_
      refine j_gete hX (nI mk) in11 11 0 20 rfl rfl (by decide) (List.mem_of_getElem? (i := 7) rfl) rfl rfl hv20 dX11_signMixed_62 ?_
      refine j_icmp_geN hX i mk 206 dX11_signMixed_65 (by decide) (by omega) (by omega) (fun b_65 => ?_) (fun b_65 => ?_)
      · skip
        have him : i = mk := by omega
        rw [him] at hat1 hO hT1
        refine j_aload_n hX 0 dX11_signMixed_206 rfl ?_
        refine j_iconst hX (4) dX11_signMixed_207 (by decide) ?_
        refine j_pc 208 rfl ?_
        refine j_iload_n hX 1 dX11_signMixed_208 rfl ?_
        refine j_iconst hX (0) dX11_signMixed_209 (by decide) ?_
        refine j_iconst hX (0) dX11_signMixed_210 (by decide) ?_
        refine j_callV2 hX 4 (c_begin l g h b (upd (upd (upd (upd v 3 (nI nl)) 39 (nI at1)) 27 (nI 0)) 28 (nI (ix 0))) G sd fm nn 0 (ix 0) 4 (ix 1) 0 0 hv15 hv16 rfl rfl (by omega) (by omega) hB) gX11_signMixed_X11_begin (by decide +kernel) rfl ⟨rfl, rfl⟩ ⟨Nat.le_of_ble_eq_true rfl, Nat.le_of_ble_eq_true rfl⟩ 11 0 rfl rfl [0, 1, 11] [2, 3, 4, 5, 6, 7, 8, 9, 10, 12, 13, 14, 15, 16, 17, 18, 19, 20, 21, 22, 23, 24] 25 rfl (by decide) (fun jj : (Nat → Int32) => [oB h 11 (mO b (upd (upd (upd (upd v 3 (nI (hl fm nn))) 39 (nI at1)) 27 (nI 0)) 28 (nI (ix 0)))), bA g (b 2) 1400 jj, bA g (b 4) 32 FO, iA g (b 5) 64 w1, iA g (b 6) 8 S1, iA g (b 7) 8 fs, iA g (b 8) 64 rt, lA g (b 9) 25 A1, lA g (b 10) 25 T1, lA g (b 11) 5 U1, iA g (b 12) 25 tn, bA g (b 23) 48 sd, bA g (b 0) 600 tp, iA g (b 29) 40 D0, bA g (b 30) 560 e0, bA g (b 31) 112 nd, bA g (b 32) 16 ro, bA g (b 33) 496 N1, bA g (b 34) 32 P1, bA g (b 35) 16 rd, bA g (b 36) 16 M2, iA g (b 37) 8 X4, bA g (b 38) 2000 SGF, bA g (b 40) 96 FRF, bA g (b 41) 16 rw]) (fun _ => rfl) (by decide) [h, (b 2), (b 4), (b 5), (b 6), (b 7), (b 8), (b 9), (b 10), (b 11), (b 12), (b 23), (b 0), (b 29), (b 30), (b 31), (b 32), (b 33), (b 34), (b 35), (b 36), (b 37), (b 38), (b 40), (b 41)] rfl (fun _ => rfl) (fun _ => rfl) [bA g (b 4) 32 FO, iA g (b 5) 64 w1, iA g (b 6) 8 S1, iA g (b 7) 8 fs, iA g (b 8) 64 rt, lA g (b 9) 25 A1, lA g (b 10) 25 T1, lA g (b 11) 5 U1, iA g (b 12) 25 tn, bA g (b 0) 600 tp, iA g (b 29) 40 D0, bA g (b 30) 560 e0, bA g (b 31) 112 nd, bA g (b 32) 16 ro, bA g (b 33) 496 N1, bA g (b 34) 32 P1, bA g (b 35) 16 rd, bA g (b 36) 16 M2, iA g (b 37) 8 X4, bA g (b 38) 2000 SGF, bA g (b 40) 96 FRF, bA g (b 41) 16 rw] rfl (fun _ => rfl) rfl [] rfl (Nat.le_of_ble_eq_true rfl) ⟨Nat.le_refl _, Nat.le_refl _⟩ dX11_signMixed_211 ?_
        intro F1 hF1
        try dsimp only at hF1
        refine j_w [oB h 11 (mO b (upd (upd (upd (upd v 3 (nI (hl fm nn))) 39 (nI at1)) 27 (nI 0)) 28 (nI (ix 0)))), bA g (b 2) 1400 F1, bA g (b 4) 32 FO, iA g (b 5) 64 w1, iA g (b 6) 8 S1, iA g (b 7) 8 fs, iA g (b 8) 64 rt, lA g (b 9) 25 A1, lA g (b 10) 25 T1, lA g (b 11) 5 U1, iA g (b 12) 25 tn, bA g (b 23) 48 sd, bA g (b 0) 600 tp, iA g (b 29) 40 D0, bA g (b 30) 560 e0, bA g (b 31) 112 nd, bA g (b 32) 16 ro, bA g (b 33) 496 N1, bA g (b 34) 32 P1, bA g (b 35) 16 rd, bA g (b 36) 16 M2, iA g (b 37) 8 X4, bA g (b 38) 2000 SGF, bA g (b 40) 96 FRF, bA g (b 41) 16 rw] rfl ?_
        refine j_st [] rfl ?_
        refine j_aload_n hX 0 dX11_signMixed_214 rfl ?_
        refine j_aload_n hX 0 dX11_signMixed_215 rfl ?_
        refine j_get hX in11 11 0 40 (v := .ref (b 40)) rfl rfl (by decide) (List.mem_of_getElem? (i := 12) rfl) rfl rfl dX11_signMixed_216 ?_
        refine j_iconst hX (0) dX11_signMixed_219 (by decide) ?_
        refine j_pc 220 rfl ?_
        refine j_aload_n hX 0 dX11_signMixed_220 rfl ?_
        refine j_gete hX (nI nn) in11 11 0 16 rfl rfl (by decide) (List.mem_of_getElem? (i := 11) rfl) rfl rfl hv16 dX11_signMixed_221 ?_
        refine j_aload_n hX 0 dX11_signMixed_224 rfl ?_
        refine j_gete hX (nI mk) in11 11 0 20 rfl rfl (by decide) (List.mem_of_getElem? (i := 7) rfl) rfl rfl hv20 dX11_signMixed_225 ?_
        refine j_imulN hX nn mk dX11_signMixed_228 ?_
        refine j_callV2 hX 3 (c_layRow l g h b (upd (upd (upd (upd v 3 (nI (hl fm nn))) 39 (nI at1)) 27 (nI 0)) 28 (nI (ix 0))) (hl fm nn) F1 (b 40) 96 FRF 0 (nn * mk) rfl (by omega) (by omega) (by omega) hFR) gX11_signMixed_X11_layRow (by decide +kernel) rfl ⟨rfl, rfl⟩ ⟨Nat.le_of_ble_eq_true rfl, Nat.le_of_ble_eq_true rfl⟩ 11 0 rfl rfl [0, 1, 23] [2, 3, 4, 5, 6, 7, 8, 9, 10, 11, 12, 13, 14, 15, 16, 17, 18, 19, 20, 21, 22, 24] 25 rfl (by decide) (fun jj : (Nat → Int32) => [oB h 11 (mO b (upd (upd (upd (upd v 3 (nI ((hl fm nn) + (nn * mk)))) 39 (nI at1)) 27 (nI 0)) 28 (nI (ix 0)))), bA g (b 2) 1400 jj, bA g (b 4) 32 FO, iA g (b 5) 64 w1, iA g (b 6) 8 S1, iA g (b 7) 8 fs, iA g (b 8) 64 rt, lA g (b 9) 25 A1, lA g (b 10) 25 T1, lA g (b 11) 5 U1, iA g (b 12) 25 tn, bA g (b 23) 48 sd, bA g (b 0) 600 tp, iA g (b 29) 40 D0, bA g (b 30) 560 e0, bA g (b 31) 112 nd, bA g (b 32) 16 ro, bA g (b 33) 496 N1, bA g (b 34) 32 P1, bA g (b 35) 16 rd, bA g (b 36) 16 M2, iA g (b 37) 8 X4, bA g (b 38) 2000 SGF, bA g (b 40) 96 FRF, bA g (b 41) 16 rw]) (fun _ => rfl) (by decide) [h, (b 2), (b 4), (b 5), (b 6), (b 7), (b 8), (b 9), (b 10), (b 11), (b 12), (b 23), (b 0), (b 29), (b 30), (b 31), (b 32), (b 33), (b 34), (b 35), (b 36), (b 37), (b 38), (b 40), (b 41)] rfl (fun _ => rfl) (fun _ => rfl) [bA g (b 4) 32 FO, iA g (b 5) 64 w1, iA g (b 6) 8 S1, iA g (b 7) 8 fs, iA g (b 8) 64 rt, lA g (b 9) 25 A1, lA g (b 10) 25 T1, lA g (b 11) 5 U1, iA g (b 12) 25 tn, bA g (b 23) 48 sd, bA g (b 0) 600 tp, iA g (b 29) 40 D0, bA g (b 30) 560 e0, bA g (b 31) 112 nd, bA g (b 32) 16 ro, bA g (b 33) 496 N1, bA g (b 34) 32 P1, bA g (b 35) 16 rd, bA g (b 36) 16 M2, iA g (b 37) 8 X4, bA g (b 38) 2000 SGF, bA g (b 41) 16 rw] rfl (fun _ => rfl) rfl [] rfl (Nat.le_of_ble_eq_true rfl) ⟨Nat.le_refl _, Nat.le_refl _⟩ dX11_signMixed_229 ?_
        intro F2 hF2
        try dsimp only at hF2
        refine j_w [oB h 11 (mO b (upd (upd (upd (upd v 3 (nI ((hl fm nn) + (nn * mk)))) 39 (nI at1)) 27 (nI 0)) 28 (nI (ix 0)))), bA g (b 2) 1400 F2, bA g (b 4) 32 FO, iA g (b 5) 64 w1, iA g (b 6) 8 S1, iA g (b 7) 8 fs, iA g (b 8) 64 rt, lA g (b 9) 25 A1, lA g (b 10) 25 T1, lA g (b 11) 5 U1, iA g (b 12) 25 tn, bA g (b 23) 48 sd, bA g (b 0) 600 tp, iA g (b 29) 40 D0, bA g (b 30) 560 e0, bA g (b 31) 112 nd, bA g (b 32) 16 ro, bA g (b 33) 496 N1, bA g (b 34) 32 P1, bA g (b 35) 16 rd, bA g (b 36) 16 M2, iA g (b 37) 8 X4, bA g (b 38) 2000 SGF, bA g (b 40) 96 FRF, bA g (b 41) 16 rw] rfl ?_
        refine j_st [] rfl ?_
        refine j_aload_n hX 0 dX11_signMixed_232 rfl ?_
        refine j_aload_n hX 0 dX11_signMixed_233 rfl ?_
        refine j_pc 234 rfl ?_
        refine j_get hX in11 11 0 41 (v := .ref (b 41)) rfl rfl (by decide) (List.mem_of_getElem? (i := 13) rfl) rfl rfl dX11_signMixed_234 ?_
        refine j_iconst hX (0) dX11_signMixed_237 (by decide) ?_
        refine j_callV2 hX 2 (c_end l g h b (upd (upd (upd (upd v 3 (nI ((hl fm nn) + (nn * mk)))) 39 (nI at1)) 27 (nI 0)) 28 (nI (ix 0))) ((hl fm nn) + (nn * mk)) F2 FO w1 S1 fs rt A1 T1 U1 tn (b 41) 16 rw fm nn 0 rfl hv15 hv16 (by omega) hfs hrt htn (by omega) (by omega) (by omega) (by omega)) gX11_signMixed_X11_end (by decide +kernel) rfl ⟨rfl, rfl⟩ ⟨Nat.le_of_ble_eq_true rfl, Nat.le_of_ble_eq_true rfl⟩ 11 0 rfl rfl [0, 1, 2, 3, 4, 5, 6, 7, 8, 9, 10, 24] [11, 12, 13, 14, 15, 16, 17, 18, 19, 20, 21, 22, 23] 25 rfl (by decide) (fun jj : (Nat → Int32) × (Nat → Int32) × (Nat → Int64) × (Nat → Int64) × (Nat → Int64) × Nat × (Nat → Int32) × (Nat → Int32) × (Nat → Int32) => [oB h 11 (mO b (upd (upd (upd (upd v 3 (nI jj.2.2.2.2.2.1)) 39 (nI at1)) 27 (nI 0)) 28 (nI (ix 0)))), bA g (b 2) 1400 jj.2.2.2.2.2.2.1, bA g (b 4) 32 jj.2.2.2.2.2.2.2.1, iA g (b 5) 64 jj.1, iA g (b 6) 8 jj.2.1, iA g (b 7) 8 fs, iA g (b 8) 64 rt, lA g (b 9) 25 jj.2.2.1, lA g (b 10) 25 jj.2.2.2.1, lA g (b 11) 5 jj.2.2.2.2.1, iA g (b 12) 25 tn, bA g (b 23) 48 sd, bA g (b 0) 600 tp, iA g (b 29) 40 D0, bA g (b 30) 560 e0, bA g (b 31) 112 nd, bA g (b 32) 16 ro, bA g (b 33) 496 N1, bA g (b 34) 32 P1, bA g (b 35) 16 rd, bA g (b 36) 16 M2, iA g (b 37) 8 X4, bA g (b 38) 2000 SGF, bA g (b 40) 96 FRF, bA g (b 41) 16 jj.2.2.2.2.2.2.2.2]) (fun _ => rfl) (by decide) [h, (b 2), (b 4), (b 5), (b 6), (b 7), (b 8), (b 9), (b 10), (b 11), (b 12), (b 23), (b 0), (b 29), (b 30), (b 31), (b 32), (b 33), (b 34), (b 35), (b 36), (b 37), (b 38), (b 40), (b 41)] rfl (fun _ => rfl) (fun _ => rfl) [bA g (b 23) 48 sd, bA g (b 0) 600 tp, iA g (b 29) 40 D0, bA g (b 30) 560 e0, bA g (b 31) 112 nd, bA g (b 32) 16 ro, bA g (b 33) 496 N1, bA g (b 34) 32 P1, bA g (b 35) 16 rd, bA g (b 36) 16 M2, iA g (b 37) 8 X4, bA g (b 38) 2000 SGF, bA g (b 40) 96 FRF] rfl (fun _ => rfl) rfl [] rfl (Nat.le_of_ble_eq_true rfl) ⟨Nat.le_refl _, Nat.le_refl _⟩ dX11_signMixed_238 ?_
        rintro ⟨w7, S7, A7, T7, U7, nl7, G7, FO7, R7⟩ hE
        try dsimp only at hE
        refine j_w [oB h 11 (mO b (upd (upd (upd (upd v 3 (nI nl7)) 39 (nI at1)) 27 (nI 0)) 28 (nI (ix 0)))), bA g (b 2) 1400 G7, bA g (b 4) 32 FO7, iA g (b 5) 64 w7, iA g (b 6) 8 S7, iA g (b 7) 8 fs, iA g (b 8) 64 rt, lA g (b 9) 25 A7, lA g (b 10) 25 T7, lA g (b 11) 5 U7, iA g (b 12) 25 tn, bA g (b 23) 48 sd, bA g (b 0) 600 tp, iA g (b 29) 40 D0, bA g (b 30) 560 e0, bA g (b 31) 112 nd, bA g (b 32) 16 ro, bA g (b 33) 496 N1, bA g (b 34) 32 P1, bA g (b 35) 16 rd, bA g (b 36) 16 M2, iA g (b 37) 8 X4, bA g (b 38) 2000 SGF, bA g (b 40) 96 FRF, bA g (b 41) 16 R7] rfl ?_
        refine j_st [] rfl ?_
        have hdl := hd_length (fm := fm) (n := nn) (by omega) sd 0 (ix 0) 4 (ix 1) 0 0
        rw [hF2, hF1, putL_app' (by rw [hdl, Nat.zero_add]), slice_put (by rw [List.length_append, hdl, slice_length]), hT1, slice_put (by rw [fewTp_length (by omega)]; exact hmc)] at hE
        have hE7 : R7 = putL rw 0 (TT fm nn sd 0 (ix 0) 4 (ix 1) 0 0 (fewTp fm nn sd 0 (ix 0) (ix 1) fa mk)) := hE.2
        have hR7 : isB R7 := by rw [hE7]; exact putL_B hRwB (TT_B _ _ _ _ _ _ _ _ _ _)
        refine j_aload_n hX 0 dX11_signMixed_241 rfl ?_
        refine j_aload_n hX 0 dX11_signMixed_242 rfl ?_
        refine j_get hX in11 11 0 41 (v := .ref (b 41)) rfl rfl (by decide) (List.mem_of_getElem? (i := 13) rfl) rfl rfl dX11_signMixed_243 ?_
        refine j_iconst hX (0) dX11_signMixed_246 (by decide) ?_
        refine j_iload_n hX 1 dX11_signMixed_247 rfl ?_
        refine j_pc 248 rfl ?_
        refine j_callV2 hX 3 (c_one l g h b (upd (upd (upd (upd v 3 (nI nl7)) 39 (nI at1)) 27 (nI 0)) 28 (nI (ix 0))) nl7 G7 FO7 w7 S7 fs rt A7 T7 U7 tn sd D0 e0 nd P1 SGF R7 fm nn ht 0 (ix 0) at1 (ix 1) hfs hrt htn rfl hE.1 hB hEB hNB hP1 hSF hR7 hv15 hv16 hv17 hv21 rfl rfl rfl (by omega) (by omega) (by omega) (by omega) hu1 (by have := Nat.le_mul_of_pos_left ((ln nn + ht) * nn) (show 0 < lys by omega); omega)) gX11_signMixed_X11_one (by decide +kernel) rfl ⟨rfl, rfl⟩ ⟨Nat.le_of_ble_eq_true rfl, Nat.le_of_ble_eq_true rfl⟩ 11 0 rfl rfl [0, 1, 2, 3, 4, 5, 6, 7, 8, 9, 10, 11, 13, 14, 15, 18, 22, 24] [12, 16, 17, 19, 20, 21, 23] 25 rfl (by decide) (fun jj : (Nat → Int32) × (Nat → Int32) × (Nat → Int64) × (Nat → Int64) × (Nat → Int64) × Nat × (Nat → Int32) × (Nat → Int32) × (Nat → Int32) × (Nat → Int32) × (Nat → Int32) × (Nat → Int32) × (Nat → Int32) => [oB h 11 (mO b (upd (upd (upd (upd v 3 (nI jj.2.2.2.2.2.1)) 39 (nI (at1 + (ln nn + ht) * nn))) 27 (nI 0)) 28 (nI (ix 0)))), bA g (b 2) 1400 jj.2.2.2.2.2.2.1, bA g (b 4) 32 jj.2.2.2.2.2.2.2.1, iA g (b 5) 64 jj.1, iA g (b 6) 8 jj.2.1, iA g (b 7) 8 fs, iA g (b 8) 64 rt, lA g (b 9) 25 jj.2.2.1, lA g (b 10) 25 jj.2.2.2.1, lA g (b 11) 5 jj.2.2.2.2.1, iA g (b 12) 25 tn, bA g (b 23) 48 sd, bA g (b 0) 600 tp, iA g (b 29) 40 jj.2.2.2.2.2.2.2.2.1, bA g (b 30) 560 jj.2.2.2.2.2.2.2.2.2.1, bA g (b 31) 112 jj.2.2.2.2.2.2.2.2.2.2.1, bA g (b 32) 16 ro, bA g (b 33) 496 N1, bA g (b 34) 32 jj.2.2.2.2.2.2.2.2.2.2.2.1, bA g (b 35) 16 rd, bA g (b 36) 16 M2, iA g (b 37) 8 X4, bA g (b 38) 2000 jj.2.2.2.2.2.2.2.2.2.2.2.2, bA g (b 40) 96 FRF, bA g (b 41) 16 R7]) (fun _ => rfl) (by decide) [h, (b 2), (b 4), (b 5), (b 6), (b 7), (b 8), (b 9), (b 10), (b 11), (b 12), (b 23), (b 0), (b 29), (b 30), (b 31), (b 32), (b 33), (b 34), (b 35), (b 36), (b 37), (b 38), (b 40), (b 41)] rfl (fun _ => rfl) (fun _ => rfl) [bA g (b 0) 600 tp, bA g (b 32) 16 ro, bA g (b 33) 496 N1, bA g (b 35) 16 rd, bA g (b 36) 16 M2, iA g (b 37) 8 X4, bA g (b 40) 96 FRF] rfl (fun _ => rfl) rfl [] rfl (Nat.le_of_ble_eq_true rfl) ⟨Nat.le_refl _, Nat.le_refl _⟩ dX11_signMixed_248 ?_
        rintro ⟨w8, S8, A8, T8, U8, nl8, G8, FO8, D8, E8, N8, P8, SF8⟩ hY
        try dsimp only at hY
        refine j_w [oB h 11 (mO b (upd (upd (upd (upd v 3 (nI nl8)) 39 (nI (at1 + (ln nn + ht) * nn))) 27 (nI 0)) 28 (nI (ix 0)))), bA g (b 2) 1400 G8, bA g (b 4) 32 FO8, iA g (b 5) 64 w8, iA g (b 6) 8 S8, iA g (b 7) 8 fs, iA g (b 8) 64 rt, lA g (b 9) 25 A8, lA g (b 10) 25 T8, lA g (b 11) 5 U8, iA g (b 12) 25 tn, bA g (b 23) 48 sd, bA g (b 0) 600 tp, iA g (b 29) 40 D8, bA g (b 30) 560 E8, bA g (b 31) 112 N8, bA g (b 32) 16 ro, bA g (b 33) 496 N1, bA g (b 34) 32 P8, bA g (b 35) 16 rd, bA g (b 36) 16 M2, iA g (b 37) 8 X4, bA g (b 38) 2000 SF8, bA g (b 40) 96 FRF, bA g (b 41) 16 R7] rfl ?_
        refine j_st [] rfl ?_
        have hRr : slice R7 0 nn = rowL fm nn sd ht fa mk ix 0 := by rw [hE7, slice_put (by rw [TT_length (by omega)])]; rfl
        have hO8 : SF8 = putL sg 0 (((MIXED fm nn sd (slice rd 0 nn) (slice tp 0 ntp)) ++ fewS fm nn sd 0 (ix 0) (ix 1) fa (fun i => ix (2 + i)) mk) ++ sigL fm nn sd ht fa mk ix 1) := by rw [hY.2.2.1, hO, putL_app' (by rw [List.length_append, hMl, fewS_length (by omega), Nat.zero_add]; exact hat1), oneC_congr (lF_of hRr)]; rfl
        by_cases hl2 : lys = 2
        · skip
          refine j_aload_n hX 0 dX11_signMixed_251 rfl ?_
          refine j_gete hX (nI lys) in11 11 0 18 rfl rfl (by decide) (List.mem_of_getElem? (i := 14) rfl) rfl rfl hv18 dX11_signMixed_252 ?_
          refine j_iconst hX (2) dX11_signMixed_255 (by decide) ?_
          refine j_icmp_neN hX lys 2 322 dX11_signMixed_256 (by decide) (by omega) (by omega) (fun b_256 => absurd b_256 (by omega)) (fun b_256 => ?_)
          have hcc0 := bfr_cap (h := ht) (z := ht) (i := 0) (Nat.le_refl _) (Nat.two_pow_pos _)
          refine j_iconst hX (0) dX11_signMixed_259 (by decide) ?_
          refine j_st [.int (nI 0)] rfl ?_
          refine j_istore_n hX 2 [(2, .int (nI 0)), (0, .ref h), (1, .int (nI (ix 1)))] dX11_signMixed_260 rfl (by decide) rfl ?_
          have lp_4 : ∀ (n_5 : Nat) (k : Nat) (R1 : Nat → Int32), (nn - k < n_5) → (k ≤ nn) → (isB R1) → (R1 = putL R7 0 (slice N8 (16 * (bfr ht ht + 0)) k)) → J p l e ({ frames := 9, cells := 0, slots := 0, locals := 217 } : Room) s m ([.ref h] : List Value).toArray below meth c g A 5 Q 0 0 [oB h 11 (mO b (upd (upd (upd (upd v 3 (nI nl8)) 39 (nI (at1 + (ln nn + ht) * nn))) 27 (nI 0)) 28 (nI (ix 0)))), bA g (b 2) 1400 G8, bA g (b 4) 32 FO8, iA g (b 5) 64 w8, iA g (b 6) 8 S8, iA g (b 7) 8 fs, iA g (b 8) 64 rt, lA g (b 9) 25 A8, lA g (b 10) 25 T8, lA g (b 11) 5 U8, iA g (b 12) 25 tn, bA g (b 23) 48 sd, bA g (b 0) 600 tp, iA g (b 29) 40 D8, bA g (b 30) 560 E8, bA g (b 31) 112 N8, bA g (b 32) 16 ro, bA g (b 33) 496 N1, bA g (b 34) 32 P8, bA g (b 35) 16 rd, bA g (b 36) 16 M2, iA g (b 37) 8 X4, bA g (b 38) 2000 SF8, bA g (b 40) 96 FRF, bA g (b 41) 16 R1] [(0, .ref h), (1, .int (nI (ix 1))), (2, .int (nI k))] 261 [] := by
            intro n_5
            induction n_5 with
            | zero => intro k R1 hm; exact absurd hm (Nat.not_lt_zero _)
            | succ n_5 ih_6 =>
              intro k R1 hm hk hR1 hF9
              refine j_iload_n hX 2 dX11_signMixed_261 rfl ?_
              refine j_pc 262 rfl ?_
              refine j_aload_n hX 0 dX11_signMixed_262 rfl ?_
              refine j_gete hX (nI nn) in11 11 0 16 rfl rfl (by decide) (List.mem_of_getElem? (i := 11) rfl) rfl rfl hv16 dX11_signMixed_263 ?_
              refine j_icmp_geN hX k nn 297 dX11_signMixed_266 (by decide) (by omega) (by omega) (fun b_266 => ?_) (fun b_266 => ?_)
              · skip
                have hk9 : k = nn := by omega
                rw [hk9, hY.2.2.2 ht 0 (Nat.le_refl _) (by rw [Nat.sub_self]; decide)] at hF9
                have hRr9 : slice R1 0 nn = rowL fm nn sd ht fa mk ix 1 := by rw [hF9, slice_put (by rw [ND, NG_length (by omega) _ _ _ _ _ (fun j => LF_length (by omega) _ _ _ _)])]; rfl
                have hu2 := (hixL 1 (by omega)).2
                refine j_aload_n hX 0 dX11_signMixed_297 rfl ?_
                refine j_get hX in11 11 0 28 (v := .int (nI (ix 0))) rfl rfl (by decide) (List.mem_of_getElem? (i := 6) rfl) rfl rfl dX11_signMixed_298 ?_
                refine j_istore_n hX 2 [(2, .int (nI (ix 0))), (0, .ref h), (1, .int (nI (ix 1)))] dX11_signMixed_301 rfl (by decide) rfl ?_
                refine j_aload_n hX 1 dX11_signMixed_302 rfl ?_
                refine j_iconst hX (1) dX11_signMixed_303 (by decide) ?_
                refine j_pc 304 rfl ?_
                refine j_st [.int (nI 1), .ref h] rfl ?_
                refine j_put hX (v := .int (nI 1)) (ty := .int) in11 tyX11 tyX11_ok nmX11 11 0 27 rfl rfl (by decide) (List.mem_of_getElem? (i := 4) rfl) rfl rfl rfl rfl rfl (Nat.le_of_ble_eq_true rfl) [oB h 11 (mO b (upd (upd (upd (upd v 3 (nI nl8)) 39 (nI (at1 + (ln nn + ht) * nn))) 27 (nI 1)) 28 (nI (ix 0)))), bA g (b 2) 1400 G8, bA g (b 4) 32 FO8, iA g (b 5) 64 w8, iA g (b 6) 8 S8, iA g (b 7) 8 fs, iA g (b 8) 64 rt, lA g (b 9) 25 A8, lA g (b 10) 25 T8, lA g (b 11) 5 U8, iA g (b 12) 25 tn, bA g (b 23) 48 sd, bA g (b 0) 600 tp, iA g (b 29) 40 D8, bA g (b 30) 560 E8, bA g (b 31) 112 N8, bA g (b 32) 16 ro, bA g (b 33) 496 N1, bA g (b 34) 32 P8, bA g (b 35) 16 rd, bA g (b 36) 16 M2, iA g (b 37) 8 X4, bA g (b 38) 2000 SF8, bA g (b 40) 96 FRF, bA g (b 41) 16 R1] rfl dX11_signMixed_304 ?_
                refine j_aload_n hX 1 dX11_signMixed_307 rfl ?_
                refine j_iconst hX (0) dX11_signMixed_308 (by decide) ?_
                refine j_st [.int (nI 0), .ref h] rfl ?_
                refine j_put hX (v := .int (nI 0)) (ty := .int) in11 tyX11 tyX11_ok nmX11 11 0 28 rfl rfl (by decide) (List.mem_of_getElem? (i := 6) rfl) rfl rfl rfl rfl rfl (Nat.le_of_ble_eq_true rfl) [oB h 11 (mO b (upd (upd (upd (upd v 3 (nI nl8)) 39 (nI (at1 + (ln nn + ht) * nn))) 27 (nI 1)) 28 (nI 0))), bA g (b 2) 1400 G8, bA g (b 4) 32 FO8, iA g (b 5) 64 w8, iA g (b 6) 8 S8, iA g (b 7) 8 fs, iA g (b 8) 64 rt, lA g (b 9) 25 A8, lA g (b 10) 25 T8, lA g (b 11) 5 U8, iA g (b 12) 25 tn, bA g (b 23) 48 sd, bA g (b 0) 600 tp, iA g (b 29) 40 D8, bA g (b 30) 560 E8, bA g (b 31) 112 N8, bA g (b 32) 16 ro, bA g (b 33) 496 N1, bA g (b 34) 32 P8, bA g (b 35) 16 rd, bA g (b 36) 16 M2, iA g (b 37) 8 X4, bA g (b 38) 2000 SF8, bA g (b 40) 96 FRF, bA g (b 41) 16 R1] rfl dX11_signMixed_309 ?_
                refine j_aload_n hX 1 dX11_signMixed_312 rfl ?_
                refine j_aload_n hX 1 dX11_signMixed_313 rfl ?_
                refine j_get hX in11 11 0 41 (v := .ref (b 41)) rfl rfl (by decide) (List.mem_of_getElem? (i := 13) rfl) rfl rfl dX11_signMixed_314 ?_
                refine j_iconst hX (0) dX11_signMixed_317 (by decide) ?_
                refine j_pc 318 rfl ?_
                refine j_iload_n hX 0 dX11_signMixed_318 rfl ?_
                refine j_callV2 hX 3 (c_one l g h b (upd (upd (upd (upd v 3 (nI nl8)) 39 (nI (at1 + (ln nn + ht) * nn))) 27 (nI 1)) 28 (nI 0)) nl8 G8 FO8 w8 S8 fs rt A8 T8 U8 tn sd D8 E8 N8 P8 SF8 R1 fm nn ht 1 0 (at1 + (ln nn + ht) * nn) (ix 0) hfs hrt htn rfl hY.1 hB hY.2.1.1 hY.2.1.2.1 hY.2.1.2.2.1 hY.2.1.2.2.2 hR1 hv15 hv16 hv17 hv21 rfl rfl rfl (by omega) (by omega) (by omega) (by omega) hu2 (by rw [hl2] at hcap; omega)) gX11_signMixed_X11_one (by decide +kernel) rfl ⟨rfl, rfl⟩ ⟨Nat.le_of_ble_eq_true rfl, Nat.le_of_ble_eq_true rfl⟩ 11 0 rfl rfl [0, 1, 2, 3, 4, 5, 6, 7, 8, 9, 10, 11, 13, 14, 15, 18, 22, 24] [12, 16, 17, 19, 20, 21, 23] 25 rfl (by decide) (fun jj : (Nat → Int32) × (Nat → Int32) × (Nat → Int64) × (Nat → Int64) × (Nat → Int64) × Nat × (Nat → Int32) × (Nat → Int32) × (Nat → Int32) × (Nat → Int32) × (Nat → Int32) × (Nat → Int32) × (Nat → Int32) => [oB h 11 (mO b (upd (upd (upd (upd v 3 (nI jj.2.2.2.2.2.1)) 39 (nI ((at1 + (ln nn + ht) * nn) + (ln nn + ht) * nn))) 27 (nI 1)) 28 (nI 0))), bA g (b 2) 1400 jj.2.2.2.2.2.2.1, bA g (b 4) 32 jj.2.2.2.2.2.2.2.1, iA g (b 5) 64 jj.1, iA g (b 6) 8 jj.2.1, iA g (b 7) 8 fs, iA g (b 8) 64 rt, lA g (b 9) 25 jj.2.2.1, lA g (b 10) 25 jj.2.2.2.1, lA g (b 11) 5 jj.2.2.2.2.1, iA g (b 12) 25 tn, bA g (b 23) 48 sd, bA g (b 0) 600 tp, iA g (b 29) 40 jj.2.2.2.2.2.2.2.2.1, bA g (b 30) 560 jj.2.2.2.2.2.2.2.2.2.1, bA g (b 31) 112 jj.2.2.2.2.2.2.2.2.2.2.1, bA g (b 32) 16 ro, bA g (b 33) 496 N1, bA g (b 34) 32 jj.2.2.2.2.2.2.2.2.2.2.2.1, bA g (b 35) 16 rd, bA g (b 36) 16 M2, iA g (b 37) 8 X4, bA g (b 38) 2000 jj.2.2.2.2.2.2.2.2.2.2.2.2, bA g (b 40) 96 FRF, bA g (b 41) 16 R1]) (fun _ => rfl) (by decide) [h, (b 2), (b 4), (b 5), (b 6), (b 7), (b 8), (b 9), (b 10), (b 11), (b 12), (b 23), (b 0), (b 29), (b 30), (b 31), (b 32), (b 33), (b 34), (b 35), (b 36), (b 37), (b 38), (b 40), (b 41)] rfl (fun _ => rfl) (fun _ => rfl) [bA g (b 0) 600 tp, bA g (b 32) 16 ro, bA g (b 33) 496 N1, bA g (b 35) 16 rd, bA g (b 36) 16 M2, iA g (b 37) 8 X4, bA g (b 40) 96 FRF] rfl (fun _ => rfl) rfl [] rfl (Nat.le_of_ble_eq_true rfl) ⟨Nat.le_refl _, Nat.le_refl _⟩ dX11_signMixed_319 ?_
                rintro ⟨w9, S9, A9, T9, U9, nl9, G9, FO9, D9, E9, N9, P9, SF9⟩ hZ
                try dsimp only at hZ
                refine j_w [oB h 11 (mO b (upd (upd (upd (upd v 3 (nI nl9)) 39 (nI ((at1 + (ln nn + ht) * nn) + (ln nn + ht) * nn))) 27 (nI 1)) 28 (nI 0))), bA g (b 2) 1400 G9, bA g (b 4) 32 FO9, iA g (b 5) 64 w9, iA g (b 6) 8 S9, iA g (b 7) 8 fs, iA g (b 8) 64 rt, lA g (b 9) 25 A9, lA g (b 10) 25 T9, lA g (b 11) 5 U9, iA g (b 12) 25 tn, bA g (b 23) 48 sd, bA g (b 0) 600 tp, iA g (b 29) 40 D9, bA g (b 30) 560 E9, bA g (b 31) 112 N9, bA g (b 32) 16 ro, bA g (b 33) 496 N1, bA g (b 34) 32 P9, bA g (b 35) 16 rd, bA g (b 36) 16 M2, iA g (b 37) 8 X4, bA g (b 38) 2000 SF9, bA g (b 40) 96 FRF, bA g (b 41) 16 R1] rfl ?_
                refine j_st [] rfl ?_
                have hO9 : SF9 = putL sg 0 (((MIXED fm nn sd (slice rd 0 nn) (slice tp 0 ntp)) ++ fewS fm nn sd 0 (ix 0) (ix 1) fa (fun i => ix (2 + i)) mk) ++ sigL fm nn sd ht fa mk ix 2) := by rw [hZ.2.2.1, hO8, putL_app' (by rw [List.length_append, List.length_append, hMl, fewS_length (by omega), sigL_length hnn, Nat.zero_add]; omega), oneC_congr (lF_of hRr9), List.append_assoc _ (sigL fm nn sd ht fa mk ix 1)]; rfl
                have hat9 : at1 + (ln nn + ht) * nn + (ln nn + ht) * nn = sgS nn ht lys fa mk := by rw [← hsq, hl2]; omega
                refine j_w [oB h 11 (mO b (upd (upd (upd (upd v 3 (nI nl9)) 39 (nI (sgS nn ht lys fa mk))) 27 (nI 1)) 28 (nI 0))), bA g (b 2) 1400 G9, bA g (b 4) 32 FO9, iA g (b 5) 64 w9, iA g (b 6) 8 S9, iA g (b 7) 8 fs, iA g (b 8) 64 rt, lA g (b 9) 25 A9, lA g (b 10) 25 T9, lA g (b 11) 5 U9, iA g (b 12) 25 tn, bA g (b 23) 48 sd, bA g (b 0) 600 tp, iA g (b 29) 40 D9, bA g (b 30) 560 E9, bA g (b 31) 112 N9, bA g (b 32) 16 ro, bA g (b 33) 496 N1, bA g (b 34) 32 P9, bA g (b 35) 16 rd, bA g (b 36) 16 M2, iA g (b 37) 8 X4, bA g (b 38) 2000 SF9, bA g (b 40) 96 FRF, bA g (b 41) 16 R1] (by rw [hat9]) ?_
                refine j_aload_n hX 1 dX11_signMixed_322 rfl ?_
                refine j_aload_n hX 1 dX11_signMixed_323 rfl ?_
                refine j_get hX in11 11 0 39 (v := .int (nI (sgS nn ht lys fa mk))) rfl rfl (by decide) (List.mem_of_getElem? (i := 2) rfl) rfl rfl dX11_signMixed_324 ?_
                refine j_put hX (v := .int (nI (sgS nn ht lys fa mk))) (ty := .int) in11 tyX11 tyX11_ok nmX11 11 0 25 rfl rfl (by decide) (List.mem_of_getElem? (i := 17) rfl) rfl rfl rfl rfl rfl (Nat.le_of_ble_eq_true rfl) [oB h 11 (mO b (upd (upd (upd (upd (upd v 3 (nI nl9)) 39 (nI (sgS nn ht lys fa mk))) 27 (nI 1)) 28 (nI 0)) 25 (nI (sgS nn ht lys fa mk)))), bA g (b 2) 1400 G9, bA g (b 4) 32 FO9, iA g (b 5) 64 w9, iA g (b 6) 8 S9, iA g (b 7) 8 fs, iA g (b 8) 64 rt, lA g (b 9) 25 A9, lA g (b 10) 25 T9, lA g (b 11) 5 U9, iA g (b 12) 25 tn, bA g (b 23) 48 sd, bA g (b 0) 600 tp, iA g (b 29) 40 D9, bA g (b 30) 560 E9, bA g (b 31) 112 N9, bA g (b 32) 16 ro, bA g (b 33) 496 N1, bA g (b 34) 32 P9, bA g (b 35) 16 rd, bA g (b 36) 16 M2, iA g (b 37) 8 X4, bA g (b 38) 2000 SF9, bA g (b 40) 96 FRF, bA g (b 41) 16 R1] rfl dX11_signMixed_327 ?_
                refine j_aload_n hX 1 dX11_signMixed_330 rfl ?_
                refine j_get hX in11 11 0 39 (v := .int (nI (sgS nn ht lys fa mk))) rfl rfl (by decide) (List.mem_of_getElem? (i := 2) rfl) rfl rfl dX11_signMixed_331 ?_
                refine j_pc 334 rfl ?_
                exact hret (w9, S9, A9, T9, U9, nl9, G9, FO9, 1, 0, sgS nn ht lys fa mk, D9, E9, N9, N1, P9, M2, X4, FRF, R1, SF9) (by dsimp only; exact ⟨hZ.1, ⟨hZ.2.1.1, hZ.2.1.2.1, hN1, hZ.2.1.2.2.1, hM.2.2.1, hFR, hR1⟩, hZ.2.1.2.2.2, by rw [hO9, SIG, ← hixd, SIGI, hl2], hN.2.2⟩) 334 _ .ireturn dX11_signMixed_334 rfl
              · skip
                refine j_aload_n hX 0 dX11_signMixed_269 rfl ?_
                refine j_get hX in11 11 0 41 (v := .ref (b 41)) rfl rfl (by decide) (List.mem_of_getElem? (i := 13) rfl) rfl rfl dX11_signMixed_270 ?_
                refine j_iload_n hX 2 dX11_signMixed_273 rfl ?_
                refine j_aload_n hX 0 dX11_signMixed_274 rfl ?_
                refine j_get hX in11 11 0 31 (v := .ref (b 31)) rfl rfl (by decide) (List.mem_of_getElem? (i := 15) rfl) rfl rfl dX11_signMixed_275 ?_
                refine j_aload_n hX 0 dX11_signMixed_278 rfl ?_
                refine j_aload_n hX 0 dX11_signMixed_279 rfl ?_
                refine j_pc 280 rfl ?_
                refine j_gete hX (nI ht) in11 11 0 17 rfl rfl (by decide) (List.mem_of_getElem? (i := 16) rfl) rfl rfl hv17 dX11_signMixed_280 ?_
                refine j_iconst hX (0) dX11_signMixed_283 (by decide) ?_
                refine j_callV2 hX 2 (c_nodeAt l g h b (upd (upd (upd (upd v 3 (nI nl8)) 39 (nI (at1 + (ln nn + ht) * nn))) 27 (nI 0)) 28 (nI (ix 0))) ht ht 0 hv17 (by omega) (by omega)) gX11_signMixed_X11_nodeAt (by decide +kernel) rfl ⟨rfl, rfl⟩ ⟨Nat.le_of_ble_eq_true rfl, Nat.le_of_ble_eq_true rfl⟩ 11 0 rfl rfl [0] [1, 2, 3, 4, 5, 6, 7, 8, 9, 10, 11, 12, 13, 14, 15, 16, 17, 18, 19, 20, 21, 22, 23, 24] 25 rfl (by decide) (fun jj : Unit => [oB h 11 (mO b (upd (upd (upd (upd v 3 (nI nl8)) 39 (nI (at1 + (ln nn + ht) * nn))) 27 (nI 0)) 28 (nI (ix 0)))), bA g (b 2) 1400 G8, bA g (b 4) 32 FO8, iA g (b 5) 64 w8, iA g (b 6) 8 S8, iA g (b 7) 8 fs, iA g (b 8) 64 rt, lA g (b 9) 25 A8, lA g (b 10) 25 T8, lA g (b 11) 5 U8, iA g (b 12) 25 tn, bA g (b 23) 48 sd, bA g (b 0) 600 tp, iA g (b 29) 40 D8, bA g (b 30) 560 E8, bA g (b 31) 112 N8, bA g (b 32) 16 ro, bA g (b 33) 496 N1, bA g (b 34) 32 P8, bA g (b 35) 16 rd, bA g (b 36) 16 M2, iA g (b 37) 8 X4, bA g (b 38) 2000 SF8, bA g (b 40) 96 FRF, bA g (b 41) 16 R1]) (fun _ => rfl) (by decide) [h, (b 2), (b 4), (b 5), (b 6), (b 7), (b 8), (b 9), (b 10), (b 11), (b 12), (b 23), (b 0), (b 29), (b 30), (b 31), (b 32), (b 33), (b 34), (b 35), (b 36), (b 37), (b 38), (b 40), (b 41)] rfl (fun _ => rfl) (fun _ => rfl) [bA g (b 2) 1400 G8, bA g (b 4) 32 FO8, iA g (b 5) 64 w8, iA g (b 6) 8 S8, iA g (b 7) 8 fs, iA g (b 8) 64 rt, lA g (b 9) 25 A8, lA g (b 10) 25 T8, lA g (b 11) 5 U8, iA g (b 12) 25 tn, bA g (b 23) 48 sd, bA g (b 0) 600 tp, iA g (b 29) 40 D8, bA g (b 30) 560 E8, bA g (b 31) 112 N8, bA g (b 32) 16 ro, bA g (b 33) 496 N1, bA g (b 34) 32 P8, bA g (b 35) 16 rd, bA g (b 36) 16 M2, iA g (b 37) 8 X4, bA g (b 38) 2000 SF8, bA g (b 40) 96 FRF, bA g (b 41) 16 R1] rfl (fun _ => rfl) rfl [.ref (b 31), .int (nI k), .ref (b 41)] rfl (Nat.le_of_ble_eq_true rfl) ⟨Nat.le_refl _, Nat.le_refl _⟩ dX11_signMixed_284 ?_
                intro _ hu_7
                refine j_w [oB h 11 (mO b (upd (upd (upd (upd v 3 (nI nl8)) 39 (nI (at1 + (ln nn + ht) * nn))) 27 (nI 0)) 28 (nI (ix 0)))), bA g (b 2) 1400 G8, bA g (b 4) 32 FO8, iA g (b 5) 64 w8, iA g (b 6) 8 S8, iA g (b 7) 8 fs, iA g (b 8) 64 rt, lA g (b 9) 25 A8, lA g (b 10) 25 T8, lA g (b 11) 5 U8, iA g (b 12) 25 tn, bA g (b 23) 48 sd, bA g (b 0) 600 tp, iA g (b 29) 40 D8, bA g (b 30) 560 E8, bA g (b 31) 112 N8, bA g (b 32) 16 ro, bA g (b 33) 496 N1, bA g (b 34) 32 P8, bA g (b 35) 16 rd, bA g (b 36) 16 M2, iA g (b 37) 8 X4, bA g (b 38) 2000 SF8, bA g (b 40) 96 FRF, bA g (b 41) 16 R1] rfl ?_
                refine j_st [.int (nI (16 * (bfr ht ht + 0))), .ref (b 31), .int (nI k), .ref (b 41)] rfl ?_
                refine j_iload_n hX 2 dX11_signMixed_287 rfl ?_
                refine j_iaddN hX (16 * (bfr ht ht + 0)) k dX11_signMixed_288 ?_
                refine j_baldN hX 15 ((16 * (bfr ht ht + 0)) + k) rfl (by omega) (by omega) dX11_signMixed_289 ?_
                refine j_bastN hX 24 k rfl (by omega) (by omega) [oB h 11 (mO b (upd (upd (upd (upd v 3 (nI nl8)) 39 (nI (at1 + (ln nn + ht) * nn))) 27 (nI 0)) 28 (nI (ix 0)))), bA g (b 2) 1400 G8, bA g (b 4) 32 FO8, iA g (b 5) 64 w8, iA g (b 6) 8 S8, iA g (b 7) 8 fs, iA g (b 8) 64 rt, lA g (b 9) 25 A8, lA g (b 10) 25 T8, lA g (b 11) 5 U8, iA g (b 12) 25 tn, bA g (b 23) 48 sd, bA g (b 0) 600 tp, iA g (b 29) 40 D8, bA g (b 30) 560 E8, bA g (b 31) 112 N8, bA g (b 32) 16 ro, bA g (b 33) 496 N1, bA g (b 34) 32 P8, bA g (b 35) 16 rd, bA g (b 36) 16 M2, iA g (b 37) 8 X4, bA g (b 38) 2000 SF8, bA g (b 40) 96 FRF, bA g (b 41) 16 (upd R1 k (i8 (N8 ((16 * (bfr ht ht + 0)) + k))))] rfl dX11_signMixed_290 ?_
                refine j_iincN hX k (k + 1) [(2, .int (nI (k + 1))), (0, .ref h), (1, .int (nI (ix 1)))] 2 dX11_signMixed_291 rfl (nI_1 _) (by decide) rfl ?_
                refine j_pc 294 rfl ?_
                refine j_goto hX 261 dX11_signMixed_294 (by decide) ?_
                refine j_perm [(0, .ref h), (1, .int (nI (ix 1))), (2, .int (nI (k + 1)))] [1, 2, 0] rfl ?_
                exact ih_6 (k + 1) (upd R1 k (i8 (N8 ((16 * (bfr ht ht + 0)) + k)))) (by omega) (by omega) (isB_upd hR1) (by have h9 := slice_put_step hY.2.1.2.1 hF9; rw [Nat.zero_add] at h9; exact h9)
          refine j_perm [(0, .ref h), (1, .int (nI (ix 1))), (2, .int (nI 0))] [1, 2, 0] rfl ?_
          exact lp_4 _ 0 R7 (Nat.lt_succ_self _) (by omega) hR7 (by rw [slice_zero, putL_nil])
        · skip
          refine j_aload_n hX 0 dX11_signMixed_251 rfl ?_
          refine j_gete hX (nI lys) in11 11 0 18 rfl rfl (by decide) (List.mem_of_getElem? (i := 14) rfl) rfl rfl hv18 dX11_signMixed_252 ?_
          refine j_iconst hX (2) dX11_signMixed_255 (by decide) ?_
          refine j_icmp_neN hX lys 2 322 dX11_signMixed_256 (by decide) (by omega) (by omega) (fun b_256 => ?_) (fun b_256 => absurd b_256 (by omega))
          have hl1 : lys = 1 := by omega
          have hat9 : at1 + (ln nn + ht) * nn = sgS nn ht lys fa mk := by rw [← hsq, hl1]; omega
          refine j_w [oB h 11 (mO b (upd (upd (upd (upd v 3 (nI nl8)) 39 (nI (sgS nn ht lys fa mk))) 27 (nI 0)) 28 (nI (ix 0)))), bA g (b 2) 1400 G8, bA g (b 4) 32 FO8, iA g (b 5) 64 w8, iA g (b 6) 8 S8, iA g (b 7) 8 fs, iA g (b 8) 64 rt, lA g (b 9) 25 A8, lA g (b 10) 25 T8, lA g (b 11) 5 U8, iA g (b 12) 25 tn, bA g (b 23) 48 sd, bA g (b 0) 600 tp, iA g (b 29) 40 D8, bA g (b 30) 560 E8, bA g (b 31) 112 N8, bA g (b 32) 16 ro, bA g (b 33) 496 N1, bA g (b 34) 32 P8, bA g (b 35) 16 rd, bA g (b 36) 16 M2, iA g (b 37) 8 X4, bA g (b 38) 2000 SF8, bA g (b 40) 96 FRF, bA g (b 41) 16 R7] (by rw [hat9]) ?_
          refine j_aload_n hX 0 dX11_signMixed_322 rfl ?_
          refine j_aload_n hX 0 dX11_signMixed_323 rfl ?_
          refine j_get hX in11 11 0 39 (v := .int (nI (sgS nn ht lys fa mk))) rfl rfl (by decide) (List.mem_of_getElem? (i := 2) rfl) rfl rfl dX11_signMixed_324 ?_
          refine j_pc 327 rfl ?_
          refine j_put hX (v := .int (nI (sgS nn ht lys fa mk))) (ty := .int) in11 tyX11 tyX11_ok nmX11 11 0 25 rfl rfl (by decide) (List.mem_of_getElem? (i := 17) rfl) rfl rfl rfl rfl rfl (Nat.le_of_ble_eq_true rfl) [oB h 11 (mO b (upd (upd (upd (upd (upd v 3 (nI nl8)) 39 (nI (sgS nn ht lys fa mk))) 27 (nI 0)) 28 (nI (ix 0))) 25 (nI (sgS nn ht lys fa mk)))), bA g (b 2) 1400 G8, bA g (b 4) 32 FO8, iA g (b 5) 64 w8, iA g (b 6) 8 S8, iA g (b 7) 8 fs, iA g (b 8) 64 rt, lA g (b 9) 25 A8, lA g (b 10) 25 T8, lA g (b 11) 5 U8, iA g (b 12) 25 tn, bA g (b 23) 48 sd, bA g (b 0) 600 tp, iA g (b 29) 40 D8, bA g (b 30) 560 E8, bA g (b 31) 112 N8, bA g (b 32) 16 ro, bA g (b 33) 496 N1, bA g (b 34) 32 P8, bA g (b 35) 16 rd, bA g (b 36) 16 M2, iA g (b 37) 8 X4, bA g (b 38) 2000 SF8, bA g (b 40) 96 FRF, bA g (b 41) 16 R7] rfl dX11_signMixed_327 ?_
          refine j_aload_n hX 0 dX11_signMixed_330 rfl ?_
          refine j_get hX in11 11 0 39 (v := .int (nI (sgS nn ht lys fa mk))) rfl rfl (by decide) (List.mem_of_getElem? (i := 2) rfl) rfl rfl dX11_signMixed_331 ?_
          exact hret (w8, S8, A8, T8, U8, nl8, G8, FO8, 0, ix 0, sgS nn ht lys fa mk, D8, E8, N8, N1, P8, M2, X4, FRF, R7, SF8) (by dsimp only; exact ⟨hY.1, ⟨hY.2.1.1, hY.2.1.2.1, hN1, hY.2.1.2.2.1, hM.2.2.1, hFR, hR7⟩, hY.2.1.2.2.2, by rw [hO8, SIG, ← hixd, SIGI, hl1], hN.2.2⟩) 334 _ .ireturn dX11_signMixed_334 rfl
      · skip
        have him : i < mk := by omega
        have hi6 : i * 2 ^ fa ≤ 96 := Nat.mul_le_mul (show i ≤ 6 by omega) hp16
        have hc16 := hix (2 + i)
        have hcx := hixc i him
        have hbd := few_bd (fa := fa) (n := nn) him
        have hin := mul_step (n := nn) him
        have hic := Nat.mul_comm nn i
        refine j_aload_n hX 0 dX11_signMixed_68 rfl ?_
        refine j_get hX in11 11 0 37 (v := .ref (b 37)) rfl rfl (by decide) (List.mem_of_getElem? (i := 5) rfl) rfl rfl dX11_signMixed_69 ?_
        refine j_iconst hX (2) dX11_signMixed_72 (by decide) ?_
        refine j_iload_n hX 2 dX11_signMixed_73 rfl ?_
        refine j_pc 74 rfl ?_
        refine j_iaddN hX 2 i dX11_signMixed_74 ?_
        refine j_ialdN hX 21 (2 + i) rfl (by omega) (by omega) dX11_signMixed_75 ?_
        refine j_topeq _ (nI (ix (2 + i))) (hxv _ (by omega)) ?_
        refine j_istore_n hX 3 [(3, .int (nI (ix (2 + i)))), (0, .ref h), (1, .int (nI (ix 1))), (2, .int (nI i))] dX11_signMixed_76 rfl (by decide) rfl ?_
        refine j_aload_n hX 1 dX11_signMixed_77 rfl ?_
        refine j_iload_n hX 2 dX11_signMixed_78 rfl ?_
        refine j_iload_n hX 3 dX11_signMixed_79 rfl ?_
        refine j_callV2 hX 2 (c_growFew l g h b (upd (upd (upd (upd v 3 (nI nl)) 39 (nI at1)) 27 (nI 0)) 28 (nI (ix 0))) nl G FO w1 S1 fs rt A1 T1 U1 tn sd fm nn 0 (ix 0) fa P1 N1 (ix 1) i hv15 hv16 rfl rfl (by omega) (by omega) hB hfs hrt htn rfl (by omega) hv19 (by omega) hP1 hN1 (by omega)) gX11_signMixed_X11_growFew (by decide +kernel) rfl ⟨rfl, rfl⟩ ⟨Nat.le_of_ble_eq_true rfl, Nat.le_of_ble_eq_true rfl⟩ 11 0 rfl rfl [0, 1, 2, 3, 4, 5, 6, 7, 8, 9, 10, 11, 18, 17] [12, 13, 14, 15, 16, 19, 20, 21, 22, 23, 24] 25 rfl (by decide) (fun jj : (Nat → Int32) × (Nat → Int32) × (Nat → Int64) × (Nat → Int64) × (Nat → Int64) × Nat × (Nat → Int32) × (Nat → Int32) × (Nat → Int32) × (Nat → Int32) => [oB h 11 (mO b (upd (upd (upd (upd v 3 (nI jj.2.2.2.2.2.1)) 39 (nI at1)) 27 (nI 0)) 28 (nI (ix 0)))), bA g (b 2) 1400 jj.2.2.2.2.2.2.1, bA g (b 4) 32 jj.2.2.2.2.2.2.2.1, iA g (b 5) 64 jj.1, iA g (b 6) 8 jj.2.1, iA g (b 7) 8 fs, iA g (b 8) 64 rt, lA g (b 9) 25 jj.2.2.1, lA g (b 10) 25 jj.2.2.2.1, lA g (b 11) 5 jj.2.2.2.2.1, iA g (b 12) 25 tn, bA g (b 23) 48 sd, bA g (b 0) 600 tp, iA g (b 29) 40 D0, bA g (b 30) 560 e0, bA g (b 31) 112 nd, bA g (b 32) 16 ro, bA g (b 33) 496 jj.2.2.2.2.2.2.2.2.2, bA g (b 34) 32 jj.2.2.2.2.2.2.2.2.1, bA g (b 35) 16 rd, bA g (b 36) 16 M2, iA g (b 37) 8 X4, bA g (b 38) 2000 SGF, bA g (b 40) 96 FRF, bA g (b 41) 16 rw]) (fun _ => rfl) (by decide) [h, (b 2), (b 4), (b 5), (b 6), (b 7), (b 8), (b 9), (b 10), (b 11), (b 12), (b 23), (b 0), (b 29), (b 30), (b 31), (b 32), (b 33), (b 34), (b 35), (b 36), (b 37), (b 38), (b 40), (b 41)] rfl (fun _ => rfl) (fun _ => rfl) [bA g (b 0) 600 tp, iA g (b 29) 40 D0, bA g (b 30) 560 e0, bA g (b 31) 112 nd, bA g (b 32) 16 ro, bA g (b 35) 16 rd, bA g (b 36) 16 M2, iA g (b 37) 8 X4, bA g (b 38) 2000 SGF, bA g (b 40) 96 FRF, bA g (b 41) 16 rw] rfl (fun _ => rfl) rfl [] rfl (Nat.le_of_ble_eq_true rfl) ⟨Nat.le_refl _, Nat.le_refl _⟩ dX11_signMixed_80 ?_
        rintro ⟨w5, S5, A5, T5, U5, nl5, G5, FO5, P5, N5⟩ hG
        try dsimp only at hG
        refine j_w [oB h 11 (mO b (upd (upd (upd (upd v 3 (nI nl5)) 39 (nI at1)) 27 (nI 0)) 28 (nI (ix 0)))), bA g (b 2) 1400 G5, bA g (b 4) 32 FO5, iA g (b 5) 64 w5, iA g (b 6) 8 S5, iA g (b 7) 8 fs, iA g (b 8) 64 rt, lA g (b 9) 25 A5, lA g (b 10) 25 T5, lA g (b 11) 5 U5, iA g (b 12) 25 tn, bA g (b 23) 48 sd, bA g (b 0) 600 tp, iA g (b 29) 40 D0, bA g (b 30) 560 e0, bA g (b 31) 112 nd, bA g (b 32) 16 ro, bA g (b 33) 496 N5, bA g (b 34) 32 P5, bA g (b 35) 16 rd, bA g (b 36) 16 M2, iA g (b 37) 8 X4, bA g (b 38) 2000 SGF, bA g (b 40) 96 FRF, bA g (b 41) 16 rw] rfl ?_
        refine j_st [] rfl ?_
        refine j_aload_n hX 1 dX11_signMixed_83 rfl ?_
        refine j_pc 84 rfl ?_
        refine j_bipush hX (6) dX11_signMixed_84 (by decide) ?_
        refine j_iload_n hX 2 dX11_signMixed_86 rfl ?_
        refine j_iconst hX (0) dX11_signMixed_87 (by decide) ?_
        refine j_iload_n hX 3 dX11_signMixed_88 rfl ?_
        refine j_aload_n hX 1 dX11_signMixed_89 rfl ?_
        refine j_gete hX (nI fa) in11 11 0 19 rfl rfl (by decide) (List.mem_of_getElem? (i := 8) rfl) rfl rfl hv19 dX11_signMixed_90 ?_
        refine j_ishlN hX i fa (by omega) (by omega) dX11_signMixed_93 ?_
        refine j_iload_n hX 0 dX11_signMixed_94 rfl ?_
        refine j_pc 95 rfl ?_
        refine j_iaddN hX (i * 2 ^ fa) (ix (2 + i)) dX11_signMixed_95 ?_
        refine j_aload_n hX 1 dX11_signMixed_96 rfl ?_
        refine j_get hX in11 11 0 34 (v := .ref (b 34)) rfl rfl (by decide) (List.mem_of_getElem? (i := 9) rfl) rfl rfl dX11_signMixed_97 ?_
        refine j_iconst hX (0) dX11_signMixed_100 (by decide) ?_
        refine j_callV2 hX 6 (c_secret l g h b (upd (upd (upd (upd v 3 (nI nl5)) 39 (nI at1)) 27 (nI 0)) 28 (nI (ix 0))) G5 FO5 w5 S5 fs rt A5 T5 U5 tn sd fm nn 0 (ix 0) 6 (ix 1) 0 ((i * 2 ^ fa) + (ix (2 + i))) (b 34) 32 P5 0 hv15 hv16 rfl rfl (by omega) (by omega) hB hfs hrt htn (by omega) (by omega)) gX11_signMixed_X11_secret (by decide +kernel) rfl ⟨rfl, rfl⟩ ⟨Nat.le_of_ble_eq_true rfl, Nat.le_of_ble_eq_true rfl⟩ 11 0 rfl rfl [0, 1, 2, 3, 4, 5, 6, 7, 8, 9, 10, 11, 18] [12, 13, 14, 15, 16, 17, 19, 20, 21, 22, 23, 24] 25 rfl (by decide) (fun jj : (Nat → Int32) × (Nat → Int32) × (Nat → Int64) × (Nat → Int64) × (Nat → Int64) × Nat × (Nat → Int32) × (Nat → Int32) × (Nat → Int32) => [oB h 11 (mO b (upd (upd (upd (upd v 3 (nI jj.2.2.2.2.2.1)) 39 (nI at1)) 27 (nI 0)) 28 (nI (ix 0)))), bA g (b 2) 1400 jj.2.2.2.2.2.2.1, bA g (b 4) 32 jj.2.2.2.2.2.2.2.1, iA g (b 5) 64 jj.1, iA g (b 6) 8 jj.2.1, iA g (b 7) 8 fs, iA g (b 8) 64 rt, lA g (b 9) 25 jj.2.2.1, lA g (b 10) 25 jj.2.2.2.1, lA g (b 11) 5 jj.2.2.2.2.1, iA g (b 12) 25 tn, bA g (b 23) 48 sd, bA g (b 0) 600 tp, iA g (b 29) 40 D0, bA g (b 30) 560 e0, bA g (b 31) 112 nd, bA g (b 32) 16 ro, bA g (b 33) 496 N5, bA g (b 34) 32 jj.2.2.2.2.2.2.2.2, bA g (b 35) 16 rd, bA g (b 36) 16 M2, iA g (b 37) 8 X4, bA g (b 38) 2000 SGF, bA g (b 40) 96 FRF, bA g (b 41) 16 rw]) (fun _ => rfl) (by decide) [h, (b 2), (b 4), (b 5), (b 6), (b 7), (b 8), (b 9), (b 10), (b 11), (b 12), (b 23), (b 0), (b 29), (b 30), (b 31), (b 32), (b 33), (b 34), (b 35), (b 36), (b 37), (b 38), (b 40), (b 41)] rfl (fun _ => rfl) (fun _ => rfl) [bA g (b 0) 600 tp, iA g (b 29) 40 D0, bA g (b 30) 560 e0, bA g (b 31) 112 nd, bA g (b 32) 16 ro, bA g (b 33) 496 N5, bA g (b 35) 16 rd, bA g (b 36) 16 M2, iA g (b 37) 8 X4, bA g (b 38) 2000 SGF, bA g (b 40) 96 FRF, bA g (b 41) 16 rw] rfl (fun _ => rfl) rfl [] rfl (Nat.le_of_ble_eq_true rfl) ⟨Nat.le_refl _, Nat.le_refl _⟩ dX11_signMixed_101 ?_
        rintro ⟨w6, S6, A6, T6, U6, nl6, G6, FO6, P6⟩ hS
        try dsimp only at hS
        refine j_w [oB h 11 (mO b (upd (upd (upd (upd v 3 (nI nl6)) 39 (nI at1)) 27 (nI 0)) 28 (nI (ix 0)))), bA g (b 2) 1400 G6, bA g (b 4) 32 FO6, iA g (b 5) 64 w6, iA g (b 6) 8 S6, iA g (b 7) 8 fs, iA g (b 8) 64 rt, lA g (b 9) 25 A6, lA g (b 10) 25 T6, lA g (b 11) 5 U6, iA g (b 12) 25 tn, bA g (b 23) 48 sd, bA g (b 0) 600 tp, iA g (b 29) 40 D0, bA g (b 30) 560 e0, bA g (b 31) 112 nd, bA g (b 32) 16 ro, bA g (b 33) 496 N5, bA g (b 34) 32 P6, bA g (b 35) 16 rd, bA g (b 36) 16 M2, iA g (b 37) 8 X4, bA g (b 38) 2000 SGF, bA g (b 40) 96 FRF, bA g (b 41) 16 rw] rfl ?_
        refine j_st [] rfl ?_
        have hP6 : isB P6 := by rw [hS.2]; exact putL_B hG.2.1 (TT_B _ _ _ _ _ _ _ _ _ _)
        refine j_aload_n hX 1 dX11_signMixed_104 rfl ?_
        refine j_aload_n hX 1 dX11_signMixed_105 rfl ?_
        refine j_get hX in11 11 0 34 (v := .ref (b 34)) rfl rfl (by decide) (List.mem_of_getElem? (i := 9) rfl) rfl rfl dX11_signMixed_106 ?_
        refine j_pc 109 rfl ?_
        refine j_iconst hX (0) dX11_signMixed_109 (by decide) ?_
        refine j_callV2 hX 2 (c_mput l g h b (upd (upd (upd (upd v 3 (nI nl6)) 39 (nI at1)) 27 (nI 0)) 28 (nI (ix 0))) nn at1 (b 34) 32 P6 SGF 0 hv16 rfl (by omega) (by omega) (by omega) (by omega) hP6) gX11_signMixed_X11_put (by decide +kernel) rfl ⟨rfl, rfl⟩ ⟨Nat.le_of_ble_eq_true rfl, Nat.le_of_ble_eq_true rfl⟩ 11 0 rfl rfl [0, 18, 22] [1, 2, 3, 4, 5, 6, 7, 8, 9, 10, 11, 12, 13, 14, 15, 16, 17, 19, 20, 21, 23, 24] 25 rfl (by decide) (fun jj : (Nat → Int32) => [oB h 11 (mO b (upd (upd (upd (upd v 3 (nI nl6)) 39 (nI (at1 + nn))) 27 (nI 0)) 28 (nI (ix 0)))), bA g (b 2) 1400 G6, bA g (b 4) 32 FO6, iA g (b 5) 64 w6, iA g (b 6) 8 S6, iA g (b 7) 8 fs, iA g (b 8) 64 rt, lA g (b 9) 25 A6, lA g (b 10) 25 T6, lA g (b 11) 5 U6, iA g (b 12) 25 tn, bA g (b 23) 48 sd, bA g (b 0) 600 tp, iA g (b 29) 40 D0, bA g (b 30) 560 e0, bA g (b 31) 112 nd, bA g (b 32) 16 ro, bA g (b 33) 496 N5, bA g (b 34) 32 P6, bA g (b 35) 16 rd, bA g (b 36) 16 M2, iA g (b 37) 8 X4, bA g (b 38) 2000 jj, bA g (b 40) 96 FRF, bA g (b 41) 16 rw]) (fun _ => rfl) (by decide) [h, (b 2), (b 4), (b 5), (b 6), (b 7), (b 8), (b 9), (b 10), (b 11), (b 12), (b 23), (b 0), (b 29), (b 30), (b 31), (b 32), (b 33), (b 34), (b 35), (b 36), (b 37), (b 38), (b 40), (b 41)] rfl (fun _ => rfl) (fun _ => rfl) [bA g (b 2) 1400 G6, bA g (b 4) 32 FO6, iA g (b 5) 64 w6, iA g (b 6) 8 S6, iA g (b 7) 8 fs, iA g (b 8) 64 rt, lA g (b 9) 25 A6, lA g (b 10) 25 T6, lA g (b 11) 5 U6, iA g (b 12) 25 tn, bA g (b 23) 48 sd, bA g (b 0) 600 tp, iA g (b 29) 40 D0, bA g (b 30) 560 e0, bA g (b 31) 112 nd, bA g (b 32) 16 ro, bA g (b 33) 496 N5, bA g (b 35) 16 rd, bA g (b 36) 16 M2, iA g (b 37) 8 X4, bA g (b 40) 96 FRF, bA g (b 41) 16 rw] rfl (fun _ => rfl) rfl [] rfl (Nat.le_of_ble_eq_true rfl) ⟨Nat.le_refl _, Nat.le_refl _⟩ dX11_signMixed_110 ?_
        intro SG7 hT
        try dsimp only at hT
        refine j_w [oB h 11 (mO b (upd (upd (upd (upd v 3 (nI nl6)) 39 (nI (at1 + nn))) 27 (nI 0)) 28 (nI (ix 0)))), bA g (b 2) 1400 G6, bA g (b 4) 32 FO6, iA g (b 5) 64 w6, iA g (b 6) 8 S6, iA g (b 7) 8 fs, iA g (b 8) 64 rt, lA g (b 9) 25 A6, lA g (b 10) 25 T6, lA g (b 11) 5 U6, iA g (b 12) 25 tn, bA g (b 23) 48 sd, bA g (b 0) 600 tp, iA g (b 29) 40 D0, bA g (b 30) 560 e0, bA g (b 31) 112 nd, bA g (b 32) 16 ro, bA g (b 33) 496 N5, bA g (b 34) 32 P6, bA g (b 35) 16 rd, bA g (b 36) 16 M2, iA g (b 37) 8 X4, bA g (b 38) 2000 SG7, bA g (b 40) 96 FRF, bA g (b 41) 16 rw] rfl ?_
        refine j_st [] rfl ?_
        have hSG7 : isB SG7 := by rw [hT]; exact putL_B hSF (slice_B hP6 _ _)
        rw [hS.2, slice_put (by rw [secT_length (by omega)])] at hT
        refine j_iconst hX (0) dX11_signMixed_113 (by decide) ?_
        refine j_st [.int (nI 0)] rfl ?_
        refine j_istore hX [(4, .int (nI 0)), (3, .int (nI (ix (2 + i)))), (0, .ref h), (1, .int (nI (ix 1))), (2, .int (nI i))] dX11_signMixed_114 (by decide) rfl ?_
        have lp_8 : ∀ (n_9 : Nat) (z : Nat) (at2 : Nat) (SG2 : Nat → Int32), (fa - z < n_9) → (z ≤ fa) → (isB SG2) → (at2 = nn + i * ((fa + 1) * nn) + nn + z * nn) → (SG2 = putL sg 0 (((MIXED fm nn sd (slice rd 0 nn) (slice tp 0 ntp)) ++ fewS fm nn sd 0 (ix 0) (ix 1) fa (fun i => ix (2 + i)) i) ++ (secT fm nn sd 0 (ix 0) 6 (ix 1) 0 (i * 2 ^ fa + ix (2 + i)) ++ pth fm nn sd 0 (ix 0) 3 (ix 1) (FLF fm nn sd 0 (ix 0) (ix 1)) (i * 2 ^ fa + ix (2 + i)) z))) → J p l e ({ frames := 9, cells := 0, slots := 0, locals := 217 } : Room) s m ([.ref h] : List Value).toArray below meth c g A 5 Q 0 0 [oB h 11 (mO b (upd (upd (upd (upd v 3 (nI nl6)) 39 (nI at2)) 27 (nI 0)) 28 (nI (ix 0)))), bA g (b 2) 1400 G6, bA g (b 4) 32 FO6, iA g (b 5) 64 w6, iA g (b 6) 8 S6, iA g (b 7) 8 fs, iA g (b 8) 64 rt, lA g (b 9) 25 A6, lA g (b 10) 25 T6, lA g (b 11) 5 U6, iA g (b 12) 25 tn, bA g (b 23) 48 sd, bA g (b 0) 600 tp, iA g (b 29) 40 D0, bA g (b 30) 560 e0, bA g (b 31) 112 nd, bA g (b 32) 16 ro, bA g (b 33) 496 N5, bA g (b 34) 32 P6, bA g (b 35) 16 rd, bA g (b 36) 16 M2, iA g (b 37) 8 X4, bA g (b 38) 2000 SG2, bA g (b 40) 96 FRF, bA g (b 41) 16 rw] [(0, .ref h), (1, .int (nI (ix 1))), (2, .int (nI i)), (3, .int (nI (ix (2 + i)))), (4, .int (nI z))] 116 [] := by
          intro n_9
          induction n_9 with
          | zero => intro z at2 SG2 hm; exact absurd hm (Nat.not_lt_zero _)
          | succ n_9 ih_10 =>
            intro z at2 SG2 hm hz hSF2 hat2 hO2
            refine j_iload hX 4 dX11_signMixed_116 rfl ?_
            refine j_aload_n hX 0 dX11_signMixed_118 rfl ?_
            refine j_gete hX (nI fa) in11 11 0 19 rfl rfl (by decide) (List.mem_of_getElem? (i := 8) rfl) rfl rfl hv19 dX11_signMixed_119 ?_
            refine j_icmp_geN hX z fa 151 dX11_signMixed_122 (by decide) (by omega) (by omega) (fun b_122 => ?_) (fun b_122 => ?_)
            · skip
              have hza : z = fa := by omega
              rw [hza] at hat2 hO2
              have hcc0 := bfr_cap (h := fa) (z := fa) (i := 0) (Nat.le_refl _) (Nat.two_pow_pos _)
              refine j_pc 151 rfl ?_
              refine j_iconst hX (0) dX11_signMixed_151 (by decide) ?_
              refine j_st [.int (nI 0)] rfl ?_
              refine j_istore hX [(4, .int (nI 0)), (0, .ref h), (1, .int (nI (ix 1))), (2, .int (nI i)), (3, .int (nI (ix (2 + i))))] dX11_signMixed_152 (by decide) rfl ?_
              have lp_11 : ∀ (n_12 : Nat) (k : Nat) (FR2 : Nat → Int32), (nn - k < n_12) → (k ≤ nn) → (isB FR2) → (FR2 = putL FRF (nn * i) (slice N5 (16 * (bfr fa fa + 0)) k)) → J p l e ({ frames := 9, cells := 0, slots := 0, locals := 217 } : Room) s m ([.ref h] : List Value).toArray below meth c g A 5 Q 0 0 [oB h 11 (mO b (upd (upd (upd (upd v 3 (nI nl6)) 39 (nI at2)) 27 (nI 0)) 28 (nI (ix 0)))), bA g (b 2) 1400 G6, bA g (b 4) 32 FO6, iA g (b 5) 64 w6, iA g (b 6) 8 S6, iA g (b 7) 8 fs, iA g (b 8) 64 rt, lA g (b 9) 25 A6, lA g (b 10) 25 T6, lA g (b 11) 5 U6, iA g (b 12) 25 tn, bA g (b 23) 48 sd, bA g (b 0) 600 tp, iA g (b 29) 40 D0, bA g (b 30) 560 e0, bA g (b 31) 112 nd, bA g (b 32) 16 ro, bA g (b 33) 496 N5, bA g (b 34) 32 P6, bA g (b 35) 16 rd, bA g (b 36) 16 M2, iA g (b 37) 8 X4, bA g (b 38) 2000 SG2, bA g (b 40) 96 FR2, bA g (b 41) 16 rw] [(0, .ref h), (1, .int (nI (ix 1))), (2, .int (nI i)), (3, .int (nI (ix (2 + i)))), (4, .int (nI k))] 154 [] := by
                intro n_12
                induction n_12 with
                | zero => intro k FR2 hm; exact absurd hm (Nat.not_lt_zero _)
                | succ n_12 ih_13 =>
                  intro k FR2 hm hk hFR2 hF2
                  refine j_iload hX 4 dX11_signMixed_154 rfl ?_
                  refine j_aload_n hX 0 dX11_signMixed_156 rfl ?_
                  refine j_gete hX (nI nn) in11 11 0 16 rfl rfl (by decide) (List.mem_of_getElem? (i := 11) rfl) rfl rfl hv16 dX11_signMixed_157 ?_
                  refine j_icmp_geN hX k nn 200 dX11_signMixed_160 (by decide) (by omega) (by omega) (fun b_160 => ?_) (fun b_160 => ?_)
                  · skip
                    refine j_iincN hX i (i + 1) [(2, .int (nI (i + 1))), (0, .ref h), (1, .int (nI (ix 1))), (3, .int (nI (ix (2 + i)))), (4, .int (nI k))] 2 dX11_signMixed_200 rfl (nI_1 _) (by decide) rfl ?_
                    refine j_goto hX 60 dX11_signMixed_203 (by decide) ?_
                    refine j_perm [(0, .ref h), (1, .int (nI (ix 1))), (2, .int (nI (i + 1)))] [1, 2, 0] rfl ?_
                    exact ih_3 (i + 1) w6 S6 A6 T6 U6 nl6 G6 FO6 P6 N5 at2 SG2 FR2 (by omega) (by omega) hS.1 hP6 hG.2.2.1 hSF2 hFR2 (by rw [hat2, Nat.succ_mul i, Nat.succ_mul fa]; omega) (by rw [hO2, List.append_assoc (MIXED fm nn sd (slice rd 0 nn) (slice tp 0 ntp))]; rfl) (by rw [hF2, show k = nn by omega, hG.2.2.2 fa 0 (Nat.le_refl _) (Nat.two_pow_pos _), hT1, putL_app' (by rw [fewTp_length (by omega), Nat.zero_add]; exact hic), Nat.sub_self, Nat.pow_zero, Nat.mul_one, Nat.add_zero]; rfl)
                  · skip
                    refine j_pc 163 rfl ?_
                    refine j_aload_n hX 0 dX11_signMixed_163 rfl ?_
                    refine j_get hX in11 11 0 40 (v := .ref (b 40)) rfl rfl (by decide) (List.mem_of_getElem? (i := 12) rfl) rfl rfl dX11_signMixed_164 ?_
                    refine j_aload_n hX 0 dX11_signMixed_167 rfl ?_
                    refine j_gete hX (nI nn) in11 11 0 16 rfl rfl (by decide) (List.mem_of_getElem? (i := 11) rfl) rfl rfl hv16 dX11_signMixed_168 ?_
                    refine j_iload_n hX 2 dX11_signMixed_171 rfl ?_
                    refine j_imulN hX nn i dX11_signMixed_172 ?_
                    refine j_iload hX 4 dX11_signMixed_173 rfl ?_
                    refine j_iaddN hX (nn * i) k dX11_signMixed_175 ?_
                    refine j_pc 176 rfl ?_
                    refine j_aload_n hX 0 dX11_signMixed_176 rfl ?_
                    refine j_get hX in11 11 0 33 (v := .ref (b 33)) rfl rfl (by decide) (List.mem_of_getElem? (i := 10) rfl) rfl rfl dX11_signMixed_177 ?_
                    refine j_aload_n hX 0 dX11_signMixed_180 rfl ?_
                    refine j_aload_n hX 0 dX11_signMixed_181 rfl ?_
                    refine j_gete hX (nI fa) in11 11 0 19 rfl rfl (by decide) (List.mem_of_getElem? (i := 8) rfl) rfl rfl hv19 dX11_signMixed_182 ?_
                    refine j_iconst hX (0) dX11_signMixed_185 (by decide) ?_
                    refine j_callV2 hX 2 (c_fewAt l g h b (upd (upd (upd (upd v 3 (nI nl6)) 39 (nI at2)) 27 (nI 0)) 28 (nI (ix 0))) fa fa 0 hv19 (by omega) (by omega)) gX11_signMixed_X11_fewAt (by decide +kernel) rfl ⟨rfl, rfl⟩ ⟨Nat.le_of_ble_eq_true rfl, Nat.le_of_ble_eq_true rfl⟩ 11 0 rfl rfl [0] [1, 2, 3, 4, 5, 6, 7, 8, 9, 10, 11, 12, 13, 14, 15, 16, 17, 18, 19, 20, 21, 22, 23, 24] 25 rfl (by decide) (fun jj : Unit => [oB h 11 (mO b (upd (upd (upd (upd v 3 (nI nl6)) 39 (nI at2)) 27 (nI 0)) 28 (nI (ix 0)))), bA g (b 2) 1400 G6, bA g (b 4) 32 FO6, iA g (b 5) 64 w6, iA g (b 6) 8 S6, iA g (b 7) 8 fs, iA g (b 8) 64 rt, lA g (b 9) 25 A6, lA g (b 10) 25 T6, lA g (b 11) 5 U6, iA g (b 12) 25 tn, bA g (b 23) 48 sd, bA g (b 0) 600 tp, iA g (b 29) 40 D0, bA g (b 30) 560 e0, bA g (b 31) 112 nd, bA g (b 32) 16 ro, bA g (b 33) 496 N5, bA g (b 34) 32 P6, bA g (b 35) 16 rd, bA g (b 36) 16 M2, iA g (b 37) 8 X4, bA g (b 38) 2000 SG2, bA g (b 40) 96 FR2, bA g (b 41) 16 rw]) (fun _ => rfl) (by decide) [h, (b 2), (b 4), (b 5), (b 6), (b 7), (b 8), (b 9), (b 10), (b 11), (b 12), (b 23), (b 0), (b 29), (b 30), (b 31), (b 32), (b 33), (b 34), (b 35), (b 36), (b 37), (b 38), (b 40), (b 41)] rfl (fun _ => rfl) (fun _ => rfl) [bA g (b 2) 1400 G6, bA g (b 4) 32 FO6, iA g (b 5) 64 w6, iA g (b 6) 8 S6, iA g (b 7) 8 fs, iA g (b 8) 64 rt, lA g (b 9) 25 A6, lA g (b 10) 25 T6, lA g (b 11) 5 U6, iA g (b 12) 25 tn, bA g (b 23) 48 sd, bA g (b 0) 600 tp, iA g (b 29) 40 D0, bA g (b 30) 560 e0, bA g (b 31) 112 nd, bA g (b 32) 16 ro, bA g (b 33) 496 N5, bA g (b 34) 32 P6, bA g (b 35) 16 rd, bA g (b 36) 16 M2, iA g (b 37) 8 X4, bA g (b 38) 2000 SG2, bA g (b 40) 96 FR2, bA g (b 41) 16 rw] rfl (fun _ => rfl) rfl [.ref (b 33), .int (nI ((nn * i) + k)), .ref (b 40)] rfl (Nat.le_of_ble_eq_true rfl) ⟨Nat.le_refl _, Nat.le_refl _⟩ dX11_signMixed_186 ?_
                    intro _ hu_14
                    refine j_w [oB h 11 (mO b (upd (upd (upd (upd v 3 (nI nl6)) 39 (nI at2)) 27 (nI 0)) 28 (nI (ix 0)))), bA g (b 2) 1400 G6, bA g (b 4) 32 FO6, iA g (b 5) 64 w6, iA g (b 6) 8 S6, iA g (b 7) 8 fs, iA g (b 8) 64 rt, lA g (b 9) 25 A6, lA g (b 10) 25 T6, lA g (b 11) 5 U6, iA g (b 12) 25 tn, bA g (b 23) 48 sd, bA g (b 0) 600 tp, iA g (b 29) 40 D0, bA g (b 30) 560 e0, bA g (b 31) 112 nd, bA g (b 32) 16 ro, bA g (b 33) 496 N5, bA g (b 34) 32 P6, bA g (b 35) 16 rd, bA g (b 36) 16 M2, iA g (b 37) 8 X4, bA g (b 38) 2000 SG2, bA g (b 40) 96 FR2, bA g (b 41) 16 rw] rfl ?_
                    refine j_st [.int (nI (16 * (bfr fa fa + 0))), .ref (b 33), .int (nI ((nn * i) + k)), .ref (b 40)] rfl ?_
                    refine j_iload hX 4 dX11_signMixed_189 rfl ?_
                    refine j_pc 191 rfl ?_
                    refine j_iaddN hX (16 * (bfr fa fa + 0)) k dX11_signMixed_191 ?_
                    refine j_baldN hX 17 ((16 * (bfr fa fa + 0)) + k) rfl (by omega) (by omega) dX11_signMixed_192 ?_
                    refine j_bastN hX 23 ((nn * i) + k) rfl (by omega) (by omega) [oB h 11 (mO b (upd (upd (upd (upd v 3 (nI nl6)) 39 (nI at2)) 27 (nI 0)) 28 (nI (ix 0)))), bA g (b 2) 1400 G6, bA g (b 4) 32 FO6, iA g (b 5) 64 w6, iA g (b 6) 8 S6, iA g (b 7) 8 fs, iA g (b 8) 64 rt, lA g (b 9) 25 A6, lA g (b 10) 25 T6, lA g (b 11) 5 U6, iA g (b 12) 25 tn, bA g (b 23) 48 sd, bA g (b 0) 600 tp, iA g (b 29) 40 D0, bA g (b 30) 560 e0, bA g (b 31) 112 nd, bA g (b 32) 16 ro, bA g (b 33) 496 N5, bA g (b 34) 32 P6, bA g (b 35) 16 rd, bA g (b 36) 16 M2, iA g (b 37) 8 X4, bA g (b 38) 2000 SG2, bA g (b 40) 96 (upd FR2 ((nn * i) + k) (i8 (N5 ((16 * (bfr fa fa + 0)) + k)))), bA g (b 41) 16 rw] rfl dX11_signMixed_193 ?_
                    refine j_iincN hX k (k + 1) [(4, .int (nI (k + 1))), (0, .ref h), (1, .int (nI (ix 1))), (2, .int (nI i)), (3, .int (nI (ix (2 + i))))] 4 dX11_signMixed_194 rfl (nI_1 _) (by decide) rfl ?_
                    refine j_goto hX 154 dX11_signMixed_197 (by decide) ?_
                    refine j_perm [(0, .ref h), (1, .int (nI (ix 1))), (2, .int (nI i)), (3, .int (nI (ix (2 + i)))), (4, .int (nI (k + 1)))] [1, 2, 3, 4, 0] rfl ?_
                    exact ih_13 (k + 1) (upd FR2 ((nn * i) + k) (i8 (N5 ((16 * (bfr fa fa + 0)) + k)))) (by omega) (by omega) (isB_upd hFR2) (slice_put_step hG.2.2.1 hF2)
              refine j_perm [(0, .ref h), (1, .int (nI (ix 1))), (2, .int (nI i)), (3, .int (nI (ix (2 + i)))), (4, .int (nI 0))] [1, 2, 3, 4, 0] rfl ?_
              exact lp_11 _ 0 FRF (Nat.lt_succ_self _) (by omega) hFR (by rw [slice_zero, putL_nil])
            · skip
              have hzl : z < fa := by omega
              have hsb := sib_bd hcx hzl
              have hzn := mul_step (n := nn) hzl
              have hdz := Nat.div_le_self (ix (2 + i)) (2 ^ z)
              have hcc := bfr_cap (h := fa) (z := z) (i := sib (ix (2 + i) / 2 ^ z)) (by omega) hsb
              refine j_aload_n hX 0 dX11_signMixed_125 rfl ?_
              refine j_aload_n hX 0 dX11_signMixed_126 rfl ?_
              refine j_get hX in11 11 0 33 (v := .ref (b 33)) rfl rfl (by decide) (List.mem_of_getElem? (i := 10) rfl) rfl rfl dX11_signMixed_127 ?_
              refine j_pc 130 rfl ?_
              refine j_aload_n hX 0 dX11_signMixed_130 rfl ?_
              refine j_iload hX 4 dX11_signMixed_131 rfl ?_
              refine j_iload_n hX 3 dX11_signMixed_133 rfl ?_
              refine j_iload hX 4 dX11_signMixed_134 rfl ?_
              refine j_ishrN hX (ix (2 + i)) z (by omega) (by omega) dX11_signMixed_136 ?_
              refine j_iconst hX (1) dX11_signMixed_137 (by decide) ?_
              refine j_ixor hX dX11_signMixed_138 ?_
              refine j_topeq _ (nI (sib (ix (2 + i) / 2 ^ z))) (sib_I (by omega)) ?_
              refine j_callV2 hX 2 (c_fewAt l g h b (upd (upd (upd (upd v 3 (nI nl6)) 39 (nI at2)) 27 (nI 0)) 28 (nI (ix 0))) fa z (sib (ix (2 + i) / 2 ^ z)) hv19 (by omega) (by omega)) gX11_signMixed_X11_fewAt (by decide +kernel) rfl ⟨rfl, rfl⟩ ⟨Nat.le_of_ble_eq_true rfl, Nat.le_of_ble_eq_true rfl⟩ 11 0 rfl rfl [0] [1, 2, 3, 4, 5, 6, 7, 8, 9, 10, 11, 12, 13, 14, 15, 16, 17, 18, 19, 20, 21, 22, 23, 24] 25 rfl (by decide) (fun jj : Unit => [oB h 11 (mO b (upd (upd (upd (upd v 3 (nI nl6)) 39 (nI at2)) 27 (nI 0)) 28 (nI (ix 0)))), bA g (b 2) 1400 G6, bA g (b 4) 32 FO6, iA g (b 5) 64 w6, iA g (b 6) 8 S6, iA g (b 7) 8 fs, iA g (b 8) 64 rt, lA g (b 9) 25 A6, lA g (b 10) 25 T6, lA g (b 11) 5 U6, iA g (b 12) 25 tn, bA g (b 23) 48 sd, bA g (b 0) 600 tp, iA g (b 29) 40 D0, bA g (b 30) 560 e0, bA g (b 31) 112 nd, bA g (b 32) 16 ro, bA g (b 33) 496 N5, bA g (b 34) 32 P6, bA g (b 35) 16 rd, bA g (b 36) 16 M2, iA g (b 37) 8 X4, bA g (b 38) 2000 SG2, bA g (b 40) 96 FRF, bA g (b 41) 16 rw]) (fun _ => rfl) (by decide) [h, (b 2), (b 4), (b 5), (b 6), (b 7), (b 8), (b 9), (b 10), (b 11), (b 12), (b 23), (b 0), (b 29), (b 30), (b 31), (b 32), (b 33), (b 34), (b 35), (b 36), (b 37), (b 38), (b 40), (b 41)] rfl (fun _ => rfl) (fun _ => rfl) [bA g (b 2) 1400 G6, bA g (b 4) 32 FO6, iA g (b 5) 64 w6, iA g (b 6) 8 S6, iA g (b 7) 8 fs, iA g (b 8) 64 rt, lA g (b 9) 25 A6, lA g (b 10) 25 T6, lA g (b 11) 5 U6, iA g (b 12) 25 tn, bA g (b 23) 48 sd, bA g (b 0) 600 tp, iA g (b 29) 40 D0, bA g (b 30) 560 e0, bA g (b 31) 112 nd, bA g (b 32) 16 ro, bA g (b 33) 496 N5, bA g (b 34) 32 P6, bA g (b 35) 16 rd, bA g (b 36) 16 M2, iA g (b 37) 8 X4, bA g (b 38) 2000 SG2, bA g (b 40) 96 FRF, bA g (b 41) 16 rw] rfl (fun _ => rfl) rfl [.ref (b 33), .ref h] rfl (Nat.le_of_ble_eq_true rfl) ⟨Nat.le_refl _, Nat.le_refl _⟩ dX11_signMixed_139 ?_
              intro _ hu_15
              refine j_w [oB h 11 (mO b (upd (upd (upd (upd v 3 (nI nl6)) 39 (nI at2)) 27 (nI 0)) 28 (nI (ix 0)))), bA g (b 2) 1400 G6, bA g (b 4) 32 FO6, iA g (b 5) 64 w6, iA g (b 6) 8 S6, iA g (b 7) 8 fs, iA g (b 8) 64 rt, lA g (b 9) 25 A6, lA g (b 10) 25 T6, lA g (b 11) 5 U6, iA g (b 12) 25 tn, bA g (b 23) 48 sd, bA g (b 0) 600 tp, iA g (b 29) 40 D0, bA g (b 30) 560 e0, bA g (b 31) 112 nd, bA g (b 32) 16 ro, bA g (b 33) 496 N5, bA g (b 34) 32 P6, bA g (b 35) 16 rd, bA g (b 36) 16 M2, iA g (b 37) 8 X4, bA g (b 38) 2000 SG2, bA g (b 40) 96 FRF, bA g (b 41) 16 rw] rfl ?_
              refine j_st [.int (nI (16 * (bfr fa z + (sib (ix (2 + i) / 2 ^ z))))), .ref (b 33), .ref h] rfl ?_
              refine j_pc 142 rfl ?_
              refine j_callV2 hX 2 (c_mput l g h b (upd (upd (upd (upd v 3 (nI nl6)) 39 (nI at2)) 27 (nI 0)) 28 (nI (ix 0))) nn at2 (b 33) 496 N5 SG2 (16 * (bfr fa z + (sib (ix (2 + i) / 2 ^ z)))) hv16 rfl (by omega) (by omega) (by omega) (by omega) hG.2.2.1) gX11_signMixed_X11_put (by decide +kernel) rfl ⟨rfl, rfl⟩ ⟨Nat.le_of_ble_eq_true rfl, Nat.le_of_ble_eq_true rfl⟩ 11 0 rfl rfl [0, 17, 22] [1, 2, 3, 4, 5, 6, 7, 8, 9, 10, 11, 12, 13, 14, 15, 16, 18, 19, 20, 21, 23, 24] 25 rfl (by decide) (fun jj : (Nat → Int32) => [oB h 11 (mO b (upd (upd (upd (upd v 3 (nI nl6)) 39 (nI (at2 + nn))) 27 (nI 0)) 28 (nI (ix 0)))), bA g (b 2) 1400 G6, bA g (b 4) 32 FO6, iA g (b 5) 64 w6, iA g (b 6) 8 S6, iA g (b 7) 8 fs, iA g (b 8) 64 rt, lA g (b 9) 25 A6, lA g (b 10) 25 T6, lA g (b 11) 5 U6, iA g (b 12) 25 tn, bA g (b 23) 48 sd, bA g (b 0) 600 tp, iA g (b 29) 40 D0, bA g (b 30) 560 e0, bA g (b 31) 112 nd, bA g (b 32) 16 ro, bA g (b 33) 496 N5, bA g (b 34) 32 P6, bA g (b 35) 16 rd, bA g (b 36) 16 M2, iA g (b 37) 8 X4, bA g (b 38) 2000 jj, bA g (b 40) 96 FRF, bA g (b 41) 16 rw]) (fun _ => rfl) (by decide) [h, (b 2), (b 4), (b 5), (b 6), (b 7), (b 8), (b 9), (b 10), (b 11), (b 12), (b 23), (b 0), (b 29), (b 30), (b 31), (b 32), (b 33), (b 34), (b 35), (b 36), (b 37), (b 38), (b 40), (b 41)] rfl (fun _ => rfl) (fun _ => rfl) [bA g (b 2) 1400 G6, bA g (b 4) 32 FO6, iA g (b 5) 64 w6, iA g (b 6) 8 S6, iA g (b 7) 8 fs, iA g (b 8) 64 rt, lA g (b 9) 25 A6, lA g (b 10) 25 T6, lA g (b 11) 5 U6, iA g (b 12) 25 tn, bA g (b 23) 48 sd, bA g (b 0) 600 tp, iA g (b 29) 40 D0, bA g (b 30) 560 e0, bA g (b 31) 112 nd, bA g (b 32) 16 ro, bA g (b 34) 32 P6, bA g (b 35) 16 rd, bA g (b 36) 16 M2, iA g (b 37) 8 X4, bA g (b 40) 96 FRF, bA g (b 41) 16 rw] rfl (fun _ => rfl) rfl [] rfl (Nat.le_of_ble_eq_true rfl) ⟨Nat.le_refl _, Nat.le_refl _⟩ dX11_signMixed_142 ?_
              intro SG7 hT
              try dsimp only at hT
              refine j_w [oB h 11 (mO b (upd (upd (upd (upd v 3 (nI nl6)) 39 (nI (at2 + nn))) 27 (nI 0)) 28 (nI (ix 0)))), bA g (b 2) 1400 G6, bA g (b 4) 32 FO6, iA g (b 5) 64 w6, iA g (b 6) 8 S6, iA g (b 7) 8 fs, iA g (b 8) 64 rt, lA g (b 9) 25 A6, lA g (b 10) 25 T6, lA g (b 11) 5 U6, iA g (b 12) 25 tn, bA g (b 23) 48 sd, bA g (b 0) 600 tp, iA g (b 29) 40 D0, bA g (b 30) 560 e0, bA g (b 31) 112 nd, bA g (b 32) 16 ro, bA g (b 33) 496 N5, bA g (b 34) 32 P6, bA g (b 35) 16 rd, bA g (b 36) 16 M2, iA g (b 37) 8 X4, bA g (b 38) 2000 SG7, bA g (b 40) 96 FRF, bA g (b 41) 16 rw] rfl ?_
              refine j_st [] rfl ?_
              refine j_iincN hX z (z + 1) [(4, .int (nI (z + 1))), (0, .ref h), (1, .int (nI (ix 1))), (2, .int (nI i)), (3, .int (nI (ix (2 + i))))] 4 dX11_signMixed_145 rfl (nI_1 _) (by decide) rfl ?_
              refine j_goto hX 116 dX11_signMixed_148 (by decide) ?_
              refine j_perm [(0, .ref h), (1, .int (nI (ix 1))), (2, .int (nI i)), (3, .int (nI (ix (2 + i)))), (4, .int (nI (z + 1)))] [1, 2, 3, 4, 0] rfl ?_
              exact ih_10 (z + 1) (at2 + nn) SG7 (by omega) (by omega) (by rw [hT]; exact putL_B hSF2 (slice_B hG.2.2.1 _ _)) (by rw [hat2, Nat.succ_mul z]; omega) (by rw [hT, hG.2.2.2 z _ (by omega) hsb, ← sib_off hzl, hO2, putL_app' (by rw [List.length_append, List.length_append, List.length_append, hMl, fewS_length (by omega), secT_length (by omega), pth_length (by omega) _ _ _ _ _ (fun j => FLF_length (by omega) _ _ _ _ _)]; omega), List.append_assoc ((MIXED fm nn sd (slice rd 0 nn) (slice tp 0 ntp)) ++ fewS fm nn sd 0 (ix 0) (ix 1) fa (fun i => ix (2 + i)) i), List.append_assoc (secT fm nn sd 0 (ix 0) 6 (ix 1) 0 (i * 2 ^ fa + ix (2 + i)))]; rfl)
        refine j_perm [(0, .ref h), (1, .int (nI (ix 1))), (2, .int (nI i)), (3, .int (nI (ix (2 + i)))), (4, .int (nI 0))] [2, 3, 4, 1, 0] rfl ?_
        exact lp_8 _ 0 (at1 + nn) SG7 (Nat.lt_succ_self _) (by omega) hSG7 (by rw [hat1, Nat.zero_mul]; rfl) (by rw [hT, hO, putL_app' (by rw [List.length_append, hMl, fewS_length (by omega), Nat.zero_add]; exact hat1), pth, List.append_nil])
  refine j_perm [(0, .ref h), (1, .int (nI (ix 1))), (2, .int (nI 0))] [2, 1, 0] rfl ?_
  exact lp_1 _ 0 w4 S4 A4 T4 U4 nl4 G4 FO4 P4 fn (0 + nn) SG3 frf (Nat.lt_succ_self _) (by omega) hN.1 hN.2.1 hFnB hS3 hFrB (by rw [Nat.zero_mul, Nat.zero_add]; rfl) (by rw [hT0, fewS, List.append_nil]) (by rw [fewTp, putL_nil])

set_option maxHeartbeats 4000000 in
set_option maxRecDepth 100000 in
/-- the reference: signMixed, no key -/
theorem c_signMixedF (l : Launch) (g : jG) (h : Nat) (b : Nat → Nat) (v : Nat → Int32) (hv24 : v 24 = nI 0) : jC l g yX11_signMixed wsX11_signMixed ({ frames := 9, cells := 0, slots := 0, locals := 217 } : Room) [.ref h] [oB h 11 (mO b v)] (fun jj : Unit => some (.int (-3))) (fun jj : Unit => True) (fun jj : Unit => [oB h 11 (mO b v)]) := by
  refine jC.of (cc := cX11_signMixed) (own := RX11) (maxL := 5) (ret := (some .int)) (by decide +kernel) rfl rfl (Nat.le_of_ble_eq_true rfl) (fun u hu => ⟨_, rfl, rfl⟩) ?_
  intro p e s m below meth c A Q hX hret
  have in11 : ∀ w ∈ wsX110, w ∈ wsX11_signMixed := (fun w h => List.mem_cons_of_mem _ (List.mem_append_right _ h))
  refine j_aload_n hX 0 dX11_signMixed_0 rfl ?_
  refine j_gete hX (nI 0) in11 11 0 24 rfl rfl (by decide) (List.mem_of_getElem? (i := 1) rfl) rfl rfl hv24 dX11_signMixed_1 ?_
  refine j_if_neN hX 0 10 dX11_signMixed_4 (by decide) (by omega) (fun b_4 => absurd b_4 (by omega)) (fun b_4 => ?_)
  refine j_bipush hX (-3) dX11_signMixed_7 (by decide) ?_
  exact hret () trivial 9 _ .ireturn dX11_signMixed_9 rfl

