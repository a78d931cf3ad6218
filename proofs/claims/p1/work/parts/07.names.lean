set_option maxRecDepth 20000 in
theorem ggX11_ofPack_X11_isNoPack : GoodIn wsX11_ofPack wsX11_isNoPack := goodIn_r _ [8, 1, 2, 9, 10, 11, 12, 13, 14, 15, 16, 7, 17, 18, 19, 20, 21, 22, 23, 24, 25, 26, 154, 155, 156, 157, 158, 159, 160, 161, 162, 163, 164, 165, 166, 167, 168] (by decide +kernel) (by decide +kernel)
set_option maxRecDepth 20000 in
theorem gX11_ofPack_X11_isNoPack : GoodIn wsX11_ofPack (wsV RX11 201 RX11 yX11_isNoPack wsX11_isNoPack) := goodIn_app (goodIn_of _ (by decide +kernel)) ggX11_ofPack_X11_isNoPack
theorem dX11_ofPack_0 : decode cX11_ofPack 0 = .ok (.aload_n 0, 1) := by decide +kernel
theorem dX11_ofPack_1 : decode cX11_ofPack 1 = .ok (.iload_n 1, 1) := by decide +kernel
theorem dX11_ofPack_2 : decode cX11_ofPack 2 = .ok (.invokevirtual 201, 3) := by decide +kernel
theorem dX11_ofPack_5 : decode cX11_ofPack 5 = .ok (.ifCond .ne 26, 3) := by decide +kernel
theorem dX11_ofPack_31 : decode cX11_ofPack 31 = .ok (.iconst 0, 1) := by decide +kernel
theorem dX11_ofPack_32 : decode cX11_ofPack 32 = .ok (.goto 22, 3) := by decide +kernel
theorem dX11_ofPack_54 : decode cX11_ofPack 54 = .ok (.ireturn, 1) := by decide +kernel
set_option maxRecDepth 20000 in
theorem ggX11_brokenAll_Jx4a65c_size_8abf5 : GoodIn wsX11_brokenAll wsJx4a65c_size_8abf5 := goodIn_r _ [7, 8, 62, 63, 64] (by decide +kernel) (by decide +kernel)
set_option maxRecDepth 20000 in
theorem gX11_brokenAll_Jx4a65c_size_8abf5 : GoodIn wsX11_brokenAll (wsV RX11 28 RJx4a65c yJx4a65c_size_8abf5 wsJx4a65c_size_8abf5) := goodIn_app (goodIn_of _ (by decide +kernel)) ggX11_brokenAll_Jx4a65c_size_8abf5
theorem dX11_brokenAll_0 : decode cX11_brokenAll 0 = .ok (.iconst 0, 1) := by decide +kernel
theorem dX11_brokenAll_1 : decode cX11_brokenAll 1 = .ok (.istore_n 1, 1) := by decide +kernel
theorem dX11_brokenAll_2 : decode cX11_brokenAll 2 = .ok (.iconst 0, 1) := by decide +kernel
theorem dX11_brokenAll_3 : decode cX11_brokenAll 3 = .ok (.istore_n 2, 1) := by decide +kernel
theorem dX11_brokenAll_4 : decode cX11_brokenAll 4 = .ok (.iload_n 2, 1) := by decide +kernel
theorem dX11_brokenAll_5 : decode cX11_brokenAll 5 = .ok (.aload_n 0, 1) := by decide +kernel
theorem dX11_brokenAll_6 : decode cX11_brokenAll 6 = .ok (.getfield 10, 3) := by decide +kernel
theorem dX11_brokenAll_9 : decode cX11_brokenAll 9 = .ok (.getfield 116, 3) := by decide +kernel
theorem dX11_brokenAll_12 : decode cX11_brokenAll 12 = .ok (.invokevirtual 28, 3) := by decide +kernel
theorem dX11_brokenAll_15 : decode cX11_brokenAll 15 = .ok (.if_icmp .ge 28, 3) := by decide +kernel
theorem dX11_brokenAll_43 : decode cX11_brokenAll 43 = .ok (.iload_n 1, 1) := by decide +kernel
theorem dX11_brokenAll_44 : decode cX11_brokenAll 44 = .ok (.ireturn, 1) := by decide +kernel
set_option maxRecDepth 20000 in
theorem ggX11_notClosed_Jx4a65c_size_8abf5 : GoodIn wsX11_notClosed wsJx4a65c_size_8abf5 := goodIn_r _ [8, 9, 39, 40, 41] (by decide +kernel) (by decide +kernel)
set_option maxRecDepth 20000 in
theorem gX11_notClosed_Jx4a65c_size_8abf5 : GoodIn wsX11_notClosed (wsV RX11 28 RJx4a65c yJx4a65c_size_8abf5 wsJx4a65c_size_8abf5) := goodIn_app (goodIn_of _ (by decide +kernel)) ggX11_notClosed_Jx4a65c_size_8abf5
theorem dX11_notClosed_0 : decode cX11_notClosed 0 = .ok (.iconst 0, 1) := by decide +kernel
theorem dX11_notClosed_1 : decode cX11_notClosed 1 = .ok (.istore_n 1, 1) := by decide +kernel
theorem dX11_notClosed_2 : decode cX11_notClosed 2 = .ok (.iconst 0, 1) := by decide +kernel
theorem dX11_notClosed_3 : decode cX11_notClosed 3 = .ok (.istore_n 2, 1) := by decide +kernel
theorem dX11_notClosed_4 : decode cX11_notClosed 4 = .ok (.iload_n 2, 1) := by decide +kernel
theorem dX11_notClosed_5 : decode cX11_notClosed 5 = .ok (.aload_n 0, 1) := by decide +kernel
theorem dX11_notClosed_6 : decode cX11_notClosed 6 = .ok (.getfield 10, 3) := by decide +kernel
theorem dX11_notClosed_9 : decode cX11_notClosed 9 = .ok (.getfield 170, 3) := by decide +kernel
theorem dX11_notClosed_12 : decode cX11_notClosed 12 = .ok (.invokevirtual 28, 3) := by decide +kernel
theorem dX11_notClosed_15 : decode cX11_notClosed 15 = .ok (.if_icmp .ge 37, 3) := by decide +kernel
theorem dX11_notClosed_52 : decode cX11_notClosed 52 = .ok (.iload_n 1, 1) := by decide +kernel
theorem dX11_notClosed_53 : decode cX11_notClosed 53 = .ok (.ireturn, 1) := by decide +kernel
set_option maxRecDepth 20000 in
theorem ggX11_clashesAll_Jx4a65c_size_8abf5 : GoodIn wsX11_clashesAll wsJx4a65c_size_8abf5 := goodIn_r _ [7, 8, 97, 98, 99] (by decide +kernel) (by decide +kernel)
set_option maxRecDepth 20000 in
theorem gX11_clashesAll_Jx4a65c_size_8abf5 : GoodIn wsX11_clashesAll (wsV RX11 28 RJx4a65c yJx4a65c_size_8abf5 wsJx4a65c_size_8abf5) := goodIn_app (goodIn_of _ (by decide +kernel)) ggX11_clashesAll_Jx4a65c_size_8abf5
theorem dX11_clashesAll_0 : decode cX11_clashesAll 0 = .ok (.iconst 0, 1) := by decide +kernel
theorem dX11_clashesAll_1 : decode cX11_clashesAll 1 = .ok (.istore_n 1, 1) := by decide +kernel
theorem dX11_clashesAll_2 : decode cX11_clashesAll 2 = .ok (.iconst 0, 1) := by decide +kernel
theorem dX11_clashesAll_3 : decode cX11_clashesAll 3 = .ok (.istore_n 2, 1) := by decide +kernel
theorem dX11_clashesAll_4 : decode cX11_clashesAll 4 = .ok (.iload_n 2, 1) := by decide +kernel
theorem dX11_clashesAll_5 : decode cX11_clashesAll 5 = .ok (.aload_n 0, 1) := by decide +kernel
theorem dX11_clashesAll_6 : decode cX11_clashesAll 6 = .ok (.getfield 10, 3) := by decide +kernel
theorem dX11_clashesAll_9 : decode cX11_clashesAll 9 = .ok (.getfield 24, 3) := by decide +kernel
theorem dX11_clashesAll_12 : decode cX11_clashesAll 12 = .ok (.invokevirtual 28, 3) := by decide +kernel
theorem dX11_clashesAll_15 : decode cX11_clashesAll 15 = .ok (.if_icmp .ge 20, 3) := by decide +kernel
theorem dX11_clashesAll_35 : decode cX11_clashesAll 35 = .ok (.iload_n 1, 1) := by decide +kernel
theorem dX11_clashesAll_36 : decode cX11_clashesAll 36 = .ok (.iconst 2, 1) := by decide +kernel
theorem dX11_clashesAll_37 : decode cX11_clashesAll 37 = .ok (.idiv, 1) := by decide +kernel
theorem dX11_clashesAll_38 : decode cX11_clashesAll 38 = .ok (.ireturn, 1) := by decide +kernel
set_option maxRecDepth 20000 in
theorem ggX11_packsIn_Jx4a65c_size_8abf5 : GoodIn wsX11_packsIn wsJx4a65c_size_8abf5 := goodIn_r _ [9, 10, 46, 47, 48] (by decide +kernel) (by decide +kernel)
set_option maxRecDepth 20000 in
theorem gX11_packsIn_Jx4a65c_size_8abf5 : GoodIn wsX11_packsIn (wsV RX11 28 RJx4a65c yJx4a65c_size_8abf5 wsJx4a65c_size_8abf5) := goodIn_app (goodIn_of _ (by decide +kernel)) ggX11_packsIn_Jx4a65c_size_8abf5
theorem dX11_packsIn_0 : decode cX11_packsIn 0 = .ok (.iconst 0, 1) := by decide +kernel
theorem dX11_packsIn_1 : decode cX11_packsIn 1 = .ok (.istore_n 2, 1) := by decide +kernel
theorem dX11_packsIn_2 : decode cX11_packsIn 2 = .ok (.iconst 0, 1) := by decide +kernel
theorem dX11_packsIn_3 : decode cX11_packsIn 3 = .ok (.istore_n 3, 1) := by decide +kernel
theorem dX11_packsIn_4 : decode cX11_packsIn 4 = .ok (.iload_n 3, 1) := by decide +kernel
theorem dX11_packsIn_5 : decode cX11_packsIn 5 = .ok (.aload_n 0, 1) := by decide +kernel
theorem dX11_packsIn_6 : decode cX11_packsIn 6 = .ok (.getfield 10, 3) := by decide +kernel
theorem dX11_packsIn_9 : decode cX11_packsIn 9 = .ok (.getfield 193, 3) := by decide +kernel
theorem dX11_packsIn_12 : decode cX11_packsIn 12 = .ok (.invokevirtual 28, 3) := by decide +kernel
theorem dX11_packsIn_15 : decode cX11_packsIn 15 = .ok (.if_icmp .ge 38, 3) := by decide +kernel
theorem dX11_packsIn_53 : decode cX11_packsIn 53 = .ok (.iload_n 2, 1) := by decide +kernel
theorem dX11_packsIn_54 : decode cX11_packsIn 54 = .ok (.ireturn, 1) := by decide +kernel
set_option maxRecDepth 20000 in
theorem ggX11_count_Jx4a65c_size_8abf5 : GoodIn wsX11_count wsJx4a65c_size_8abf5 := goodIn_r _ [12, 13, 131, 132, 133] (by decide +kernel) (by decide +kernel)
set_option maxRecDepth 20000 in
theorem gX11_count_Jx4a65c_size_8abf5 : GoodIn wsX11_count (wsV RX11 28 RJx4a65c yJx4a65c_size_8abf5 wsJx4a65c_size_8abf5) := goodIn_app (goodIn_of _ (by decide +kernel)) ggX11_count_Jx4a65c_size_8abf5
set_option maxRecDepth 20000 in
theorem ggX11_count_X11_brokenAll : GoodIn wsX11_count wsX11_brokenAll := goodIn_r _ [18, 1, 3, 8, 9, 10, 11, 12, 13, 19, 20, 21, 22, 23, 24, 25, 26, 27, 28, 29, 30, 31, 32, 33, 34, 35, 36, 37, 38, 39, 40, 41, 42, 43, 44, 45, 46, 47, 48, 49, 50, 51, 52, 53, 54, 55, 56, 57, 58, 59, 119, 120, 121, 122, 123, 124, 125, 126, 127, 128, 129, 130, 131, 132, 133, 134, 135, 136, 137, 138, 139] (by decide +kernel) (by decide +kernel)
set_option maxRecDepth 20000 in
theorem gX11_count_X11_brokenAll : GoodIn wsX11_count (wsV RX11 238 RX11 yX11_brokenAll wsX11_brokenAll) := goodIn_app (goodIn_of _ (by decide +kernel)) ggX11_count_X11_brokenAll
set_option maxRecDepth 20000 in
theorem ggX11_count_X11_notClosed : GoodIn wsX11_count wsX11_notClosed := goodIn_r _ [63, 1, 64, 65, 8, 9, 10, 11, 12, 13, 66, 30, 31, 32, 33, 34, 35, 36, 37, 38, 39, 40, 41, 42, 43, 44, 45, 119, 120, 121, 122, 123, 124, 125, 126, 127, 128, 129, 130, 131, 132, 133] (by decide +kernel) (by decide +kernel)
set_option maxRecDepth 20000 in
theorem gX11_count_X11_notClosed : GoodIn wsX11_count (wsV RX11 241 RX11 yX11_notClosed wsX11_notClosed) := goodIn_app (goodIn_of _ (by decide +kernel)) ggX11_count_X11_notClosed
set_option maxRecDepth 20000 in
theorem ggX11_count_X11_clashesAll : GoodIn wsX11_count wsX11_clashesAll := goodIn_r _ [70, 1, 2, 8, 9, 10, 11, 12, 13, 71, 72, 73, 22, 74, 26, 75, 76, 77, 78, 79, 27, 80, 81, 82, 83, 84, 85, 29, 30, 31, 32, 33, 34, 35, 36, 37, 38, 39, 40, 41, 42, 43, 44, 45, 46, 47, 48, 49, 50, 51, 52, 53, 54, 55, 56, 57, 58, 59, 86, 87, 88, 89, 90, 91, 92, 93, 94, 95, 96, 97, 98, 99, 100, 101, 102, 103, 104, 105, 106, 107, 108, 109, 110, 111, 112, 119, 120, 121, 122, 123, 124, 125, 126, 127, 128, 129, 130, 131, 132, 133, 137, 138, 139, 134, 135, 136, 140, 141, 142, 143] (by decide +kernel) (by decide +kernel)
set_option maxRecDepth 20000 in
theorem gX11_count_X11_clashesAll : GoodIn wsX11_count (wsV RX11 244 RX11 yX11_clashesAll wsX11_clashesAll) := goodIn_app (goodIn_of _ (by decide +kernel)) ggX11_count_X11_clashesAll
set_option maxRecDepth 20000 in
theorem ggX11_count_X11_packsIn : GoodIn wsX11_count wsX11_packsIn := goodIn_r _ [116, 1, 6, 117, 118, 8, 9, 10, 11, 12, 13, 66, 30, 31, 32, 33, 34, 35, 36, 37, 38, 39, 40, 41, 42, 43, 44, 45, 119, 120, 121, 122, 123, 124, 125, 126, 127, 128, 129, 130, 144, 145, 146, 147, 148, 149, 131, 132, 133] (by decide +kernel) (by decide +kernel)
set_option maxRecDepth 20000 in
theorem gX11_count_X11_packsIn : GoodIn wsX11_count (wsV RX11 247 RX11 yX11_packsIn wsX11_packsIn) := goodIn_app (goodIn_of _ (by decide +kernel)) ggX11_count_X11_packsIn
theorem dX11_count_0 : decode cX11_count 0 = .ok (.iload_n 1, 1) := by decide +kernel
theorem dX11_count_1 : decode cX11_count 1 = .ok (.tableswitch 145 0 12 #[67, 78, 89, 94, 105, 116, 121, 126, 145, 145, 145, 145, 137], 67) := by decide +kernel
theorem dX11_count_68 : decode cX11_count 68 = .ok (.aload_n 0, 1) := by decide +kernel
theorem dX11_count_69 : decode cX11_count 69 = .ok (.getfield 10, 3) := by decide +kernel
theorem dX11_count_72 : decode cX11_count 72 = .ok (.getfield 24, 3) := by decide +kernel
theorem dX11_count_75 : decode cX11_count 75 = .ok (.invokevirtual 28, 3) := by decide +kernel
theorem dX11_count_78 : decode cX11_count 78 = .ok (.ireturn, 1) := by decide +kernel
theorem dX11_count_79 : decode cX11_count 79 = .ok (.aload_n 0, 1) := by decide +kernel
theorem dX11_count_80 : decode cX11_count 80 = .ok (.getfield 10, 3) := by decide +kernel
theorem dX11_count_83 : decode cX11_count 83 = .ok (.getfield 116, 3) := by decide +kernel
theorem dX11_count_86 : decode cX11_count 86 = .ok (.invokevirtual 28, 3) := by decide +kernel
theorem dX11_count_89 : decode cX11_count 89 = .ok (.ireturn, 1) := by decide +kernel
theorem dX11_count_90 : decode cX11_count 90 = .ok (.aload_n 0, 1) := by decide +kernel
theorem dX11_count_91 : decode cX11_count 91 = .ok (.invokevirtual 238, 3) := by decide +kernel
theorem dX11_count_94 : decode cX11_count 94 = .ok (.ireturn, 1) := by decide +kernel
theorem dX11_count_95 : decode cX11_count 95 = .ok (.aload_n 0, 1) := by decide +kernel
theorem dX11_count_96 : decode cX11_count 96 = .ok (.getfield 10, 3) := by decide +kernel
theorem dX11_count_99 : decode cX11_count 99 = .ok (.getfield 141, 3) := by decide +kernel
theorem dX11_count_102 : decode cX11_count 102 = .ok (.invokevirtual 28, 3) := by decide +kernel
theorem dX11_count_105 : decode cX11_count 105 = .ok (.ireturn, 1) := by decide +kernel
theorem dX11_count_106 : decode cX11_count 106 = .ok (.aload_n 0, 1) := by decide +kernel
theorem dX11_count_107 : decode cX11_count 107 = .ok (.getfield 10, 3) := by decide +kernel
theorem dX11_count_110 : decode cX11_count 110 = .ok (.getfield 167, 3) := by decide +kernel
theorem dX11_count_113 : decode cX11_count 113 = .ok (.invokevirtual 28, 3) := by decide +kernel
theorem dX11_count_116 : decode cX11_count 116 = .ok (.ireturn, 1) := by decide +kernel
theorem dX11_count_117 : decode cX11_count 117 = .ok (.aload_n 0, 1) := by decide +kernel
theorem dX11_count_118 : decode cX11_count 118 = .ok (.invokevirtual 241, 3) := by decide +kernel
theorem dX11_count_121 : decode cX11_count 121 = .ok (.ireturn, 1) := by decide +kernel
theorem dX11_count_122 : decode cX11_count 122 = .ok (.aload_n 0, 1) := by decide +kernel
theorem dX11_count_123 : decode cX11_count 123 = .ok (.invokevirtual 244, 3) := by decide +kernel
theorem dX11_count_126 : decode cX11_count 126 = .ok (.ireturn, 1) := by decide +kernel
theorem dX11_count_127 : decode cX11_count 127 = .ok (.aload_n 0, 1) := by decide +kernel
theorem dX11_count_128 : decode cX11_count 128 = .ok (.getfield 10, 3) := by decide +kernel
theorem dX11_count_131 : decode cX11_count 131 = .ok (.getfield 193, 3) := by decide +kernel
theorem dX11_count_134 : decode cX11_count 134 = .ok (.invokevirtual 28, 3) := by decide +kernel
theorem dX11_count_137 : decode cX11_count 137 = .ok (.ireturn, 1) := by decide +kernel
theorem dX11_count_138 : decode cX11_count 138 = .ok (.aload_n 0, 1) := by decide +kernel
theorem dX11_count_139 : decode cX11_count 139 = .ok (.getfield 10, 3) := by decide +kernel
theorem dX11_count_142 : decode cX11_count 142 = .ok (.getfield 147, 3) := by decide +kernel
theorem dX11_count_145 : decode cX11_count 145 = .ok (.ireturn, 1) := by decide +kernel
theorem dX11_count_146 : decode cX11_count 146 = .ok (.aload_n 0, 1) := by decide +kernel
theorem dX11_count_147 : decode cX11_count 147 = .ok (.iload_n 1, 1) := by decide +kernel
theorem dX11_count_148 : decode cX11_count 148 = .ok (.bipush 8, 2) := by decide +kernel
theorem dX11_count_150 : decode cX11_count 150 = .ok (.isub, 1) := by decide +kernel
theorem dX11_count_151 : decode cX11_count 151 = .ok (.invokevirtual 247, 3) := by decide +kernel
theorem dX11_count_154 : decode cX11_count 154 = .ok (.ireturn, 1) := by decide +kernel
set_option maxRecDepth 20000 in
theorem ggX11_many_X11_isIn : GoodIn wsX11_many wsX11_isIn := goodIn_r _ [4] (by decide +kernel) (by decide +kernel)
set_option maxRecDepth 20000 in
theorem gX11_many_X11_isIn : GoodIn wsX11_many (va_wsS RX11 34 yX11_isIn wsX11_isIn) := goodIn_app (goodIn_of _ (by decide +kernel)) ggX11_many_X11_isIn
set_option maxRecDepth 20000 in
theorem ggX11_many_X11_start : GoodIn wsX11_many wsX11_start := goodIn_r _ [8, 9, 10, 11, 12, 3, 13, 135, 136] (by decide +kernel) (by decide +kernel)
set_option maxRecDepth 20000 in
theorem gX11_many_X11_start : GoodIn wsX11_many (wsV RX11 42 RX11 yX11_start wsX11_start) := goodIn_app (goodIn_of _ (by decide +kernel)) ggX11_many_X11_start
set_option maxRecDepth 20000 in
theorem ggX11_many_X11_count : GoodIn wsX11_many wsX11_count := goodIn_r _ [17, 18, 19, 20, 21, 22, 23, 24, 25, 26, 27, 28, 29, 30, 31, 32, 33, 3, 34, 35, 36, 37, 38, 39, 40, 41, 42, 43, 44, 45, 46, 47, 48, 49, 50, 51, 52, 53, 54, 55, 56, 57, 58, 59, 60, 61, 62, 63, 64, 65, 66, 67, 68, 69, 70, 71, 72, 73, 74, 75, 76, 77, 78, 79, 80, 81, 82, 83, 84, 85, 86, 87, 88, 89, 90, 91, 92, 93, 94, 95, 96, 97, 98, 99, 100, 101, 102, 103, 104, 105, 106, 107, 108, 109, 110, 111, 112, 113, 114, 115, 116, 117, 118, 119, 120, 121, 122, 123, 124, 125, 126, 127, 128, 129, 130, 131, 132, 133, 134, 135, 136, 137, 138, 139, 140, 141, 142, 143, 144, 145, 146, 147, 148, 149, 150, 151, 152, 153, 154, 155, 156, 157, 158, 159, 160, 161, 162, 163, 164, 165] (by decide +kernel) (by decide +kernel)
set_option maxRecDepth 20000 in
theorem gX11_many_X11_count : GoodIn wsX11_many (wsV RX11 250 RX11 yX11_count wsX11_count) := goodIn_app (goodIn_of _ (by decide +kernel)) ggX11_many_X11_count
theorem dX11_many_0 : decode cX11_many 0 = .ok (.aload_n 0, 1) := by decide +kernel
theorem dX11_many_1 : decode cX11_many 1 = .ok (.iload_n 1, 1) := by decide +kernel
theorem dX11_many_2 : decode cX11_many 2 = .ok (.iconst 0, 1) := by decide +kernel
theorem dX11_many_3 : decode cX11_many 3 = .ok (.bipush 12, 2) := by decide +kernel
theorem dX11_many_5 : decode cX11_many 5 = .ok (.invokestatic 34, 3) := by decide +kernel
theorem dX11_many_8 : decode cX11_many 8 = .ok (.ifCond .ne 7, 3) := by decide +kernel
theorem dX11_many_11 : decode cX11_many 11 = .ok (.iconst 1, 1) := by decide +kernel
theorem dX11_many_12 : decode cX11_many 12 = .ok (.goto 4, 3) := by decide +kernel
theorem dX11_many_15 : decode cX11_many 15 = .ok (.iconst 0, 1) := by decide +kernel
theorem dX11_many_16 : decode cX11_many 16 = .ok (.iconst 1, 1) := by decide +kernel
theorem dX11_many_17 : decode cX11_many 17 = .ok (.invokevirtual 42, 3) := by decide +kernel
theorem dX11_many_20 : decode cX11_many 20 = .ok (.ifCond .eq 7, 3) := by decide +kernel
theorem dX11_many_23 : decode cX11_many 23 = .ok (.iconst 0, 1) := by decide +kernel
theorem dX11_many_24 : decode cX11_many 24 = .ok (.goto 8, 3) := by decide +kernel
theorem dX11_many_27 : decode cX11_many 27 = .ok (.aload_n 0, 1) := by decide +kernel
theorem dX11_many_28 : decode cX11_many 28 = .ok (.iload_n 1, 1) := by decide +kernel
theorem dX11_many_29 : decode cX11_many 29 = .ok (.invokevirtual 250, 3) := by decide +kernel
theorem dX11_many_32 : decode cX11_many 32 = .ok (.ireturn, 1) := by decide +kernel
set_option maxRecDepth 20000 in
theorem ggX11_meanRevisions_Jx4a65c_size_8abf5 : GoodIn wsX11_meanRevisions wsJx4a65c_size_8abf5 := goodIn_r _ [9, 10, 53, 54, 55] (by decide +kernel) (by decide +kernel)
set_option maxRecDepth 20000 in
theorem gX11_meanRevisions_Jx4a65c_size_8abf5 : GoodIn wsX11_meanRevisions (wsV RX11 28 RJx4a65c yJx4a65c_size_8abf5 wsJx4a65c_size_8abf5) := goodIn_app (goodIn_of _ (by decide +kernel)) ggX11_meanRevisions_Jx4a65c_size_8abf5
set_option maxRecDepth 20000 in
theorem ggX11_meanRevisions_Jx4a65c_isEmpty_aae02 : GoodIn wsX11_meanRevisions wsJx4a65c_isEmpty_aae02 := goodIn_r _ [37, 10, 53, 54, 55] (by decide +kernel) (by decide +kernel)
set_option maxRecDepth 20000 in
theorem gX11_meanRevisions_Jx4a65c_isEmpty_aae02 : GoodIn wsX11_meanRevisions (wsV RX11 253 RJx4a65c yJx4a65c_isEmpty_aae02 wsJx4a65c_isEmpty_aae02) := goodIn_app (goodIn_of _ (by decide +kernel)) ggX11_meanRevisions_Jx4a65c_isEmpty_aae02
theorem dX11_meanRevisions_0 : decode cX11_meanRevisions 0 = .ok (.aload_n 0, 1) := by decide +kernel
theorem dX11_meanRevisions_1 : decode cX11_meanRevisions 1 = .ok (.iconst 0, 1) := by decide +kernel
theorem dX11_meanRevisions_2 : decode cX11_meanRevisions 2 = .ok (.putfield 16, 3) := by decide +kernel
theorem dX11_meanRevisions_5 : decode cX11_meanRevisions 5 = .ok (.iconst 0, 1) := by decide +kernel
theorem dX11_meanRevisions_6 : decode cX11_meanRevisions 6 = .ok (.istore_n 1, 1) := by decide +kernel
theorem dX11_meanRevisions_7 : decode cX11_meanRevisions 7 = .ok (.iconst 0, 1) := by decide +kernel
theorem dX11_meanRevisions_8 : decode cX11_meanRevisions 8 = .ok (.istore_n 2, 1) := by decide +kernel
theorem dX11_meanRevisions_9 : decode cX11_meanRevisions 9 = .ok (.iload_n 2, 1) := by decide +kernel
theorem dX11_meanRevisions_10 : decode cX11_meanRevisions 10 = .ok (.aload_n 0, 1) := by decide +kernel
theorem dX11_meanRevisions_11 : decode cX11_meanRevisions 11 = .ok (.getfield 10, 3) := by decide +kernel
theorem dX11_meanRevisions_14 : decode cX11_meanRevisions 14 = .ok (.getfield 24, 3) := by decide +kernel
theorem dX11_meanRevisions_17 : decode cX11_meanRevisions 17 = .ok (.invokevirtual 28, 3) := by decide +kernel
theorem dX11_meanRevisions_20 : decode cX11_meanRevisions 20 = .ok (.if_icmp .ge 23, 3) := by decide +kernel
theorem dX11_meanRevisions_43 : decode cX11_meanRevisions 43 = .ok (.aload_n 0, 1) := by decide +kernel
theorem dX11_meanRevisions_44 : decode cX11_meanRevisions 44 = .ok (.getfield 10, 3) := by decide +kernel
theorem dX11_meanRevisions_47 : decode cX11_meanRevisions 47 = .ok (.getfield 24, 3) := by decide +kernel
theorem dX11_meanRevisions_50 : decode cX11_meanRevisions 50 = .ok (.invokevirtual 253, 3) := by decide +kernel
theorem dX11_meanRevisions_53 : decode cX11_meanRevisions 53 = .ok (.ifCond .eq 7, 3) := by decide +kernel
theorem dX11_meanRevisions_56 : decode cX11_meanRevisions 56 = .ok (.dconst 0, 1) := by decide +kernel
theorem dX11_meanRevisions_57 : decode cX11_meanRevisions 57 = .ok (.goto 17, 3) := by decide +kernel
theorem dX11_meanRevisions_74 : decode cX11_meanRevisions 74 = .ok (.dreturn, 1) := by decide +kernel
set_option maxRecDepth 20000 in
theorem ggX11_stoppedBy_X11_isNoSheet : GoodIn wsX11_stoppedBy wsX11_isNoSheet := goodIn_r _ [5, 6, 7, 8, 4, 9, 10, 11, 12, 13, 14, 15, 16, 17, 18, 19, 20, 21, 22, 23, 24, 25, 26, 27, 28, 29, 311, 312, 313, 314, 315, 316, 317, 318, 319, 320, 321, 322, 323, 324, 325] (by decide +kernel) (by decide +kernel)
set_option maxRecDepth 20000 in
theorem gX11_stoppedBy_X11_isNoSheet : GoodIn wsX11_stoppedBy (wsV RX11 71 RX11 yX11_isNoSheet wsX11_isNoSheet) := goodIn_app (goodIn_of _ (by decide +kernel)) ggX11_stoppedBy_X11_isNoSheet
theorem dX11_stoppedBy_0 : decode cX11_stoppedBy 0 = .ok (.aload_n 0, 1) := by decide +kernel
theorem dX11_stoppedBy_1 : decode cX11_stoppedBy 1 = .ok (.iload_n 1, 1) := by decide +kernel
theorem dX11_stoppedBy_2 : decode cX11_stoppedBy 2 = .ok (.invokevirtual 71, 3) := by decide +kernel
theorem dX11_stoppedBy_5 : decode cX11_stoppedBy 5 = .ok (.ifCond .eq 7, 3) := by decide +kernel
theorem dX11_stoppedBy_8 : decode cX11_stoppedBy 8 = .ok (.iconst 0, 1) := by decide +kernel
theorem dX11_stoppedBy_9 : decode cX11_stoppedBy 9 = .ok (.goto 8, 3) := by decide +kernel
theorem dX11_stoppedBy_17 : decode cX11_stoppedBy 17 = .ok (.ireturn, 1) := by decide +kernel
set_option maxRecDepth 20000 in
theorem ggX11_freedBy_X11_isNoQuery : GoodIn wsX11_freedBy wsX11_isNoQuery := goodIn_r _ [5, 6, 7, 8, 9, 10, 11, 12, 13, 14, 15, 4, 16, 17, 18, 19, 20, 21, 22, 23, 24, 25, 302, 303, 304, 305, 306, 307, 308, 309, 310, 311, 312, 313, 314, 315, 316] (by decide +kernel) (by decide +kernel)
set_option maxRecDepth 20000 in
theorem gX11_freedBy_X11_isNoQuery : GoodIn wsX11_freedBy (wsV RX11 173 RX11 yX11_isNoQuery wsX11_isNoQuery) := goodIn_app (goodIn_of _ (by decide +kernel)) ggX11_freedBy_X11_isNoQuery
theorem dX11_freedBy_0 : decode cX11_freedBy 0 = .ok (.aload_n 0, 1) := by decide +kernel
theorem dX11_freedBy_1 : decode cX11_freedBy 1 = .ok (.iload_n 1, 1) := by decide +kernel
theorem dX11_freedBy_2 : decode cX11_freedBy 2 = .ok (.invokevirtual 173, 3) := by decide +kernel
theorem dX11_freedBy_5 : decode cX11_freedBy 5 = .ok (.ifCond .eq 7, 3) := by decide +kernel
theorem dX11_freedBy_8 : decode cX11_freedBy 8 = .ok (.iconst 0, 1) := by decide +kernel
theorem dX11_freedBy_9 : decode cX11_freedBy 9 = .ok (.goto 8, 3) := by decide +kernel
theorem dX11_freedBy_17 : decode cX11_freedBy 17 = .ok (.ireturn, 1) := by decide +kernel
theorem dJ6_bitCount_0f7a4_0 : decode cJ6_bitCount_0f7a4 0 = .ok (.iload_n 0, 1) := by decide +kernel
theorem dJ6_bitCount_0f7a4_1 : decode cJ6_bitCount_0f7a4 1 = .ok (.iload_n 0, 1) := by decide +kernel
theorem dJ6_bitCount_0f7a4_2 : decode cJ6_bitCount_0f7a4 2 = .ok (.iconst 1, 1) := by decide +kernel
theorem dJ6_bitCount_0f7a4_3 : decode cJ6_bitCount_0f7a4 3 = .ok (.iushr, 1) := by decide +kernel
theorem dJ6_bitCount_0f7a4_4 : decode cJ6_bitCount_0f7a4 4 = .ok (.ldc_w 265, 3) := by decide +kernel
theorem dJ6_bitCount_0f7a4_7 : decode cJ6_bitCount_0f7a4 7 = .ok (.iand, 1) := by decide +kernel
theorem dJ6_bitCount_0f7a4_8 : decode cJ6_bitCount_0f7a4 8 = .ok (.isub, 1) := by decide +kernel
theorem dJ6_bitCount_0f7a4_9 : decode cJ6_bitCount_0f7a4 9 = .ok (.istore_n 0, 1) := by decide +kernel
theorem dJ6_bitCount_0f7a4_10 : decode cJ6_bitCount_0f7a4 10 = .ok (.iload_n 0, 1) := by decide +kernel
theorem dJ6_bitCount_0f7a4_11 : decode cJ6_bitCount_0f7a4 11 = .ok (.ldc_w 266, 3) := by decide +kernel
theorem dJ6_bitCount_0f7a4_14 : decode cJ6_bitCount_0f7a4 14 = .ok (.iand, 1) := by decide +kernel
theorem dJ6_bitCount_0f7a4_15 : decode cJ6_bitCount_0f7a4 15 = .ok (.iload_n 0, 1) := by decide +kernel
theorem dJ6_bitCount_0f7a4_16 : decode cJ6_bitCount_0f7a4 16 = .ok (.iconst 2, 1) := by decide +kernel
theorem dJ6_bitCount_0f7a4_17 : decode cJ6_bitCount_0f7a4 17 = .ok (.iushr, 1) := by decide +kernel
theorem dJ6_bitCount_0f7a4_18 : decode cJ6_bitCount_0f7a4 18 = .ok (.ldc_w 266, 3) := by decide +kernel
theorem dJ6_bitCount_0f7a4_21 : decode cJ6_bitCount_0f7a4 21 = .ok (.iand, 1) := by decide +kernel
theorem dJ6_bitCount_0f7a4_22 : decode cJ6_bitCount_0f7a4 22 = .ok (.iadd, 1) := by decide +kernel
theorem dJ6_bitCount_0f7a4_23 : decode cJ6_bitCount_0f7a4 23 = .ok (.istore_n 0, 1) := by decide +kernel
theorem dJ6_bitCount_0f7a4_24 : decode cJ6_bitCount_0f7a4 24 = .ok (.iload_n 0, 1) := by decide +kernel
theorem dJ6_bitCount_0f7a4_25 : decode cJ6_bitCount_0f7a4 25 = .ok (.iload_n 0, 1) := by decide +kernel
theorem dJ6_bitCount_0f7a4_26 : decode cJ6_bitCount_0f7a4 26 = .ok (.iconst 4, 1) := by decide +kernel
theorem dJ6_bitCount_0f7a4_27 : decode cJ6_bitCount_0f7a4 27 = .ok (.iushr, 1) := by decide +kernel
theorem dJ6_bitCount_0f7a4_28 : decode cJ6_bitCount_0f7a4 28 = .ok (.iadd, 1) := by decide +kernel
theorem dJ6_bitCount_0f7a4_29 : decode cJ6_bitCount_0f7a4 29 = .ok (.ldc_w 267, 3) := by decide +kernel
theorem dJ6_bitCount_0f7a4_32 : decode cJ6_bitCount_0f7a4 32 = .ok (.iand, 1) := by decide +kernel
theorem dJ6_bitCount_0f7a4_33 : decode cJ6_bitCount_0f7a4 33 = .ok (.istore_n 0, 1) := by decide +kernel
theorem dJ6_bitCount_0f7a4_34 : decode cJ6_bitCount_0f7a4 34 = .ok (.iload_n 0, 1) := by decide +kernel
theorem dJ6_bitCount_0f7a4_35 : decode cJ6_bitCount_0f7a4 35 = .ok (.iload_n 0, 1) := by decide +kernel
theorem dJ6_bitCount_0f7a4_36 : decode cJ6_bitCount_0f7a4 36 = .ok (.bipush 8, 2) := by decide +kernel
theorem dJ6_bitCount_0f7a4_38 : decode cJ6_bitCount_0f7a4 38 = .ok (.iushr, 1) := by decide +kernel
theorem dJ6_bitCount_0f7a4_39 : decode cJ6_bitCount_0f7a4 39 = .ok (.iadd, 1) := by decide +kernel
theorem dJ6_bitCount_0f7a4_40 : decode cJ6_bitCount_0f7a4 40 = .ok (.istore_n 0, 1) := by decide +kernel
theorem dJ6_bitCount_0f7a4_41 : decode cJ6_bitCount_0f7a4 41 = .ok (.iload_n 0, 1) := by decide +kernel
theorem dJ6_bitCount_0f7a4_42 : decode cJ6_bitCount_0f7a4 42 = .ok (.iload_n 0, 1) := by decide +kernel
theorem dJ6_bitCount_0f7a4_43 : decode cJ6_bitCount_0f7a4 43 = .ok (.bipush 16, 2) := by decide +kernel
theorem dJ6_bitCount_0f7a4_45 : decode cJ6_bitCount_0f7a4 45 = .ok (.iushr, 1) := by decide +kernel
theorem dJ6_bitCount_0f7a4_46 : decode cJ6_bitCount_0f7a4 46 = .ok (.iadd, 1) := by decide +kernel
theorem dJ6_bitCount_0f7a4_47 : decode cJ6_bitCount_0f7a4 47 = .ok (.istore_n 0, 1) := by decide +kernel
theorem dJ6_bitCount_0f7a4_48 : decode cJ6_bitCount_0f7a4 48 = .ok (.iload_n 0, 1) := by decide +kernel
theorem dJ6_bitCount_0f7a4_49 : decode cJ6_bitCount_0f7a4 49 = .ok (.bipush 63, 2) := by decide +kernel
theorem dJ6_bitCount_0f7a4_51 : decode cJ6_bitCount_0f7a4 51 = .ok (.iand, 1) := by decide +kernel
theorem dJ6_bitCount_0f7a4_52 : decode cJ6_bitCount_0f7a4 52 = .ok (.ireturn, 1) := by decide +kernel
theorem dJx4a65c_size_8abf5_0 : decode cJx4a65c_size_8abf5 0 = .ok (.aload_n 0, 1) := by decide +kernel
theorem dJx4a65c_size_8abf5_1 : decode cJx4a65c_size_8abf5 1 = .ok (.getfield 48, 3) := by decide +kernel
theorem dJx4a65c_size_8abf5_4 : decode cJx4a65c_size_8abf5 4 = .ok (.ireturn, 1) := by decide +kernel
theorem dJx4a65c_isEmpty_aae02_0 : decode cJx4a65c_isEmpty_aae02 0 = .ok (.aload_n 0, 1) := by decide +kernel
theorem dJx4a65c_isEmpty_aae02_1 : decode cJx4a65c_isEmpty_aae02 1 = .ok (.getfield 48, 3) := by decide +kernel
theorem dJx4a65c_isEmpty_aae02_4 : decode cJx4a65c_isEmpty_aae02 4 = .ok (.ifCond .ne 7, 3) := by decide +kernel
theorem dJx4a65c_isEmpty_aae02_7 : decode cJx4a65c_isEmpty_aae02 7 = .ok (.iconst 1, 1) := by decide +kernel
theorem dJx4a65c_isEmpty_aae02_8 : decode cJx4a65c_isEmpty_aae02 8 = .ok (.goto 4, 3) := by decide +kernel
theorem dJx4a65c_isEmpty_aae02_12 : decode cJx4a65c_isEmpty_aae02 12 = .ok (.ireturn, 1) := by decide +kernel
theorem dJ7_fill_53178_0 : decode cJ7_fill_53178 0 = .ok (.iconst 0, 1) := by decide +kernel
theorem dJ7_fill_53178_1 : decode cJ7_fill_53178 1 = .ok (.istore_n 2, 1) := by decide +kernel
theorem dJ7_fill_53178_2 : decode cJ7_fill_53178 2 = .ok (.aload_n 0, 1) := by decide +kernel
theorem dJ7_fill_53178_3 : decode cJ7_fill_53178 3 = .ok (.arraylength, 1) := by decide +kernel
theorem dJ7_fill_53178_4 : decode cJ7_fill_53178 4 = .ok (.istore_n 3, 1) := by decide +kernel
theorem dJ7_fill_53178_5 : decode cJ7_fill_53178 5 = .ok (.iload_n 2, 1) := by decide +kernel
theorem dJ7_fill_53178_6 : decode cJ7_fill_53178 6 = .ok (.iload_n 3, 1) := by decide +kernel
theorem dJ7_fill_53178_7 : decode cJ7_fill_53178 7 = .ok (.if_icmp .ge 13, 3) := by decide +kernel
theorem dJ7_fill_53178_10 : decode cJ7_fill_53178 10 = .ok (.aload_n 0, 1) := by decide +kernel
theorem dJ7_fill_53178_11 : decode cJ7_fill_53178 11 = .ok (.iload_n 2, 1) := by decide +kernel
theorem dJ7_fill_53178_12 : decode cJ7_fill_53178 12 = .ok (.iload_n 1, 1) := by decide +kernel
theorem dJ7_fill_53178_13 : decode cJ7_fill_53178 13 = .ok (.iastore, 1) := by decide +kernel
theorem dJ7_fill_53178_14 : decode cJ7_fill_53178 14 = .ok (.iinc 2 1, 3) := by decide +kernel
theorem dJ7_fill_53178_17 : decode cJ7_fill_53178 17 = .ok (.goto (-12), 3) := by decide +kernel
theorem dJ7_fill_53178_20 : decode cJ7_fill_53178 20 = .ok (.return_, 1) := by decide +kernel
abbrev vwCl : List vw_C := [(RJx4a65c, TJx4a65c, 3), (RX0, TX0, 3), (RX1, TX1, 3), (RX2, TX2, 3), (RX3, TX3, 10), (RX4, TX4, 6), (RX5, TX5, 13), (RX6, TX6, 10), (RX7, TX7, 6), (RX8, TX8, 4), (RX9, TX9, 3), (RX10, TX10, 3), (RX11, TX11, 2)]

