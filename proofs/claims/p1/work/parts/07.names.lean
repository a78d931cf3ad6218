theorem dX11_ofPackNow_47 : decode cX11_ofPackNow 47 = .ok (.iload_n 3, 1) := by decide +kernel
theorem dX11_ofPackNow_48 : decode cX11_ofPackNow 48 = .ok (.iconst (-1), 1) := by decide +kernel
theorem dX11_ofPackNow_49 : decode cX11_ofPackNow 49 = .ok (.if_icmp .ne 7, 3) := by decide +kernel
theorem dX11_ofPackNow_52 : decode cX11_ofPackNow 52 = .ok (.iconst 0, 1) := by decide +kernel
theorem dX11_ofPackNow_53 : decode cX11_ofPackNow 53 = .ok (.goto 12, 3) := by decide +kernel
theorem dX11_ofPackNow_56 : decode cX11_ofPackNow 56 = .ok (.aload_n 0, 1) := by decide +kernel
theorem dX11_ofPackNow_57 : decode cX11_ofPackNow 57 = .ok (.getfield 10, 3) := by decide +kernel
theorem dX11_ofPackNow_60 : decode cX11_ofPackNow 60 = .ok (.iload_n 3, 1) := by decide +kernel
theorem dX11_ofPackNow_61 : decode cX11_ofPackNow 61 = .ok (.aload_n 1, 1) := by decide +kernel
theorem dX11_ofPackNow_62 : decode cX11_ofPackNow 62 = .ok (.invokevirtual 227, 3) := by decide +kernel
theorem dX11_ofPackNow_65 : decode cX11_ofPackNow 65 = .ok (.iastore, 1) := by decide +kernel
theorem dX11_ofPackNow_66 : decode cX11_ofPackNow 66 = .ok (.dup, 1) := by decide +kernel
theorem dX11_ofPackNow_67 : decode cX11_ofPackNow 67 = .ok (.bipush 6, 2) := by decide +kernel
theorem dX11_ofPackNow_69 : decode cX11_ofPackNow 69 = .ok (.aload_n 1, 1) := by decide +kernel
theorem dX11_ofPackNow_70 : decode cX11_ofPackNow 70 = .ok (.getfield 231, 3) := by decide +kernel
theorem dX11_ofPackNow_73 : decode cX11_ofPackNow 73 = .ok (.iastore, 1) := by decide +kernel
theorem dX11_ofPackNow_74 : decode cX11_ofPackNow 74 = .ok (.astore 4, 2) := by decide +kernel
theorem dX11_ofPackNow_76 : decode cX11_ofPackNow 76 = .ok (.aload 4, 2) := by decide +kernel
theorem dX11_ofPackNow_78 : decode cX11_ofPackNow 78 = .ok (.iload_n 2, 1) := by decide +kernel
theorem dX11_ofPackNow_79 : decode cX11_ofPackNow 79 = .ok (.iaload, 1) := by decide +kernel
theorem dX11_ofPackNow_80 : decode cX11_ofPackNow 80 = .ok (.ireturn, 1) := by decide +kernel
set_option maxRecDepth 20000 in
theorem ggX11_ofPack_X11_isNoPack : GoodIn wsX11_ofPack wsX11_isNoPack := goodIn_r _ [8, 1, 2, 9, 10, 11, 12, 13, 14, 15, 16, 7, 17, 18, 19, 20, 21, 22, 23, 24, 25, 26, 154, 155, 156, 157, 158, 159, 160, 161, 162, 163, 164, 165, 166, 167, 168] (by decide +kernel) (by decide +kernel)
set_option maxRecDepth 20000 in
theorem gX11_ofPack_X11_isNoPack : GoodIn wsX11_ofPack (wsV RX11 201 RX11 yX11_isNoPack wsX11_isNoPack) := goodIn_app (goodIn_of _ (by decide +kernel)) ggX11_ofPack_X11_isNoPack
set_option maxRecDepth 20000 in
theorem ggX11_ofPack_X11_isIn : GoodIn wsX11_ofPack wsX11_isIn := goodIn_r _ [17] (by decide +kernel) (by decide +kernel)
set_option maxRecDepth 20000 in
theorem gX11_ofPack_X11_isIn : GoodIn wsX11_ofPack (va_wsS RX11 34 yX11_isIn wsX11_isIn) := goodIn_app (goodIn_of _ (by decide +kernel)) ggX11_ofPack_X11_isIn
set_option maxRecDepth 20000 in
theorem ggX11_ofPack_X11_refuse : GoodIn wsX11_ofPack wsX11_refuse := goodIn_r _ [26, 22, 154, 155] (by decide +kernel) (by decide +kernel)
set_option maxRecDepth 20000 in
theorem gX11_ofPack_X11_refuse : GoodIn wsX11_ofPack (wsV RX11 20 RX11 yX11_refuse wsX11_refuse) := goodIn_app (goodIn_of _ (by decide +kernel)) ggX11_ofPack_X11_refuse
set_option maxRecDepth 20000 in
theorem ggX11_ofPack_Jx4a65c_get_915e3 : GoodIn wsX11_ofPack wsJx4a65c_get_915e3 := goodIn_r _ [30, 14, 31, 32, 33, 34, 35, 36, 37, 38, 39, 40, 41, 12, 42, 43, 166, 167, 168] (by decide +kernel) (by decide +kernel)
set_option maxRecDepth 20000 in
theorem gX11_ofPack_Jx4a65c_get_915e3 : GoodIn wsX11_ofPack (wsV RX11 45 RJx4a65c yJx4a65c_get_915e3 wsJx4a65c_get_915e3) := goodIn_app (goodIn_of _ (by decide +kernel)) ggX11_ofPack_Jx4a65c_get_915e3
set_option maxRecDepth 20000 in
theorem ggX11_ofPack_X11_ofPackNow : GoodIn wsX11_ofPack wsX11_ofPackNow := goodIn_r _ [47, 1, 48, 49, 50, 51, 52, 53, 54, 55, 56, 57, 58, 59, 60, 10, 11, 12, 13, 14, 61, 62, 63, 64, 65, 66, 67, 68, 69, 70, 71, 72, 73, 74, 75, 76, 28, 29, 30, 31, 32, 33, 34, 35, 36, 37, 38, 39, 40, 41, 42, 43, 77, 78, 79, 80, 81, 82, 83, 84, 85, 86, 87, 88, 89, 90, 91, 92, 93, 94, 95, 96, 97, 98, 99, 100, 101, 102, 103, 104, 105, 106, 107, 108, 109, 110, 111, 112, 113, 114, 115, 116, 117, 118, 119, 120, 121, 122, 123, 124, 125, 126, 127, 128, 129, 130, 131, 132, 133, 134, 135, 136, 137, 138, 139, 140, 141, 142, 143, 144, 145, 146, 147, 148, 149, 150, 151, 152, 153, 154, 155, 169, 170, 171, 172, 173, 174, 156, 157, 158, 159, 160, 161, 162, 163, 164, 165, 166, 167, 168, 175, 176, 177, 178, 179, 180, 181, 182, 183, 184] (by decide +kernel) (by decide +kernel)
set_option maxRecDepth 20000 in
theorem gX11_ofPack_X11_ofPackNow : GoodIn wsX11_ofPack (wsV RX11 234 RX11 yX11_ofPackNow wsX11_ofPackNow) := goodIn_app (goodIn_of _ (by decide +kernel)) ggX11_ofPack_X11_ofPackNow
theorem dX11_ofPack_0 : decode cX11_ofPack 0 = .ok (.aload_n 0, 1) := by decide +kernel
theorem dX11_ofPack_1 : decode cX11_ofPack 1 = .ok (.iload_n 1, 1) := by decide +kernel
theorem dX11_ofPack_2 : decode cX11_ofPack 2 = .ok (.invokevirtual 201, 3) := by decide +kernel
theorem dX11_ofPack_5 : decode cX11_ofPack 5 = .ok (.ifCond .ne 26, 3) := by decide +kernel
theorem dX11_ofPack_8 : decode cX11_ofPack 8 = .ok (.aload_n 0, 1) := by decide +kernel
theorem dX11_ofPack_9 : decode cX11_ofPack 9 = .ok (.iload_n 2, 1) := by decide +kernel
theorem dX11_ofPack_10 : decode cX11_ofPack 10 = .ok (.iconst 0, 1) := by decide +kernel
theorem dX11_ofPack_11 : decode cX11_ofPack 11 = .ok (.bipush 6, 2) := by decide +kernel
theorem dX11_ofPack_13 : decode cX11_ofPack 13 = .ok (.invokestatic 34, 3) := by decide +kernel
theorem dX11_ofPack_16 : decode cX11_ofPack 16 = .ok (.ifCond .ne 7, 3) := by decide +kernel
theorem dX11_ofPack_19 : decode cX11_ofPack 19 = .ok (.iconst 1, 1) := by decide +kernel
theorem dX11_ofPack_20 : decode cX11_ofPack 20 = .ok (.goto 4, 3) := by decide +kernel
theorem dX11_ofPack_23 : decode cX11_ofPack 23 = .ok (.iconst 0, 1) := by decide +kernel
theorem dX11_ofPack_24 : decode cX11_ofPack 24 = .ok (.iconst 2, 1) := by decide +kernel
theorem dX11_ofPack_25 : decode cX11_ofPack 25 = .ok (.invokevirtual 20, 3) := by decide +kernel
theorem dX11_ofPack_28 : decode cX11_ofPack 28 = .ok (.ifCond .eq 7, 3) := by decide +kernel
theorem dX11_ofPack_31 : decode cX11_ofPack 31 = .ok (.iconst 0, 1) := by decide +kernel
theorem dX11_ofPack_32 : decode cX11_ofPack 32 = .ok (.goto 22, 3) := by decide +kernel
theorem dX11_ofPack_35 : decode cX11_ofPack 35 = .ok (.aload_n 0, 1) := by decide +kernel
theorem dX11_ofPack_36 : decode cX11_ofPack 36 = .ok (.aload_n 0, 1) := by decide +kernel
theorem dX11_ofPack_37 : decode cX11_ofPack 37 = .ok (.getfield 10, 3) := by decide +kernel
theorem dX11_ofPack_40 : decode cX11_ofPack 40 = .ok (.getfield 193, 3) := by decide +kernel
theorem dX11_ofPack_43 : decode cX11_ofPack 43 = .ok (.iload_n 1, 1) := by decide +kernel
theorem dX11_ofPack_44 : decode cX11_ofPack 44 = .ok (.invokevirtual 45, 3) := by decide +kernel
theorem dX11_ofPack_47 : decode cX11_ofPack 47 = .ok (.checkcast 196, 3) := by decide +kernel
theorem dX11_ofPack_50 : decode cX11_ofPack 50 = .ok (.iload_n 2, 1) := by decide +kernel
theorem dX11_ofPack_51 : decode cX11_ofPack 51 = .ok (.invokevirtual 234, 3) := by decide +kernel
theorem dX11_ofPack_54 : decode cX11_ofPack 54 = .ok (.ireturn, 1) := by decide +kernel
set_option maxRecDepth 20000 in
theorem ggX11_brokenAll_Jx4a65c_size_8abf5 : GoodIn wsX11_brokenAll wsJx4a65c_size_8abf5 := goodIn_r _ [7, 8, 62, 63, 64] (by decide +kernel) (by decide +kernel)
set_option maxRecDepth 20000 in
theorem gX11_brokenAll_Jx4a65c_size_8abf5 : GoodIn wsX11_brokenAll (wsV RX11 28 RJx4a65c yJx4a65c_size_8abf5 wsJx4a65c_size_8abf5) := goodIn_app (goodIn_of _ (by decide +kernel)) ggX11_brokenAll_Jx4a65c_size_8abf5
set_option maxRecDepth 20000 in
theorem ggX11_brokenAll_X6_holds : GoodIn wsX11_brokenAll wsX6_holds := goodIn_r _ [13, 14, 15, 16, 17, 18, 19, 20, 21, 6, 22, 8, 23, 24, 25, 26, 27, 28, 29, 30, 31, 32, 33, 34, 35, 36, 37, 38, 39, 40, 41, 42, 43, 44, 45, 46, 47, 48, 4, 5, 7, 49, 52, 53, 54, 55, 56, 57, 58, 59, 60, 61, 65, 66, 67, 62, 63, 64, 68, 69, 70] (by decide +kernel) (by decide +kernel)
set_option maxRecDepth 20000 in
theorem gX11_brokenAll_X6_holds : GoodIn wsX11_brokenAll (wsV RX11 135 RX6 yX6_holds wsX6_holds) := goodIn_app (goodIn_of _ (by decide +kernel)) ggX11_brokenAll_X6_holds
theorem dX11_brokenAll_0 : decode cX11_brokenAll 0 = .ok (.iconst 0, 1) := by decide +kernel
theorem dX11_brokenAll_1 : decode cX11_brokenAll 1 = .ok (.istore_n 1, 1) := by decide +kernel
theorem dX11_brokenAll_2 : decode cX11_brokenAll 2 = .ok (.iconst 0, 1) := by decide +kernel
theorem dX11_brokenAll_3 : decode cX11_brokenAll 3 = .ok (.istore_n 2, 1) := by decide +kernel
theorem dX11_brokenAll_4 : decode cX11_brokenAll 4 = .ok (.iload_n 2, 1) := by decide +kernel
theorem dX11_brokenAll_5 : decode cX11_brokenAll 5 = .ok (.aload_n 0, 1) := by decide +kernel
theorem dX11_brokenAll_6 : decode cX11_brokenAll 6 = .ok (.getfield 10, 3) := by decide +kernel
theorem dX11_brokenAll_9 : decode cX11_brokenAll 9 = .ok (.getfield 116, 3) := by decide +kernel
theorem dX11_brokenAll_12 : decode cX11_brokenAll 12 = .ok (.invokevirtual 28, 3) := by decide +kernel
theorem dX11_brokenAll_15 : decode cX11_brokenAll 15 = .ok (.if_icmp .ge 28, 3) := by decide +kernel
theorem dX11_brokenAll_18 : decode cX11_brokenAll 18 = .ok (.iload_n 1, 1) := by decide +kernel
theorem dX11_brokenAll_19 : decode cX11_brokenAll 19 = .ok (.aload_n 0, 1) := by decide +kernel
theorem dX11_brokenAll_20 : decode cX11_brokenAll 20 = .ok (.getfield 10, 3) := by decide +kernel
theorem dX11_brokenAll_23 : decode cX11_brokenAll 23 = .ok (.iload_n 2, 1) := by decide +kernel
theorem dX11_brokenAll_24 : decode cX11_brokenAll 24 = .ok (.invokevirtual 135, 3) := by decide +kernel
theorem dX11_brokenAll_27 : decode cX11_brokenAll 27 = .ok (.ifCond .eq 7, 3) := by decide +kernel
theorem dX11_brokenAll_30 : decode cX11_brokenAll 30 = .ok (.iconst 0, 1) := by decide +kernel
theorem dX11_brokenAll_31 : decode cX11_brokenAll 31 = .ok (.goto 4, 3) := by decide +kernel
theorem dX11_brokenAll_34 : decode cX11_brokenAll 34 = .ok (.iconst 1, 1) := by decide +kernel
theorem dX11_brokenAll_35 : decode cX11_brokenAll 35 = .ok (.iadd, 1) := by decide +kernel
theorem dX11_brokenAll_36 : decode cX11_brokenAll 36 = .ok (.istore_n 1, 1) := by decide +kernel
theorem dX11_brokenAll_37 : decode cX11_brokenAll 37 = .ok (.iinc 2 1, 3) := by decide +kernel
theorem dX11_brokenAll_40 : decode cX11_brokenAll 40 = .ok (.goto (-36), 3) := by decide +kernel
theorem dX11_brokenAll_43 : decode cX11_brokenAll 43 = .ok (.iload_n 1, 1) := by decide +kernel
theorem dX11_brokenAll_44 : decode cX11_brokenAll 44 = .ok (.ireturn, 1) := by decide +kernel
set_option maxRecDepth 20000 in
theorem ggX11_notClosed_Jx4a65c_size_8abf5 : GoodIn wsX11_notClosed wsJx4a65c_size_8abf5 := goodIn_r _ [8, 9, 39, 40, 41] (by decide +kernel) (by decide +kernel)
set_option maxRecDepth 20000 in
theorem gX11_notClosed_Jx4a65c_size_8abf5 : GoodIn wsX11_notClosed (wsV RX11 28 RJx4a65c yJx4a65c_size_8abf5 wsJx4a65c_size_8abf5) := goodIn_app (goodIn_of _ (by decide +kernel)) ggX11_notClosed_Jx4a65c_size_8abf5
set_option maxRecDepth 20000 in
theorem ggX11_notClosed_Jx4a65c_get_915e3 : GoodIn wsX11_notClosed wsJx4a65c_get_915e3 := goodIn_r _ [13, 9, 14, 15, 16, 17, 18, 19, 20, 21, 22, 23, 24, 7, 25, 26, 39, 40, 41] (by decide +kernel) (by decide +kernel)
set_option maxRecDepth 20000 in
theorem gX11_notClosed_Jx4a65c_get_915e3 : GoodIn wsX11_notClosed (wsV RX11 45 RJx4a65c yJx4a65c_get_915e3 wsJx4a65c_get_915e3) := goodIn_app (goodIn_of _ (by decide +kernel)) ggX11_notClosed_Jx4a65c_get_915e3
theorem dX11_notClosed_0 : decode cX11_notClosed 0 = .ok (.iconst 0, 1) := by decide +kernel
theorem dX11_notClosed_1 : decode cX11_notClosed 1 = .ok (.istore_n 1, 1) := by decide +kernel
theorem dX11_notClosed_2 : decode cX11_notClosed 2 = .ok (.iconst 0, 1) := by decide +kernel
theorem dX11_notClosed_3 : decode cX11_notClosed 3 = .ok (.istore_n 2, 1) := by decide +kernel
theorem dX11_notClosed_4 : decode cX11_notClosed 4 = .ok (.iload_n 2, 1) := by decide +kernel
theorem dX11_notClosed_5 : decode cX11_notClosed 5 = .ok (.aload_n 0, 1) := by decide +kernel
theorem dX11_notClosed_6 : decode cX11_notClosed 6 = .ok (.getfield 10, 3) := by decide +kernel
theorem dX11_notClosed_9 : decode cX11_notClosed 9 = .ok (.getfield 170, 3) := by decide +kernel
theorem dX11_notClosed_12 : decode cX11_notClosed 12 = .ok (.invokevirtual 28, 3) := by decide +kernel
theorem dX11_notClosed_15 : decode cX11_notClosed 15 = .ok (.if_icmp .ge 37, 3) := by decide +kernel
theorem dX11_notClosed_18 : decode cX11_notClosed 18 = .ok (.iload_n 1, 1) := by decide +kernel
theorem dX11_notClosed_19 : decode cX11_notClosed 19 = .ok (.aload_n 0, 1) := by decide +kernel
theorem dX11_notClosed_20 : decode cX11_notClosed 20 = .ok (.getfield 10, 3) := by decide +kernel
theorem dX11_notClosed_23 : decode cX11_notClosed 23 = .ok (.getfield 170, 3) := by decide +kernel
theorem dX11_notClosed_26 : decode cX11_notClosed 26 = .ok (.iload_n 2, 1) := by decide +kernel
theorem dX11_notClosed_27 : decode cX11_notClosed 27 = .ok (.invokevirtual 45, 3) := by decide +kernel
theorem dX11_notClosed_30 : decode cX11_notClosed 30 = .ok (.checkcast 176, 3) := by decide +kernel
theorem dX11_notClosed_33 : decode cX11_notClosed 33 = .ok (.iconst 1, 1) := by decide +kernel
theorem dX11_notClosed_34 : decode cX11_notClosed 34 = .ok (.iaload, 1) := by decide +kernel
theorem dX11_notClosed_35 : decode cX11_notClosed 35 = .ok (.iconst 2, 1) := by decide +kernel
theorem dX11_notClosed_36 : decode cX11_notClosed 36 = .ok (.if_icmp .ne 7, 3) := by decide +kernel
theorem dX11_notClosed_39 : decode cX11_notClosed 39 = .ok (.iconst 0, 1) := by decide +kernel
theorem dX11_notClosed_40 : decode cX11_notClosed 40 = .ok (.goto 4, 3) := by decide +kernel
theorem dX11_notClosed_43 : decode cX11_notClosed 43 = .ok (.iconst 1, 1) := by decide +kernel
theorem dX11_notClosed_44 : decode cX11_notClosed 44 = .ok (.iadd, 1) := by decide +kernel
theorem dX11_notClosed_45 : decode cX11_notClosed 45 = .ok (.istore_n 1, 1) := by decide +kernel
theorem dX11_notClosed_46 : decode cX11_notClosed 46 = .ok (.iinc 2 1, 3) := by decide +kernel
theorem dX11_notClosed_49 : decode cX11_notClosed 49 = .ok (.goto (-45), 3) := by decide +kernel
theorem dX11_notClosed_52 : decode cX11_notClosed 52 = .ok (.iload_n 1, 1) := by decide +kernel
theorem dX11_notClosed_53 : decode cX11_notClosed 53 = .ok (.ireturn, 1) := by decide +kernel
set_option maxRecDepth 20000 in
theorem ggX11_clashesAll_Jx4a65c_size_8abf5 : GoodIn wsX11_clashesAll wsJx4a65c_size_8abf5 := goodIn_r _ [7, 8, 97, 98, 99] (by decide +kernel) (by decide +kernel)
set_option maxRecDepth 20000 in
theorem gX11_clashesAll_Jx4a65c_size_8abf5 : GoodIn wsX11_clashesAll (wsV RX11 28 RJx4a65c yJx4a65c_size_8abf5 wsJx4a65c_size_8abf5) := goodIn_app (goodIn_of _ (by decide +kernel)) ggX11_clashesAll_Jx4a65c_size_8abf5
set_option maxRecDepth 20000 in
theorem ggX11_clashesAll_X6_clashes : GoodIn wsX11_clashesAll wsX6_clashes := goodIn_r _ [13, 14, 15, 4, 5, 6, 7, 8, 16, 17, 18, 12, 19, 20, 21, 22, 23, 24, 25, 26, 27, 28, 29, 30, 31, 32, 33, 34, 35, 36, 37, 38, 39, 40, 41, 42, 43, 44, 45, 46, 47, 48, 49, 50, 51, 52, 53, 54, 55, 56, 57, 58, 59, 60, 61, 62, 63, 64, 65, 66, 67, 68, 69, 70, 71, 72, 73, 74, 75, 76, 77, 78, 79, 80, 81, 82, 83, 84, 87, 88, 89, 90, 91, 92, 93, 94, 95, 96, 97, 98, 99, 100, 101, 102, 103, 104, 105, 106, 107, 108, 109] (by decide +kernel) (by decide +kernel)
set_option maxRecDepth 20000 in
theorem gX11_clashesAll_X6_clashes : GoodIn wsX11_clashesAll (wsV RX11 128 RX6 yX6_clashes wsX6_clashes) := goodIn_app (goodIn_of _ (by decide +kernel)) ggX11_clashesAll_X6_clashes
theorem dX11_clashesAll_0 : decode cX11_clashesAll 0 = .ok (.iconst 0, 1) := by decide +kernel
theorem dX11_clashesAll_1 : decode cX11_clashesAll 1 = .ok (.istore_n 1, 1) := by decide +kernel
theorem dX11_clashesAll_2 : decode cX11_clashesAll 2 = .ok (.iconst 0, 1) := by decide +kernel
theorem dX11_clashesAll_3 : decode cX11_clashesAll 3 = .ok (.istore_n 2, 1) := by decide +kernel
theorem dX11_clashesAll_4 : decode cX11_clashesAll 4 = .ok (.iload_n 2, 1) := by decide +kernel
theorem dX11_clashesAll_5 : decode cX11_clashesAll 5 = .ok (.aload_n 0, 1) := by decide +kernel
theorem dX11_clashesAll_6 : decode cX11_clashesAll 6 = .ok (.getfield 10, 3) := by decide +kernel
theorem dX11_clashesAll_9 : decode cX11_clashesAll 9 = .ok (.getfield 24, 3) := by decide +kernel
theorem dX11_clashesAll_12 : decode cX11_clashesAll 12 = .ok (.invokevirtual 28, 3) := by decide +kernel
theorem dX11_clashesAll_15 : decode cX11_clashesAll 15 = .ok (.if_icmp .ge 20, 3) := by decide +kernel
theorem dX11_clashesAll_18 : decode cX11_clashesAll 18 = .ok (.iload_n 1, 1) := by decide +kernel
theorem dX11_clashesAll_19 : decode cX11_clashesAll 19 = .ok (.aload_n 0, 1) := by decide +kernel
theorem dX11_clashesAll_20 : decode cX11_clashesAll 20 = .ok (.getfield 10, 3) := by decide +kernel
theorem dX11_clashesAll_23 : decode cX11_clashesAll 23 = .ok (.iload_n 2, 1) := by decide +kernel
theorem dX11_clashesAll_24 : decode cX11_clashesAll 24 = .ok (.invokevirtual 128, 3) := by decide +kernel
theorem dX11_clashesAll_27 : decode cX11_clashesAll 27 = .ok (.iadd, 1) := by decide +kernel
theorem dX11_clashesAll_28 : decode cX11_clashesAll 28 = .ok (.istore_n 1, 1) := by decide +kernel
theorem dX11_clashesAll_29 : decode cX11_clashesAll 29 = .ok (.iinc 2 1, 3) := by decide +kernel
theorem dX11_clashesAll_32 : decode cX11_clashesAll 32 = .ok (.goto (-28), 3) := by decide +kernel
theorem dX11_clashesAll_35 : decode cX11_clashesAll 35 = .ok (.iload_n 1, 1) := by decide +kernel
theorem dX11_clashesAll_36 : decode cX11_clashesAll 36 = .ok (.iconst 2, 1) := by decide +kernel
theorem dX11_clashesAll_37 : decode cX11_clashesAll 37 = .ok (.idiv, 1) := by decide +kernel
theorem dX11_clashesAll_38 : decode cX11_clashesAll 38 = .ok (.ireturn, 1) := by decide +kernel
set_option maxRecDepth 20000 in
theorem ggX11_packsIn_Jx4a65c_size_8abf5 : GoodIn wsX11_packsIn wsJx4a65c_size_8abf5 := goodIn_r _ [9, 10, 46, 47, 48] (by decide +kernel) (by decide +kernel)
set_option maxRecDepth 20000 in
theorem gX11_packsIn_Jx4a65c_size_8abf5 : GoodIn wsX11_packsIn (wsV RX11 28 RJx4a65c yJx4a65c_size_8abf5 wsJx4a65c_size_8abf5) := goodIn_app (goodIn_of _ (by decide +kernel)) ggX11_packsIn_Jx4a65c_size_8abf5
set_option maxRecDepth 20000 in
theorem ggX11_packsIn_Jx4a65c_get_915e3 : GoodIn wsX11_packsIn wsJx4a65c_get_915e3 := goodIn_r _ [14, 10, 15, 16, 17, 18, 19, 20, 21, 22, 23, 24, 25, 8, 26, 27, 46, 47, 48] (by decide +kernel) (by decide +kernel)
set_option maxRecDepth 20000 in
theorem gX11_packsIn_Jx4a65c_get_915e3 : GoodIn wsX11_packsIn (wsV RX11 45 RJx4a65c yJx4a65c_get_915e3 wsJx4a65c_get_915e3) := goodIn_app (goodIn_of _ (by decide +kernel)) ggX11_packsIn_Jx4a65c_get_915e3
theorem dX11_packsIn_0 : decode cX11_packsIn 0 = .ok (.iconst 0, 1) := by decide +kernel
theorem dX11_packsIn_1 : decode cX11_packsIn 1 = .ok (.istore_n 2, 1) := by decide +kernel
theorem dX11_packsIn_2 : decode cX11_packsIn 2 = .ok (.iconst 0, 1) := by decide +kernel
theorem dX11_packsIn_3 : decode cX11_packsIn 3 = .ok (.istore_n 3, 1) := by decide +kernel
theorem dX11_packsIn_4 : decode cX11_packsIn 4 = .ok (.iload_n 3, 1) := by decide +kernel
theorem dX11_packsIn_5 : decode cX11_packsIn 5 = .ok (.aload_n 0, 1) := by decide +kernel
theorem dX11_packsIn_6 : decode cX11_packsIn 6 = .ok (.getfield 10, 3) := by decide +kernel
theorem dX11_packsIn_9 : decode cX11_packsIn 9 = .ok (.getfield 193, 3) := by decide +kernel
theorem dX11_packsIn_12 : decode cX11_packsIn 12 = .ok (.invokevirtual 28, 3) := by decide +kernel
theorem dX11_packsIn_15 : decode cX11_packsIn 15 = .ok (.if_icmp .ge 38, 3) := by decide +kernel
theorem dX11_packsIn_18 : decode cX11_packsIn 18 = .ok (.iload_n 2, 1) := by decide +kernel
theorem dX11_packsIn_19 : decode cX11_packsIn 19 = .ok (.aload_n 0, 1) := by decide +kernel
theorem dX11_packsIn_20 : decode cX11_packsIn 20 = .ok (.getfield 10, 3) := by decide +kernel
theorem dX11_packsIn_23 : decode cX11_packsIn 23 = .ok (.getfield 193, 3) := by decide +kernel
theorem dX11_packsIn_26 : decode cX11_packsIn 26 = .ok (.iload_n 3, 1) := by decide +kernel
theorem dX11_packsIn_27 : decode cX11_packsIn 27 = .ok (.invokevirtual 45, 3) := by decide +kernel
theorem dX11_packsIn_30 : decode cX11_packsIn 30 = .ok (.checkcast 196, 3) := by decide +kernel
theorem dX11_packsIn_33 : decode cX11_packsIn 33 = .ok (.getfield 204, 3) := by decide +kernel
theorem dX11_packsIn_36 : decode cX11_packsIn 36 = .ok (.iload_n 1, 1) := by decide +kernel
theorem dX11_packsIn_37 : decode cX11_packsIn 37 = .ok (.if_icmp .ne 7, 3) := by decide +kernel
theorem dX11_packsIn_40 : decode cX11_packsIn 40 = .ok (.iconst 1, 1) := by decide +kernel
theorem dX11_packsIn_41 : decode cX11_packsIn 41 = .ok (.goto 4, 3) := by decide +kernel
theorem dX11_packsIn_44 : decode cX11_packsIn 44 = .ok (.iconst 0, 1) := by decide +kernel
theorem dX11_packsIn_45 : decode cX11_packsIn 45 = .ok (.iadd, 1) := by decide +kernel
theorem dX11_packsIn_46 : decode cX11_packsIn 46 = .ok (.istore_n 2, 1) := by decide +kernel
theorem dX11_packsIn_47 : decode cX11_packsIn 47 = .ok (.iinc 3 1, 3) := by decide +kernel
theorem dX11_packsIn_50 : decode cX11_packsIn 50 = .ok (.goto (-46), 3) := by decide +kernel
theorem dX11_packsIn_53 : decode cX11_packsIn 53 = .ok (.iload_n 2, 1) := by decide +kernel
theorem dX11_packsIn_54 : decode cX11_packsIn 54 = .ok (.ireturn, 1) := by decide +kernel
set_option maxRecDepth 20000 in
theorem ggX11_count_Jx4a65c_size_8abf5 : GoodIn wsX11_count wsJx4a65c_size_8abf5 := goodIn_r _ [12, 13, 131, 132, 133] (by decide +kernel) (by decide +kernel)
set_option maxRecDepth 20000 in
theorem gX11_count_Jx4a65c_size_8abf5 : GoodIn wsX11_count (wsV RX11 28 RJx4a65c yJx4a65c_size_8abf5 wsJx4a65c_size_8abf5) := goodIn_app (goodIn_of _ (by decide +kernel)) ggX11_count_Jx4a65c_size_8abf5
set_option maxRecDepth 20000 in
theorem ggX11_count_X11_brokenAll : GoodIn wsX11_count wsX11_brokenAll := goodIn_r _ [18, 1, 3, 8, 9, 10, 11, 12, 13, 19, 20, 21, 22, 23, 24, 25, 26, 27, 28, 29, 30, 31, 32, 33, 34, 35, 36, 37, 38, 39, 40, 41, 42, 43, 44, 45, 46, 47, 48, 49, 50, 51, 52, 53, 54, 55, 56, 57, 58, 59, 119, 120, 121, 122, 123, 124, 125, 126, 127, 128, 129, 130, 131, 132, 133, 134, 135, 136, 137, 138, 139] (by decide +kernel) (by decide +kernel)
set_option maxRecDepth 20000 in
theorem gX11_count_X11_brokenAll : GoodIn wsX11_count (wsV RX11 238 RX11 yX11_brokenAll wsX11_brokenAll) := goodIn_app (goodIn_of _ (by decide +kernel)) ggX11_count_X11_brokenAll
set_option maxRecDepth 20000 in
theorem ggX11_count_X11_notClosed : GoodIn wsX11_count wsX11_notClosed := goodIn_r _ [63, 1, 64, 65, 8, 9, 10, 11, 12, 13, 66, 30, 31, 32, 33, 34, 35, 36, 37, 38, 39, 40, 41, 42, 43, 44, 45, 119, 120, 121, 122, 123, 124, 125, 126, 127, 128, 129, 130, 131, 132, 133] (by decide +kernel) (by decide +kernel)
set_option maxRecDepth 20000 in
theorem gX11_count_X11_notClosed : GoodIn wsX11_count (wsV RX11 241 RX11 yX11_notClosed wsX11_notClosed) := goodIn_app (goodIn_of _ (by decide +kernel)) ggX11_count_X11_notClosed
set_option maxRecDepth 20000 in
theorem ggX11_count_X11_clashesAll : GoodIn wsX11_count wsX11_clashesAll := goodIn_r _ [70, 1, 2, 8, 9, 10, 11, 12, 13, 71, 72, 73, 22, 74, 26, 75, 76, 77, 78, 79, 27, 80, 81, 82, 83, 84, 85, 29, 30, 31, 32, 33, 34, 35, 36, 37, 38, 39, 40, 41, 42, 43, 44, 45, 46, 47, 48, 49, 50, 51, 52, 53, 54, 55, 56, 57, 58, 59, 86, 87, 88, 89, 90, 91, 92, 93, 94, 95, 96, 97, 98, 99, 100, 101, 102, 103, 104, 105, 106, 107, 108, 109, 110, 111, 112, 119, 120, 121, 122, 123, 124, 125, 126, 127, 128, 129, 130, 131, 132, 133, 137, 138, 139, 134, 135, 136, 140, 141, 142, 143] (by decide +kernel) (by decide +kernel)
set_option maxRecDepth 20000 in
theorem gX11_count_X11_clashesAll : GoodIn wsX11_count (wsV RX11 244 RX11 yX11_clashesAll wsX11_clashesAll) := goodIn_app (goodIn_of _ (by decide +kernel)) ggX11_count_X11_clashesAll
set_option maxRecDepth 20000 in
theorem ggX11_count_X11_packsIn : GoodIn wsX11_count wsX11_packsIn := goodIn_r _ [116, 1, 6, 117, 118, 8, 9, 10, 11, 12, 13, 66, 30, 31, 32, 33, 34, 35, 36, 37, 38, 39, 40, 41, 42, 43, 44, 45, 119, 120, 121, 122, 123, 124, 125, 126, 127, 128, 129, 130, 144, 145, 146, 147, 148, 149, 131, 132, 133] (by decide +kernel) (by decide +kernel)
set_option maxRecDepth 20000 in
theorem gX11_count_X11_packsIn : GoodIn wsX11_count (wsV RX11 247 RX11 yX11_packsIn wsX11_packsIn) := goodIn_app (goodIn_of _ (by decide +kernel)) ggX11_count_X11_packsIn
theorem dX11_count_0 : decode cX11_count 0 = .ok (.iload_n 1, 1) := by decide +kernel
theorem dX11_count_1 : decode cX11_count 1 = .ok (.tableswitch 145 0 12 #[67, 78, 89, 94, 105, 116, 121, 126, 145, 145, 145, 145, 137], 67) := by decide +kernel
theorem dX11_count_68 : decode cX11_count 68 = .ok (.aload_n 0, 1) := by decide +kernel
theorem dX11_count_69 : decode cX11_count 69 = .ok (.getfield 10, 3) := by decide +kernel
theorem dX11_count_72 : decode cX11_count 72 = .ok (.getfield 24, 3) := by decide +kernel
theorem dX11_count_75 : decode cX11_count 75 = .ok (.invokevirtual 28, 3) := by decide +kernel
theorem dX11_count_78 : decode cX11_count 78 = .ok (.ireturn, 1) := by decide +kernel
theorem dX11_count_79 : decode cX11_count 79 = .ok (.aload_n 0, 1) := by decide +kernel
theorem dX11_count_80 : decode cX11_count 80 = .ok (.getfield 10, 3) := by decide +kernel
theorem dX11_count_83 : decode cX11_count 83 = .ok (.getfield 116, 3) := by decide +kernel
theorem dX11_count_86 : decode cX11_count 86 = .ok (.invokevirtual 28, 3) := by decide +kernel
theorem dX11_count_89 : decode cX11_count 89 = .ok (.ireturn, 1) := by decide +kernel
theorem dX11_count_90 : decode cX11_count 90 = .ok (.aload_n 0, 1) := by decide +kernel
theorem dX11_count_91 : decode cX11_count 91 = .ok (.invokevirtual 238, 3) := by decide +kernel
theorem dX11_count_94 : decode cX11_count 94 = .ok (.ireturn, 1) := by decide +kernel
theorem dX11_count_95 : decode cX11_count 95 = .ok (.aload_n 0, 1) := by decide +kernel
theorem dX11_count_96 : decode cX11_count 96 = .ok (.getfield 10, 3) := by decide +kernel
theorem dX11_count_99 : decode cX11_count 99 = .ok (.getfield 141, 3) := by decide +kernel
theorem dX11_count_102 : decode cX11_count 102 = .ok (.invokevirtual 28, 3) := by decide +kernel
theorem dX11_count_105 : decode cX11_count 105 = .ok (.ireturn, 1) := by decide +kernel
theorem dX11_count_106 : decode cX11_count 106 = .ok (.aload_n 0, 1) := by decide +kernel
theorem dX11_count_107 : decode cX11_count 107 = .ok (.getfield 10, 3) := by decide +kernel
theorem dX11_count_110 : decode cX11_count 110 = .ok (.getfield 167, 3) := by decide +kernel
theorem dX11_count_113 : decode cX11_count 113 = .ok (.invokevirtual 28, 3) := by decide +kernel
theorem dX11_count_116 : decode cX11_count 116 = .ok (.ireturn, 1) := by decide +kernel
theorem dX11_count_117 : decode cX11_count 117 = .ok (.aload_n 0, 1) := by decide +kernel
theorem dX11_count_118 : decode cX11_count 118 = .ok (.invokevirtual 241, 3) := by decide +kernel
theorem dX11_count_121 : decode cX11_count 121 = .ok (.ireturn, 1) := by decide +kernel
theorem dX11_count_122 : decode cX11_count 122 = .ok (.aload_n 0, 1) := by decide +kernel
theorem dX11_count_123 : decode cX11_count 123 = .ok (.invokevirtual 244, 3) := by decide +kernel
theorem dX11_count_126 : decode cX11_count 126 = .ok (.ireturn, 1) := by decide +kernel
theorem dX11_count_127 : decode cX11_count 127 = .ok (.aload_n 0, 1) := by decide +kernel
theorem dX11_count_128 : decode cX11_count 128 = .ok (.getfield 10, 3) := by decide +kernel
theorem dX11_count_131 : decode cX11_count 131 = .ok (.getfield 193, 3) := by decide +kernel
theorem dX11_count_134 : decode cX11_count 134 = .ok (.invokevirtual 28, 3) := by decide +kernel
theorem dX11_count_137 : decode cX11_count 137 = .ok (.ireturn, 1) := by decide +kernel
theorem dX11_count_138 : decode cX11_count 138 = .ok (.aload_n 0, 1) := by decide +kernel
theorem dX11_count_139 : decode cX11_count 139 = .ok (.getfield 10, 3) := by decide +kernel
theorem dX11_count_142 : decode cX11_count 142 = .ok (.getfield 147, 3) := by decide +kernel
theorem dX11_count_145 : decode cX11_count 145 = .ok (.ireturn, 1) := by decide +kernel
theorem dX11_count_146 : decode cX11_count 146 = .ok (.aload_n 0, 1) := by decide +kernel
theorem dX11_count_147 : decode cX11_count 147 = .ok (.iload_n 1, 1) := by decide +kernel
theorem dX11_count_148 : decode cX11_count 148 = .ok (.bipush 8, 2) := by decide +kernel
theorem dX11_count_150 : decode cX11_count 150 = .ok (.isub, 1) := by decide +kernel
theorem dX11_count_151 : decode cX11_count 151 = .ok (.invokevirtual 247, 3) := by decide +kernel
theorem dX11_count_154 : decode cX11_count 154 = .ok (.ireturn, 1) := by decide +kernel
set_option maxRecDepth 20000 in
theorem ggX11_many_X11_isIn : GoodIn wsX11_many wsX11_isIn := goodIn_r _ [4] (by decide +kernel) (by decide +kernel)
set_option maxRecDepth 20000 in
theorem gX11_many_X11_isIn : GoodIn wsX11_many (va_wsS RX11 34 yX11_isIn wsX11_isIn) := goodIn_app (goodIn_of _ (by decide +kernel)) ggX11_many_X11_isIn
set_option maxRecDepth 20000 in
theorem ggX11_many_X11_start : GoodIn wsX11_many wsX11_start := goodIn_r _ [8, 9, 10, 11, 12, 3, 13, 135, 136] (by decide +kernel) (by decide +kernel)
set_option maxRecDepth 20000 in
theorem gX11_many_X11_start : GoodIn wsX11_many (wsV RX11 42 RX11 yX11_start wsX11_start) := goodIn_app (goodIn_of _ (by decide +kernel)) ggX11_many_X11_start
set_option maxRecDepth 20000 in
theorem ggX11_many_X11_count : GoodIn wsX11_many wsX11_count := goodIn_r _ [17, 18, 19, 20, 21, 22, 23, 24, 25, 26, 27, 28, 29, 30, 31, 32, 33, 3, 34, 35, 36, 37, 38, 39, 40, 41, 42, 43, 44, 45, 46, 47, 48, 49, 50, 51, 52, 53, 54, 55, 56, 57, 58, 59, 60, 61, 62, 63, 64, 65, 66, 67, 68, 69, 70, 71, 72, 73, 74, 75, 76, 77, 78, 79, 80, 81, 82, 83, 84, 85, 86, 87, 88, 89, 90, 91, 92, 93, 94, 95, 96, 97, 98, 99, 100, 101, 102, 103, 104, 105, 106, 107, 108, 109, 110, 111, 112, 113, 114, 115, 116, 117, 118, 119, 120, 121, 122, 123, 124, 125, 126, 127, 128, 129, 130, 131, 132, 133, 134, 135, 136, 137, 138, 139, 140, 141, 142, 143, 144, 145, 146, 147, 148, 149, 150, 151, 152, 153, 154, 155, 156, 157, 158, 159, 160, 161, 162, 163, 164, 165] (by decide +kernel) (by decide +kernel)
set_option maxRecDepth 20000 in
theorem gX11_many_X11_count : GoodIn wsX11_many (wsV RX11 250 RX11 yX11_count wsX11_count) := goodIn_app (goodIn_of _ (by decide +kernel)) ggX11_many_X11_count
theorem dX11_many_0 : decode cX11_many 0 = .ok (.aload_n 0, 1) := by decide +kernel
theorem dX11_many_1 : decode cX11_many 1 = .ok (.iload_n 1, 1) := by decide +kernel
theorem dX11_many_2 : decode cX11_many 2 = .ok (.iconst 0, 1) := by decide +kernel
theorem dX11_many_3 : decode cX11_many 3 = .ok (.bipush 12, 2) := by decide +kernel
theorem dX11_many_5 : decode cX11_many 5 = .ok (.invokestatic 34, 3) := by decide +kernel
theorem dX11_many_8 : decode cX11_many 8 = .ok (.ifCond .ne 7, 3) := by decide +kernel
theorem dX11_many_11 : decode cX11_many 11 = .ok (.iconst 1, 1) := by decide +kernel
theorem dX11_many_12 : decode cX11_many 12 = .ok (.goto 4, 3) := by decide +kernel
theorem dX11_many_15 : decode cX11_many 15 = .ok (.iconst 0, 1) := by decide +kernel
theorem dX11_many_16 : decode cX11_many 16 = .ok (.iconst 1, 1) := by decide +kernel
theorem dX11_many_17 : decode cX11_many 17 = .ok (.invokevirtual 42, 3) := by decide +kernel
theorem dX11_many_20 : decode cX11_many 20 = .ok (.ifCond .eq 7, 3) := by decide +kernel
theorem dX11_many_23 : decode cX11_many 23 = .ok (.iconst 0, 1) := by decide +kernel
theorem dX11_many_24 : decode cX11_many 24 = .ok (.goto 8, 3) := by decide +kernel
theorem dX11_many_27 : decode cX11_many 27 = .ok (.aload_n 0, 1) := by decide +kernel
theorem dX11_many_28 : decode cX11_many 28 = .ok (.iload_n 1, 1) := by decide +kernel
theorem dX11_many_29 : decode cX11_many 29 = .ok (.invokevirtual 250, 3) := by decide +kernel
theorem dX11_many_32 : decode cX11_many 32 = .ok (.ireturn, 1) := by decide +kernel
set_option maxRecDepth 20000 in
theorem ggX11_meanRevisions_Jx4a65c_size_8abf5 : GoodIn wsX11_meanRevisions wsJx4a65c_size_8abf5 := goodIn_r _ [9, 10, 53, 54, 55] (by decide +kernel) (by decide +kernel)
set_option maxRecDepth 20000 in
theorem gX11_meanRevisions_Jx4a65c_size_8abf5 : GoodIn wsX11_meanRevisions (wsV RX11 28 RJx4a65c yJx4a65c_size_8abf5 wsJx4a65c_size_8abf5) := goodIn_app (goodIn_of _ (by decide +kernel)) ggX11_meanRevisions_Jx4a65c_size_8abf5
set_option maxRecDepth 20000 in
theorem ggX11_meanRevisions_X11_of : GoodIn wsX11_meanRevisions wsX11_of := goodIn_r _ [15, 2, 3, 16, 17, 18, 19, 8, 20, 10, 21, 22, 23, 24, 25, 26, 27, 28, 29, 30, 31, 32, 33, 38, 39, 40, 41, 42, 43, 44, 45, 46, 47, 48, 49, 53, 54, 55] (by decide +kernel) (by decide +kernel)
set_option maxRecDepth 20000 in
theorem gX11_meanRevisions_X11_of : GoodIn wsX11_meanRevisions (wsV RX11 78 RX11 yX11_of wsX11_of) := goodIn_app (goodIn_of _ (by decide +kernel)) ggX11_meanRevisions_X11_of
set_option maxRecDepth 20000 in
theorem ggX11_meanRevisions_Jx4a65c_isEmpty_aae02 : GoodIn wsX11_meanRevisions wsJx4a65c_isEmpty_aae02 := goodIn_r _ [37, 10, 53, 54, 55] (by decide +kernel) (by decide +kernel)
set_option maxRecDepth 20000 in
theorem gX11_meanRevisions_Jx4a65c_isEmpty_aae02 : GoodIn wsX11_meanRevisions (wsV RX11 253 RJx4a65c yJx4a65c_isEmpty_aae02 wsJx4a65c_isEmpty_aae02) := goodIn_app (goodIn_of _ (by decide +kernel)) ggX11_meanRevisions_Jx4a65c_isEmpty_aae02
theorem dX11_meanRevisions_0 : decode cX11_meanRevisions 0 = .ok (.aload_n 0, 1) := by decide +kernel
theorem dX11_meanRevisions_1 : decode cX11_meanRevisions 1 = .ok (.iconst 0, 1) := by decide +kernel
theorem dX11_meanRevisions_2 : decode cX11_meanRevisions 2 = .ok (.putfield 16, 3) := by decide +kernel
theorem dX11_meanRevisions_5 : decode cX11_meanRevisions 5 = .ok (.iconst 0, 1) := by decide +kernel
theorem dX11_meanRevisions_6 : decode cX11_meanRevisions 6 = .ok (.istore_n 1, 1) := by decide +kernel
theorem dX11_meanRevisions_7 : decode cX11_meanRevisions 7 = .ok (.iconst 0, 1) := by decide +kernel
theorem dX11_meanRevisions_8 : decode cX11_meanRevisions 8 = .ok (.istore_n 2, 1) := by decide +kernel
theorem dX11_meanRevisions_9 : decode cX11_meanRevisions 9 = .ok (.iload_n 2, 1) := by decide +kernel
theorem dX11_meanRevisions_10 : decode cX11_meanRevisions 10 = .ok (.aload_n 0, 1) := by decide +kernel
theorem dX11_meanRevisions_11 : decode cX11_meanRevisions 11 = .ok (.getfield 10, 3) := by decide +kernel
theorem dX11_meanRevisions_14 : decode cX11_meanRevisions 14 = .ok (.getfield 24, 3) := by decide +kernel
theorem dX11_meanRevisions_17 : decode cX11_meanRevisions 17 = .ok (.invokevirtual 28, 3) := by decide +kernel
theorem dX11_meanRevisions_20 : decode cX11_meanRevisions 20 = .ok (.if_icmp .ge 23, 3) := by decide +kernel
theorem dX11_meanRevisions_23 : decode cX11_meanRevisions 23 = .ok (.iload_n 1, 1) := by decide +kernel
theorem dX11_meanRevisions_24 : decode cX11_meanRevisions 24 = .ok (.aload_n 0, 1) := by decide +kernel
theorem dX11_meanRevisions_25 : decode cX11_meanRevisions 25 = .ok (.iload_n 2, 1) := by decide +kernel
theorem dX11_meanRevisions_26 : decode cX11_meanRevisions 26 = .ok (.invokevirtual 78, 3) := by decide +kernel
theorem dX11_meanRevisions_29 : decode cX11_meanRevisions 29 = .ok (.getfield 54, 3) := by decide +kernel
theorem dX11_meanRevisions_32 : decode cX11_meanRevisions 32 = .ok (.invokevirtual 28, 3) := by decide +kernel
theorem dX11_meanRevisions_35 : decode cX11_meanRevisions 35 = .ok (.iadd, 1) := by decide +kernel
theorem dX11_meanRevisions_36 : decode cX11_meanRevisions 36 = .ok (.istore_n 1, 1) := by decide +kernel
theorem dX11_meanRevisions_37 : decode cX11_meanRevisions 37 = .ok (.iinc 2 1, 3) := by decide +kernel
theorem dX11_meanRevisions_40 : decode cX11_meanRevisions 40 = .ok (.goto (-31), 3) := by decide +kernel
theorem dX11_meanRevisions_43 : decode cX11_meanRevisions 43 = .ok (.aload_n 0, 1) := by decide +kernel
theorem dX11_meanRevisions_44 : decode cX11_meanRevisions 44 = .ok (.getfield 10, 3) := by decide +kernel
theorem dX11_meanRevisions_47 : decode cX11_meanRevisions 47 = .ok (.getfield 24, 3) := by decide +kernel
theorem dX11_meanRevisions_50 : decode cX11_meanRevisions 50 = .ok (.invokevirtual 253, 3) := by decide +kernel
theorem dX11_meanRevisions_53 : decode cX11_meanRevisions 53 = .ok (.ifCond .eq 7, 3) := by decide +kernel
theorem dX11_meanRevisions_56 : decode cX11_meanRevisions 56 = .ok (.dconst 0, 1) := by decide +kernel
theorem dX11_meanRevisions_57 : decode cX11_meanRevisions 57 = .ok (.goto 17, 3) := by decide +kernel
theorem dX11_meanRevisions_60 : decode cX11_meanRevisions 60 = .ok (.iload_n 1, 1) := by decide +kernel
theorem dX11_meanRevisions_61 : decode cX11_meanRevisions 61 = .ok (.i2d, 1) := by decide +kernel
theorem dX11_meanRevisions_62 : decode cX11_meanRevisions 62 = .ok (.aload_n 0, 1) := by decide +kernel
theorem dX11_meanRevisions_63 : decode cX11_meanRevisions 63 = .ok (.getfield 10, 3) := by decide +kernel
theorem dX11_meanRevisions_66 : decode cX11_meanRevisions 66 = .ok (.getfield 24, 3) := by decide +kernel
theorem dX11_meanRevisions_69 : decode cX11_meanRevisions 69 = .ok (.invokevirtual 28, 3) := by decide +kernel
theorem dX11_meanRevisions_72 : decode cX11_meanRevisions 72 = .ok (.i2d, 1) := by decide +kernel
theorem dX11_meanRevisions_73 : decode cX11_meanRevisions 73 = .ok (.ddiv, 1) := by decide +kernel
theorem dX11_meanRevisions_74 : decode cX11_meanRevisions 74 = .ok (.dreturn, 1) := by decide +kernel
set_option maxRecDepth 20000 in
theorem ggX11_stoppedByNow_X6_canIssue : GoodIn wsX11_stoppedByNow wsX6_canIssue := goodIn_r _ [6, 7, 8, 9, 10, 11, 12, 13, 14, 15, 16, 17, 18, 19, 20, 21, 22, 23, 24, 25, 26, 27, 28, 29, 30, 31, 32, 33, 34, 35, 36, 37, 38, 39, 40, 41, 42, 43, 5, 44, 45, 46, 47, 48, 49, 50, 51, 52, 53, 54, 55, 56, 57, 58, 59, 60, 61, 286, 287, 288, 289, 290, 291, 292, 293, 294, 295, 296, 297, 298, 299, 300, 301, 302, 303, 304] (by decide +kernel) (by decide +kernel)
set_option maxRecDepth 20000 in
theorem gX11_stoppedByNow_X6_canIssue : GoodIn wsX11_stoppedByNow (wsV RX11 109 RX6 yX6_canIssue wsX6_canIssue) := goodIn_app (goodIn_of _ (by decide +kernel)) ggX11_stoppedByNow_X6_canIssue
set_option maxRecDepth 20000 in
theorem ggX11_stoppedByNow_X6_copy : GoodIn wsX11_stoppedByNow wsX6_copy := goodIn_r _ [65, 66, 67, 5, 7, 8, 45, 68, 69, 46, 70, 71, 72, 73, 74, 75, 76, 77, 78, 79, 80, 81, 82, 83, 84, 85, 86, 87, 88, 89, 90, 91, 92, 93, 13, 94, 95, 96, 97, 98, 99, 100, 101, 28, 102, 103, 104, 105, 106, 107, 108, 109, 110, 111, 47, 37, 38, 39, 15, 10, 11, 12, 14, 16, 17, 18, 19, 20, 21, 22, 23, 24, 25, 26, 27, 112, 113, 114, 32, 115, 116, 117, 118, 34, 35, 119, 120, 121, 122, 123, 124, 125, 36, 40, 126, 127, 128, 129, 130, 131, 132, 133, 134, 135, 136, 137, 138, 139, 140, 141, 142, 143, 144, 145, 146, 147, 148, 149, 150, 151, 152, 153, 154, 155, 156, 157, 158, 159, 160, 161, 162, 163, 164, 165, 166, 167, 168, 169, 170, 171, 172, 173, 174, 175, 176, 177, 178, 179, 180, 181, 182, 183, 184, 185, 186, 187, 188, 189, 190, 191, 192, 193, 194, 195, 196, 197, 198, 199, 200, 201, 202, 203, 204, 205, 206, 207, 208, 209, 210, 211, 212, 213, 214, 215, 216, 217, 218, 219, 220, 221, 222, 223, 224, 225, 226, 286, 287, 288, 289, 290, 291, 292, 293, 294, 295, 299, 300, 301, 302, 303, 304, 296, 297, 298, 305, 306, 307, 308, 309, 310, 311, 312, 313, 314] (by decide +kernel) (by decide +kernel)
set_option maxRecDepth 20000 in
theorem gX11_stoppedByNow_X6_copy : GoodIn wsX11_stoppedByNow (wsV RX11 257 RX6 yX6_copy wsX6_copy) := goodIn_app (goodIn_of _ (by decide +kernel)) ggX11_stoppedByNow_X6_copy
set_option maxRecDepth 20000 in
theorem ggX11_stoppedByNow_X6_issue : GoodIn wsX11_stoppedByNow wsX6_issue := goodIn_r _ [230, 7, 8, 9, 81, 46, 10, 11, 12, 13, 14, 15, 16, 17, 18, 19, 20, 21, 22, 23, 24, 25, 26, 27, 28, 53, 54, 55, 32, 56, 34, 35, 57, 58, 59, 60, 61, 36, 37, 38, 39, 40, 29, 30, 31, 33, 47, 231, 232, 233, 5, 234, 83, 84, 235, 236, 237, 238, 239, 240, 241, 242, 243, 202, 244, 207, 245, 246, 247, 248, 75, 249, 250, 251, 252, 41, 42, 43, 44, 45, 48, 49, 50, 51, 52, 253, 254, 255, 256, 80, 257, 258, 259, 260, 218, 261, 262, 263, 264, 265, 266, 217, 223, 267, 159, 160, 161, 224, 225, 268, 186, 187, 226, 269, 220, 221, 222, 90, 91, 270, 271, 272, 273, 274, 275, 276, 277, 278, 82, 279, 280, 281, 282, 283, 286, 287, 288, 289, 290, 291, 292, 293, 294, 295, 296, 297, 298, 299, 300, 301, 302, 303, 304, 305, 306, 307, 308, 309, 310, 311, 312, 313, 314] (by decide +kernel) (by decide +kernel)
set_option maxRecDepth 20000 in
theorem gX11_stoppedByNow_X6_issue : GoodIn wsX11_stoppedByNow (wsV RX11 112 RX6 yX6_issue wsX6_issue) := goodIn_app (goodIn_of _ (by decide +kernel)) ggX11_stoppedByNow_X6_issue
theorem dX11_stoppedByNow_0 : decode cX11_stoppedByNow 0 = .ok (.aload_n 0, 1) := by decide +kernel
theorem dX11_stoppedByNow_1 : decode cX11_stoppedByNow 1 = .ok (.getfield 10, 3) := by decide +kernel
theorem dX11_stoppedByNow_4 : decode cX11_stoppedByNow 4 = .ok (.iload_n 1, 1) := by decide +kernel
theorem dX11_stoppedByNow_5 : decode cX11_stoppedByNow 5 = .ok (.invokevirtual 109, 3) := by decide +kernel
theorem dX11_stoppedByNow_8 : decode cX11_stoppedByNow 8 = .ok (.ifCond .eq 17, 3) := by decide +kernel
theorem dX11_stoppedByNow_11 : decode cX11_stoppedByNow 11 = .ok (.aload_n 0, 1) := by decide +kernel
theorem dX11_stoppedByNow_12 : decode cX11_stoppedByNow 12 = .ok (.getfield 10, 3) := by decide +kernel
theorem dX11_stoppedByNow_15 : decode cX11_stoppedByNow 15 = .ok (.invokevirtual 257, 3) := by decide +kernel
theorem dX11_stoppedByNow_18 : decode cX11_stoppedByNow 18 = .ok (.iload_n 1, 1) := by decide +kernel
theorem dX11_stoppedByNow_19 : decode cX11_stoppedByNow 19 = .ok (.invokevirtual 112, 3) := by decide +kernel
theorem dX11_stoppedByNow_22 : decode cX11_stoppedByNow 22 = .ok (.goto 4, 3) := by decide +kernel
theorem dX11_stoppedByNow_25 : decode cX11_stoppedByNow 25 = .ok (.iconst (-1), 1) := by decide +kernel
theorem dX11_stoppedByNow_26 : decode cX11_stoppedByNow 26 = .ok (.ireturn, 1) := by decide +kernel
set_option maxRecDepth 20000 in
theorem ggX11_stoppedBy_X11_isNoSheet : GoodIn wsX11_stoppedBy wsX11_isNoSheet := goodIn_r _ [5, 6, 7, 8, 4, 9, 10, 11, 12, 13, 14, 15, 16, 17, 18, 19, 20, 21, 22, 23, 24, 25, 26, 27, 28, 29, 311, 312, 313, 314, 315, 316, 317, 318, 319, 320, 321, 322, 323, 324, 325] (by decide +kernel) (by decide +kernel)
set_option maxRecDepth 20000 in
theorem gX11_stoppedBy_X11_isNoSheet : GoodIn wsX11_stoppedBy (wsV RX11 71 RX11 yX11_isNoSheet wsX11_isNoSheet) := goodIn_app (goodIn_of _ (by decide +kernel)) ggX11_stoppedBy_X11_isNoSheet
set_option maxRecDepth 20000 in
theorem ggX11_stoppedBy_X11_stoppedByNow : GoodIn wsX11_stoppedBy wsX11_stoppedByNow := goodIn_r _ [33, 10, 34, 35, 36, 37, 38, 39, 40, 41, 42, 43, 44, 15, 45, 17, 46, 47, 48, 49, 50, 51, 52, 53, 54, 55, 56, 57, 58, 59, 60, 61, 62, 63, 64, 65, 66, 13, 14, 16, 67, 68, 69, 70, 71, 72, 73, 74, 75, 76, 77, 78, 79, 80, 81, 82, 83, 84, 85, 86, 87, 88, 89, 90, 91, 92, 93, 94, 95, 96, 97, 98, 99, 100, 101, 102, 103, 104, 105, 106, 107, 108, 109, 110, 111, 112, 113, 114, 115, 116, 117, 118, 119, 120, 121, 122, 123, 124, 125, 126, 127, 128, 129, 130, 131, 132, 133, 134, 135, 136, 137, 138, 139, 140, 141, 142, 143, 144, 145, 146, 147, 148, 149, 150, 151, 152, 153, 154, 155, 156, 157, 158, 159, 160, 161, 162, 163, 164, 165, 166, 167, 168, 169, 170, 171, 172, 173, 174, 175, 176, 177, 178, 179, 180, 181, 182, 183, 184, 185, 186, 187, 188, 189, 190, 191, 192, 193, 194, 195, 196, 197, 198, 199, 200, 201, 202, 203, 204, 205, 206, 207, 208, 209, 210, 211, 212, 213, 214, 215, 216, 217, 218, 219, 220, 221, 222, 223, 224, 225, 226, 227, 228, 229, 230, 231, 232, 233, 234, 235, 236, 237, 238, 239, 240, 241, 242, 243, 244, 245, 246, 247, 248, 249, 250, 251, 252, 253, 254, 255, 256, 257, 258, 259, 260, 261, 262, 263, 264, 265, 266, 267, 268, 269, 270, 271, 272, 273, 274, 275, 276, 277, 278, 279, 280, 281, 282, 283, 284, 285, 286, 287, 288, 289, 290, 291, 292, 293, 294, 295, 296, 297, 298, 299, 300, 301, 302, 303, 304, 305, 306, 307, 308, 309, 310, 311, 312, 313, 314, 315, 316, 317, 318, 319, 320, 321, 322, 326, 327, 328, 323, 324, 325, 329, 330, 331, 332, 333, 334, 335, 336, 337, 338, 339, 340, 341] (by decide +kernel) (by decide +kernel)
set_option maxRecDepth 20000 in
theorem gX11_stoppedBy_X11_stoppedByNow : GoodIn wsX11_stoppedBy (wsV RX11 261 RX11 yX11_stoppedByNow wsX11_stoppedByNow) := goodIn_app (goodIn_of _ (by decide +kernel)) ggX11_stoppedBy_X11_stoppedByNow
theorem dX11_stoppedBy_0 : decode cX11_stoppedBy 0 = .ok (.aload_n 0, 1) := by decide +kernel
theorem dX11_stoppedBy_1 : decode cX11_stoppedBy 1 = .ok (.iload_n 1, 1) := by decide +kernel
theorem dX11_stoppedBy_2 : decode cX11_stoppedBy 2 = .ok (.invokevirtual 71, 3) := by decide +kernel
theorem dX11_stoppedBy_5 : decode cX11_stoppedBy 5 = .ok (.ifCond .eq 7, 3) := by decide +kernel
theorem dX11_stoppedBy_8 : decode cX11_stoppedBy 8 = .ok (.iconst 0, 1) := by decide +kernel
theorem dX11_stoppedBy_9 : decode cX11_stoppedBy 9 = .ok (.goto 8, 3) := by decide +kernel
theorem dX11_stoppedBy_12 : decode cX11_stoppedBy 12 = .ok (.aload_n 0, 1) := by decide +kernel
theorem dX11_stoppedBy_13 : decode cX11_stoppedBy 13 = .ok (.iload_n 1, 1) := by decide +kernel
theorem dX11_stoppedBy_14 : decode cX11_stoppedBy 14 = .ok (.invokevirtual 261, 3) := by decide +kernel
theorem dX11_stoppedBy_17 : decode cX11_stoppedBy 17 = .ok (.ireturn, 1) := by decide +kernel
set_option maxRecDepth 20000 in
theorem ggX11_freedByNow_X6_copy : GoodIn wsX11_freedByNow wsX6_copy := goodIn_r _ [11, 12, 13, 10, 14, 15, 16, 17, 18, 19, 20, 21, 22, 23, 24, 25, 26, 27, 28, 29, 30, 31, 32, 33, 34, 35, 36, 37, 38, 39, 40, 41, 42, 43, 44, 45, 46, 47, 48, 49, 50, 51, 52, 53, 54, 55, 56, 57, 58, 59, 60, 61, 62, 63, 64, 65, 66, 67, 68, 69, 70, 71, 72, 73, 74, 75, 76, 77, 78, 79, 80, 81, 82, 83, 84, 85, 86, 87, 88, 89, 90, 91, 92, 93, 94, 95, 96, 97, 98, 99, 100, 101, 102, 103, 104, 105, 106, 107, 108, 109, 110, 111, 112, 113, 114, 115, 116, 117, 118, 119, 120, 121, 122, 123, 124, 125, 126, 127, 128, 129, 130, 131, 132, 133, 134, 135, 136, 137, 138, 139, 140, 141, 142, 143, 144, 145, 146, 147, 148, 149, 150, 151, 152, 153, 154, 155, 156, 157, 158, 159, 160, 161, 162, 163, 164, 165, 166, 167, 168, 169, 170, 171, 172, 173, 174, 175, 176, 177, 178, 179, 180, 181, 182, 183, 184, 185, 186, 187, 188, 189, 190, 191, 192, 193, 194, 195, 196, 197, 198, 199, 200, 201, 202, 203, 204, 282, 283, 284, 285, 286, 287, 288, 289, 290, 291, 298, 299, 300, 301, 302, 303, 304, 305, 306, 292, 293, 294, 295, 296, 297, 307, 308, 309, 310] (by decide +kernel) (by decide +kernel)
set_option maxRecDepth 20000 in
theorem gX11_freedByNow_X6_copy : GoodIn wsX11_freedByNow (wsV RX11 257 RX6 yX6_copy wsX6_copy) := goodIn_app (goodIn_of _ (by decide +kernel)) ggX11_freedByNow_X6_copy
set_option maxRecDepth 20000 in
theorem ggX11_freedByNow_Jx4a65c_get_915e3 : GoodIn wsX11_freedByNow wsJx4a65c_get_915e3 := goodIn_r _ [72, 68, 73, 74, 75, 76, 77, 78, 79, 80, 81, 82, 83, 44, 84, 53, 298, 299, 300] (by decide +kernel) (by decide +kernel)
set_option maxRecDepth 20000 in
theorem gX11_freedByNow_Jx4a65c_get_915e3 : GoodIn wsX11_freedByNow (wsV RX11 45 RJx4a65c yJx4a65c_get_915e3 wsJx4a65c_get_915e3) := goodIn_app (goodIn_of _ (by decide +kernel)) ggX11_freedByNow_Jx4a65c_get_915e3
set_option maxRecDepth 20000 in
theorem ggX11_freedByNow_Jx4a65c_size_8abf5 : GoodIn wsX11_freedByNow wsJx4a65c_size_8abf5 := goodIn_r _ [67, 68, 298, 299, 300] (by decide +kernel) (by decide +kernel)
set_option maxRecDepth 20000 in
theorem gX11_freedByNow_Jx4a65c_size_8abf5 : GoodIn wsX11_freedByNow (wsV RX11 28 RJx4a65c yJx4a65c_size_8abf5 wsJx4a65c_size_8abf5) := goodIn_app (goodIn_of _ (by decide +kernel)) ggX11_freedByNow_Jx4a65c_size_8abf5
set_option maxRecDepth 20000 in
theorem ggX11_freedByNow_X6_canRun : GoodIn wsX11_freedByNow wsX6_canRun := goodIn_r _ [210, 211, 212, 213, 180, 214, 188, 215, 216, 217, 10, 218, 14, 64, 65, 66, 44, 67, 68, 219, 220, 221, 222, 185, 223, 224, 225, 226, 15, 25, 227, 228, 229, 69, 70, 71, 72, 73, 74, 75, 76, 77, 78, 79, 80, 81, 82, 83, 84, 53, 230, 231, 232, 88, 233, 93, 94, 234, 102, 103, 235, 236, 237, 238, 16, 19, 239, 240, 241, 242, 243, 244, 245, 246, 247, 248, 249, 250, 251, 252, 30, 31, 253, 254, 255, 256, 196, 257, 258, 259, 260, 261, 262, 195, 201, 263, 137, 138, 139, 202, 203, 264, 164, 165, 204, 265, 198, 199, 200, 40, 41, 266, 267, 268, 269, 270, 271, 272, 273, 274, 32, 275, 276, 277, 278, 279, 292, 293, 294, 295, 296, 297, 282, 283, 284, 285, 286, 287, 288, 289, 290, 291, 298, 299, 300, 301, 302, 303, 304, 305, 306, 307, 308, 309, 310] (by decide +kernel) (by decide +kernel)
set_option maxRecDepth 20000 in
theorem gX11_freedByNow_X6_canRun : GoodIn wsX11_freedByNow (wsV RX11 208 RX6 yX6_canRun wsX6_canRun) := goodIn_app (goodIn_of _ (by decide +kernel)) ggX11_freedByNow_X6_canRun
theorem dX11_freedByNow_0 : decode cX11_freedByNow 0 = .ok (.aload_n 0, 1) := by decide +kernel
theorem dX11_freedByNow_1 : decode cX11_freedByNow 1 = .ok (.getfield 10, 3) := by decide +kernel
theorem dX11_freedByNow_4 : decode cX11_freedByNow 4 = .ok (.invokevirtual 257, 3) := by decide +kernel
theorem dX11_freedByNow_7 : decode cX11_freedByNow 7 = .ok (.astore_n 2, 1) := by decide +kernel
theorem dX11_freedByNow_8 : decode cX11_freedByNow 8 = .ok (.aload_n 2, 1) := by decide +kernel
theorem dX11_freedByNow_9 : decode cX11_freedByNow 9 = .ok (.getfield 170, 3) := by decide +kernel
theorem dX11_freedByNow_12 : decode cX11_freedByNow 12 = .ok (.iload_n 1, 1) := by decide +kernel
theorem dX11_freedByNow_13 : decode cX11_freedByNow 13 = .ok (.invokevirtual 45, 3) := by decide +kernel
theorem dX11_freedByNow_16 : decode cX11_freedByNow 16 = .ok (.checkcast 176, 3) := by decide +kernel
theorem dX11_freedByNow_19 : decode cX11_freedByNow 19 = .ok (.iconst 1, 1) := by decide +kernel
theorem dX11_freedByNow_20 : decode cX11_freedByNow 20 = .ok (.iconst 2, 1) := by decide +kernel
theorem dX11_freedByNow_21 : decode cX11_freedByNow 21 = .ok (.iastore, 1) := by decide +kernel
theorem dX11_freedByNow_22 : decode cX11_freedByNow 22 = .ok (.iconst 0, 1) := by decide +kernel
theorem dX11_freedByNow_23 : decode cX11_freedByNow 23 = .ok (.istore_n 3, 1) := by decide +kernel
theorem dX11_freedByNow_24 : decode cX11_freedByNow 24 = .ok (.iconst 0, 1) := by decide +kernel
theorem dX11_freedByNow_25 : decode cX11_freedByNow 25 = .ok (.istore 4, 2) := by decide +kernel
theorem dX11_freedByNow_27 : decode cX11_freedByNow 27 = .ok (.iload 4, 2) := by decide +kernel
theorem dX11_freedByNow_29 : decode cX11_freedByNow 29 = .ok (.aload_n 0, 1) := by decide +kernel
theorem dX11_freedByNow_30 : decode cX11_freedByNow 30 = .ok (.getfield 10, 3) := by decide +kernel
theorem dX11_freedByNow_33 : decode cX11_freedByNow 33 = .ok (.getfield 193, 3) := by decide +kernel
theorem dX11_freedByNow_36 : decode cX11_freedByNow 36 = .ok (.invokevirtual 28, 3) := by decide +kernel
theorem dX11_freedByNow_39 : decode cX11_freedByNow 39 = .ok (.if_icmp .ge 83, 3) := by decide +kernel
theorem dX11_freedByNow_42 : decode cX11_freedByNow 42 = .ok (.iload_n 3, 1) := by decide +kernel
theorem dX11_freedByNow_43 : decode cX11_freedByNow 43 = .ok (.aload_n 0, 1) := by decide +kernel
theorem dX11_freedByNow_44 : decode cX11_freedByNow 44 = .ok (.getfield 10, 3) := by decide +kernel
theorem dX11_freedByNow_47 : decode cX11_freedByNow 47 = .ok (.getfield 193, 3) := by decide +kernel
theorem dX11_freedByNow_50 : decode cX11_freedByNow 50 = .ok (.iload 4, 2) := by decide +kernel
theorem dX11_freedByNow_52 : decode cX11_freedByNow 52 = .ok (.invokevirtual 45, 3) := by decide +kernel
theorem dX11_freedByNow_55 : decode cX11_freedByNow 55 = .ok (.checkcast 196, 3) := by decide +kernel
theorem dX11_freedByNow_58 : decode cX11_freedByNow 58 = .ok (.getfield 204, 3) := by decide +kernel
theorem dX11_freedByNow_61 : decode cX11_freedByNow 61 = .ok (.iconst 2, 1) := by decide +kernel
theorem dX11_freedByNow_62 : decode cX11_freedByNow 62 = .ok (.if_icmp .ne 51, 3) := by decide +kernel
theorem dX11_freedByNow_65 : decode cX11_freedByNow 65 = .ok (.aload_n 0, 1) := by decide +kernel
theorem dX11_freedByNow_66 : decode cX11_freedByNow 66 = .ok (.getfield 10, 3) := by decide +kernel
theorem dX11_freedByNow_69 : decode cX11_freedByNow 69 = .ok (.aload_n 0, 1) := by decide +kernel
theorem dX11_freedByNow_70 : decode cX11_freedByNow 70 = .ok (.getfield 10, 3) := by decide +kernel
theorem dX11_freedByNow_73 : decode cX11_freedByNow 73 = .ok (.getfield 193, 3) := by decide +kernel
theorem dX11_freedByNow_76 : decode cX11_freedByNow 76 = .ok (.iload 4, 2) := by decide +kernel
theorem dX11_freedByNow_78 : decode cX11_freedByNow 78 = .ok (.invokevirtual 45, 3) := by decide +kernel
theorem dX11_freedByNow_81 : decode cX11_freedByNow 81 = .ok (.checkcast 196, 3) := by decide +kernel
theorem dX11_freedByNow_84 : decode cX11_freedByNow 84 = .ok (.invokevirtual 208, 3) := by decide +kernel
theorem dX11_freedByNow_87 : decode cX11_freedByNow 87 = .ok (.ifCond .ne 26, 3) := by decide +kernel
theorem dX11_freedByNow_90 : decode cX11_freedByNow 90 = .ok (.aload_n 2, 1) := by decide +kernel
theorem dX11_freedByNow_91 : decode cX11_freedByNow 91 = .ok (.aload_n 2, 1) := by decide +kernel
theorem dX11_freedByNow_92 : decode cX11_freedByNow 92 = .ok (.getfield 193, 3) := by decide +kernel
theorem dX11_freedByNow_95 : decode cX11_freedByNow 95 = .ok (.iload 4, 2) := by decide +kernel
theorem dX11_freedByNow_97 : decode cX11_freedByNow 97 = .ok (.invokevirtual 45, 3) := by decide +kernel
theorem dX11_freedByNow_100 : decode cX11_freedByNow 100 = .ok (.checkcast 196, 3) := by decide +kernel
theorem dX11_freedByNow_103 : decode cX11_freedByNow 103 = .ok (.invokevirtual 208, 3) := by decide +kernel
theorem dX11_freedByNow_106 : decode cX11_freedByNow 106 = .ok (.ifCond .eq 7, 3) := by decide +kernel
theorem dX11_freedByNow_109 : decode cX11_freedByNow 109 = .ok (.iconst 1, 1) := by decide +kernel
theorem dX11_freedByNow_110 : decode cX11_freedByNow 110 = .ok (.goto 4, 3) := by decide +kernel
theorem dX11_freedByNow_113 : decode cX11_freedByNow 113 = .ok (.iconst 0, 1) := by decide +kernel
theorem dX11_freedByNow_114 : decode cX11_freedByNow 114 = .ok (.iadd, 1) := by decide +kernel
theorem dX11_freedByNow_115 : decode cX11_freedByNow 115 = .ok (.istore_n 3, 1) := by decide +kernel
theorem dX11_freedByNow_116 : decode cX11_freedByNow 116 = .ok (.iinc 4 1, 3) := by decide +kernel
theorem dX11_freedByNow_119 : decode cX11_freedByNow 119 = .ok (.goto (-92), 3) := by decide +kernel
theorem dX11_freedByNow_122 : decode cX11_freedByNow 122 = .ok (.iload_n 3, 1) := by decide +kernel
theorem dX11_freedByNow_123 : decode cX11_freedByNow 123 = .ok (.ireturn, 1) := by decide +kernel
set_option maxRecDepth 20000 in
theorem ggX11_freedBy_X11_isNoQuery : GoodIn wsX11_freedBy wsX11_isNoQuery := goodIn_r _ [5, 6, 7, 8, 9, 10, 11, 12, 13, 14, 15, 4, 16, 17, 18, 19, 20, 21, 22, 23, 24, 25, 302, 303, 304, 305, 306, 307, 308, 309, 310, 311, 312, 313, 314, 315, 316] (by decide +kernel) (by decide +kernel)
set_option maxRecDepth 20000 in
theorem gX11_freedBy_X11_isNoQuery : GoodIn wsX11_freedBy (wsV RX11 173 RX11 yX11_isNoQuery wsX11_isNoQuery) := goodIn_app (goodIn_of _ (by decide +kernel)) ggX11_freedBy_X11_isNoQuery
set_option maxRecDepth 20000 in
theorem ggX11_freedBy_X11_freedByNow : GoodIn wsX11_freedBy wsX11_freedByNow := goodIn_r _ [29, 6, 30, 31, 32, 33, 34, 35, 36, 37, 38, 39, 40, 41, 42, 43, 44, 45, 46, 47, 48, 49, 50, 51, 52, 53, 54, 55, 56, 57, 58, 59, 60, 61, 62, 63, 64, 65, 66, 67, 68, 69, 70, 71, 11, 72, 73, 74, 75, 76, 77, 78, 79, 80, 81, 82, 83, 84, 85, 86, 87, 88, 89, 90, 91, 9, 10, 12, 13, 92, 93, 94, 95, 96, 97, 98, 99, 100, 101, 102, 103, 104, 105, 106, 107, 108, 109, 110, 111, 112, 113, 114, 115, 116, 117, 118, 119, 120, 121, 122, 123, 124, 125, 126, 127, 128, 129, 130, 131, 132, 133, 134, 135, 136, 137, 138, 139, 140, 141, 142, 143, 144, 145, 146, 147, 148, 149, 150, 151, 152, 153, 154, 155, 156, 157, 158, 159, 160, 161, 162, 163, 164, 165, 166, 167, 168, 169, 170, 171, 172, 173, 174, 175, 176, 177, 178, 179, 180, 181, 182, 183, 184, 185, 186, 187, 188, 189, 190, 191, 192, 193, 194, 195, 196, 197, 198, 199, 200, 201, 202, 203, 204, 205, 206, 207, 208, 209, 210, 211, 212, 213, 214, 215, 216, 217, 218, 219, 220, 221, 222, 223, 224, 225, 226, 227, 228, 8, 229, 230, 231, 232, 233, 234, 235, 236, 237, 238, 239, 240, 241, 242, 243, 244, 245, 246, 247, 248, 249, 250, 251, 252, 253, 254, 255, 256, 257, 258, 259, 260, 261, 262, 263, 264, 265, 266, 267, 268, 269, 270, 271, 272, 273, 274, 275, 276, 277, 278, 279, 280, 281, 282, 283, 284, 285, 286, 287, 288, 289, 290, 291, 292, 293, 294, 295, 296, 297, 298, 299, 300, 301, 302, 303, 304, 305, 306, 307, 308, 309, 310, 311, 312, 313, 317, 318, 319, 320, 321, 322, 314, 315, 316, 323, 324, 325, 326, 327, 328, 329, 330, 331, 332] (by decide +kernel) (by decide +kernel)
set_option maxRecDepth 20000 in
theorem gX11_freedBy_X11_freedByNow : GoodIn wsX11_freedBy (wsV RX11 264 RX11 yX11_freedByNow wsX11_freedByNow) := goodIn_app (goodIn_of _ (by decide +kernel)) ggX11_freedBy_X11_freedByNow
theorem dX11_freedBy_0 : decode cX11_freedBy 0 = .ok (.aload_n 0, 1) := by decide +kernel
theorem dX11_freedBy_1 : decode cX11_freedBy 1 = .ok (.iload_n 1, 1) := by decide +kernel
theorem dX11_freedBy_2 : decode cX11_freedBy 2 = .ok (.invokevirtual 173, 3) := by decide +kernel
theorem dX11_freedBy_5 : decode cX11_freedBy 5 = .ok (.ifCond .eq 7, 3) := by decide +kernel
theorem dX11_freedBy_8 : decode cX11_freedBy 8 = .ok (.iconst 0, 1) := by decide +kernel
theorem dX11_freedBy_9 : decode cX11_freedBy 9 = .ok (.goto 8, 3) := by decide +kernel
theorem dX11_freedBy_12 : decode cX11_freedBy 12 = .ok (.aload_n 0, 1) := by decide +kernel
theorem dX11_freedBy_13 : decode cX11_freedBy 13 = .ok (.iload_n 1, 1) := by decide +kernel
theorem dX11_freedBy_14 : decode cX11_freedBy 14 = .ok (.invokevirtual 264, 3) := by decide +kernel
theorem dX11_freedBy_17 : decode cX11_freedBy 17 = .ok (.ireturn, 1) := by decide +kernel
set_option maxRecDepth 20000 in
theorem ggX11_freedByAllNow_X6_copy : GoodIn wsX11_freedByAllNow wsX6_copy := goodIn_r _ [10, 11, 12, 9, 13, 14, 15, 16, 17, 18, 19, 20, 21, 22, 23, 24, 25, 26, 27, 28, 29, 30, 31, 32, 33, 34, 35, 36, 37, 38, 39, 40, 41, 42, 43, 44, 45, 46, 47, 48, 49, 50, 51, 52, 53, 54, 55, 56, 57, 58, 59, 60, 61, 62, 63, 64, 65, 66, 67, 68, 69, 70, 71, 72, 73, 74, 75, 76, 77, 78, 79, 80, 81, 82, 83, 84, 85, 86, 87, 88, 89, 90, 91, 92, 93, 94, 95, 96, 97, 98, 99, 100, 101, 102, 103, 104, 105, 106, 107, 108, 109, 110, 111, 112, 113, 114, 115, 116, 117, 118, 119, 120, 121, 122, 123, 124, 125, 126, 127, 128, 129, 130, 131, 132, 133, 134, 135, 136, 137, 138, 139, 140, 141, 142, 143, 144, 145, 146, 147, 148, 149, 150, 151, 152, 153, 154, 155, 156, 157, 158, 159, 160, 161, 162, 163, 164, 165, 166, 167, 168, 169, 170, 171, 172, 173, 174, 175, 176, 177, 178, 179, 180, 181, 182, 183, 184, 185, 186, 187, 188, 189, 190, 191, 192, 193, 194, 195, 196, 197, 198, 199, 200, 201, 202, 203, 296, 297, 298, 299, 300, 301, 302, 303, 304, 305, 312, 313, 314, 315, 316, 317, 318, 319, 320, 306, 307, 308, 309, 310, 311, 321, 322, 323, 324] (by decide +kernel) (by decide +kernel)
set_option maxRecDepth 20000 in
theorem gX11_freedByAllNow_X6_copy : GoodIn wsX11_freedByAllNow (wsV RX11 257 RX6 yX6_copy wsX6_copy) := goodIn_app (goodIn_of _ (by decide +kernel)) ggX11_freedByAllNow_X6_copy
set_option maxRecDepth 20000 in
theorem ggX11_freedByAllNow_Jx4a65c_size_8abf5 : GoodIn wsX11_freedByAllNow wsJx4a65c_size_8abf5 := goodIn_r _ [66, 67, 312, 313, 314] (by decide +kernel) (by decide +kernel)
set_option maxRecDepth 20000 in
theorem gX11_freedByAllNow_Jx4a65c_size_8abf5 : GoodIn wsX11_freedByAllNow (wsV RX11 28 RJx4a65c yJx4a65c_size_8abf5 wsJx4a65c_size_8abf5) := goodIn_app (goodIn_of _ (by decide +kernel)) ggX11_freedByAllNow_Jx4a65c_size_8abf5
set_option maxRecDepth 20000 in
theorem ggX11_freedByAllNow_X6_isFor : GoodIn wsX11_freedByAllNow wsX6_isFor := goodIn_r _ [208, 17, 18, 68, 69, 70, 43, 71, 67, 72, 73, 74, 75, 76, 77, 78, 79, 80, 81, 82, 83, 52, 296, 297, 298, 299, 300, 301, 302, 303, 304, 305, 312, 313, 314] (by decide +kernel) (by decide +kernel)
set_option maxRecDepth 20000 in
theorem gX11_freedByAllNow_X6_isFor : GoodIn wsX11_freedByAllNow (wsV RX11 153 RX6 yX6_isFor wsX6_isFor) := goodIn_app (goodIn_of _ (by decide +kernel)) ggX11_freedByAllNow_X6_isFor
set_option maxRecDepth 20000 in
theorem ggX11_freedByAllNow_X6_receive : GoodIn wsX11_freedByAllNow wsX6_receive := goodIn_r _ [212, 17, 18, 16, 24, 68, 69, 70, 43, 71, 67, 72, 73, 74, 75, 76, 77, 78, 79, 80, 81, 82, 83, 52, 213, 214, 215, 9, 216, 32, 33, 217, 218, 63, 64, 65, 66, 219, 220, 221, 222, 13, 223, 224, 225, 179, 226, 184, 227, 228, 229, 230, 14, 231, 232, 233, 234, 235, 236, 87, 237, 92, 93, 238, 101, 102, 239, 240, 241, 242, 15, 243, 244, 245, 246, 247, 248, 249, 250, 251, 252, 253, 254, 255, 256, 29, 30, 257, 258, 259, 260, 195, 261, 262, 263, 264, 265, 266, 194, 200, 267, 136, 137, 138, 201, 202, 268, 163, 164, 203, 269, 197, 198, 199, 39, 40, 270, 271, 272, 273, 274, 275, 276, 277, 278, 31, 279, 280, 281, 282, 283, 296, 297, 298, 299, 300, 301, 302, 303, 304, 305, 312, 313, 314, 306, 307, 308, 309, 310, 311, 315, 316, 317, 318, 319, 320, 321, 322, 323, 324] (by decide +kernel) (by decide +kernel)
set_option maxRecDepth 20000 in
theorem gX11_freedByAllNow_X6_receive : GoodIn wsX11_freedByAllNow (wsV RX11 157 RX6 yX6_receive wsX6_receive) := goodIn_app (goodIn_of _ (by decide +kernel)) ggX11_freedByAllNow_X6_receive
set_option maxRecDepth 20000 in
theorem ggX11_freedByAllNow_Jx4a65c_get_915e3 : GoodIn wsX11_freedByAllNow wsJx4a65c_get_915e3 := goodIn_r _ [71, 67, 72, 73, 74, 75, 76, 77, 78, 79, 80, 81, 82, 43, 83, 52, 312, 313, 314] (by decide +kernel) (by decide +kernel)
set_option maxRecDepth 20000 in
theorem gX11_freedByAllNow_Jx4a65c_get_915e3 : GoodIn wsX11_freedByAllNow (wsV RX11 45 RJx4a65c yJx4a65c_get_915e3 wsJx4a65c_get_915e3) := goodIn_app (goodIn_of _ (by decide +kernel)) ggX11_freedByAllNow_Jx4a65c_get_915e3
set_option maxRecDepth 20000 in
theorem ggX11_freedByAllNow_X7_isIdle : GoodIn wsX11_freedByAllNow wsX7_isIdle := goodIn_r _ [288, 187, 306, 307, 308, 309, 310, 311] (by decide +kernel) (by decide +kernel)
set_option maxRecDepth 20000 in
theorem gX11_freedByAllNow_X7_isIdle : GoodIn wsX11_freedByAllNow (wsV RX11 267 RX7 yX7_isIdle wsX7_isIdle) := goodIn_app (goodIn_of _ (by decide +kernel)) ggX11_freedByAllNow_X7_isIdle
set_option maxRecDepth 20000 in
theorem ggX11_freedByAllNow_X6_canRun : GoodIn wsX11_freedByAllNow wsX6_canRun := goodIn_r _ [292, 293, 286, 287, 179, 288, 187, 219, 220, 221, 9, 222, 13, 63, 64, 65, 43, 66, 67, 223, 224, 225, 226, 184, 227, 228, 229, 230, 14, 24, 231, 232, 233, 68, 69, 70, 71, 72, 73, 74, 75, 76, 77, 78, 79, 80, 81, 82, 83, 52, 234, 235, 236, 87, 237, 92, 93, 238, 101, 102, 239, 240, 241, 242, 15, 18, 243, 244, 245, 246, 247, 248, 249, 250, 251, 252, 253, 254, 255, 256, 29, 30, 257, 258, 259, 260, 195, 261, 262, 263, 264, 265, 266, 194, 200, 267, 136, 137, 138, 201, 202, 268, 163, 164, 203, 269, 197, 198, 199, 39, 40, 270, 271, 272, 273, 274, 275, 276, 277, 278, 31, 279, 280, 281, 282, 283, 306, 307, 308, 309, 310, 311, 296, 297, 298, 299, 300, 301, 302, 303, 304, 305, 312, 313, 314, 315, 316, 317, 318, 319, 320, 321, 322, 323, 324] (by decide +kernel) (by decide +kernel)
set_option maxRecDepth 20000 in
theorem gX11_freedByAllNow_X6_canRun : GoodIn wsX11_freedByAllNow (wsV RX11 208 RX6 yX6_canRun wsX6_canRun) := goodIn_app (goodIn_of _ (by decide +kernel)) ggX11_freedByAllNow_X6_canRun
theorem dX11_freedByAllNow_0 : decode cX11_freedByAllNow 0 = .ok (.aload_n 0, 1) := by decide +kernel
theorem dX11_freedByAllNow_1 : decode cX11_freedByAllNow 1 = .ok (.getfield 10, 3) := by decide +kernel
theorem dX11_freedByAllNow_4 : decode cX11_freedByAllNow 4 = .ok (.invokevirtual 257, 3) := by decide +kernel
theorem dX11_freedByAllNow_7 : decode cX11_freedByAllNow 7 = .ok (.astore_n 2, 1) := by decide +kernel
theorem dX11_freedByAllNow_8 : decode cX11_freedByAllNow 8 = .ok (.iconst 0, 1) := by decide +kernel
theorem dX11_freedByAllNow_9 : decode cX11_freedByAllNow 9 = .ok (.istore_n 3, 1) := by decide +kernel
theorem dX11_freedByAllNow_10 : decode cX11_freedByAllNow 10 = .ok (.iload_n 3, 1) := by decide +kernel
theorem dX11_freedByAllNow_11 : decode cX11_freedByAllNow 11 = .ok (.aload_n 0, 1) := by decide +kernel
theorem dX11_freedByAllNow_12 : decode cX11_freedByAllNow 12 = .ok (.getfield 10, 3) := by decide +kernel
theorem dX11_freedByAllNow_15 : decode cX11_freedByAllNow 15 = .ok (.getfield 141, 3) := by decide +kernel
theorem dX11_freedByAllNow_18 : decode cX11_freedByAllNow 18 = .ok (.invokevirtual 28, 3) := by decide +kernel
theorem dX11_freedByAllNow_21 : decode cX11_freedByAllNow 21 = .ok (.if_icmp .ge 25, 3) := by decide +kernel
theorem dX11_freedByAllNow_24 : decode cX11_freedByAllNow 24 = .ok (.aload_n 2, 1) := by decide +kernel
theorem dX11_freedByAllNow_25 : decode cX11_freedByAllNow 25 = .ok (.iload_n 3, 1) := by decide +kernel
theorem dX11_freedByAllNow_26 : decode cX11_freedByAllNow 26 = .ok (.iload_n 1, 1) := by decide +kernel
theorem dX11_freedByAllNow_27 : decode cX11_freedByAllNow 27 = .ok (.invokevirtual 153, 3) := by decide +kernel
theorem dX11_freedByAllNow_30 : decode cX11_freedByAllNow 30 = .ok (.ifCond .eq 10, 3) := by decide +kernel
theorem dX11_freedByAllNow_33 : decode cX11_freedByAllNow 33 = .ok (.aload_n 2, 1) := by decide +kernel
theorem dX11_freedByAllNow_34 : decode cX11_freedByAllNow 34 = .ok (.iload_n 3, 1) := by decide +kernel
theorem dX11_freedByAllNow_35 : decode cX11_freedByAllNow 35 = .ok (.iload_n 1, 1) := by decide +kernel
theorem dX11_freedByAllNow_36 : decode cX11_freedByAllNow 36 = .ok (.invokevirtual 157, 3) := by decide +kernel
theorem dX11_freedByAllNow_39 : decode cX11_freedByAllNow 39 = .ok (.pop, 1) := by decide +kernel
theorem dX11_freedByAllNow_40 : decode cX11_freedByAllNow 40 = .ok (.iinc 3 1, 3) := by decide +kernel
theorem dX11_freedByAllNow_43 : decode cX11_freedByAllNow 43 = .ok (.goto (-33), 3) := by decide +kernel
theorem dX11_freedByAllNow_46 : decode cX11_freedByAllNow 46 = .ok (.iconst 0, 1) := by decide +kernel
theorem dX11_freedByAllNow_47 : decode cX11_freedByAllNow 47 = .ok (.istore_n 3, 1) := by decide +kernel
theorem dX11_freedByAllNow_48 : decode cX11_freedByAllNow 48 = .ok (.iconst 0, 1) := by decide +kernel
theorem dX11_freedByAllNow_49 : decode cX11_freedByAllNow 49 = .ok (.istore 4, 2) := by decide +kernel
theorem dX11_freedByAllNow_51 : decode cX11_freedByAllNow 51 = .ok (.iload 4, 2) := by decide +kernel
theorem dX11_freedByAllNow_53 : decode cX11_freedByAllNow 53 = .ok (.aload_n 0, 1) := by decide +kernel
theorem dX11_freedByAllNow_54 : decode cX11_freedByAllNow 54 = .ok (.getfield 10, 3) := by decide +kernel
theorem dX11_freedByAllNow_57 : decode cX11_freedByAllNow 57 = .ok (.getfield 193, 3) := by decide +kernel
theorem dX11_freedByAllNow_60 : decode cX11_freedByAllNow 60 = .ok (.invokevirtual 28, 3) := by decide +kernel
theorem dX11_freedByAllNow_63 : decode cX11_freedByAllNow 63 = .ok (.if_icmp .ge 79, 3) := by decide +kernel
theorem dX11_freedByAllNow_66 : decode cX11_freedByAllNow 66 = .ok (.iload_n 3, 1) := by decide +kernel
theorem dX11_freedByAllNow_67 : decode cX11_freedByAllNow 67 = .ok (.aload_n 0, 1) := by decide +kernel
theorem dX11_freedByAllNow_68 : decode cX11_freedByAllNow 68 = .ok (.getfield 10, 3) := by decide +kernel
theorem dX11_freedByAllNow_71 : decode cX11_freedByAllNow 71 = .ok (.getfield 193, 3) := by decide +kernel
theorem dX11_freedByAllNow_74 : decode cX11_freedByAllNow 74 = .ok (.iload 4, 2) := by decide +kernel
theorem dX11_freedByAllNow_76 : decode cX11_freedByAllNow 76 = .ok (.invokevirtual 45, 3) := by decide +kernel
theorem dX11_freedByAllNow_79 : decode cX11_freedByAllNow 79 = .ok (.checkcast 196, 3) := by decide +kernel
theorem dX11_freedByAllNow_82 : decode cX11_freedByAllNow 82 = .ok (.invokevirtual 267, 3) := by decide +kernel
theorem dX11_freedByAllNow_85 : decode cX11_freedByAllNow 85 = .ok (.ifCond .eq 48, 3) := by decide +kernel
theorem dX11_freedByAllNow_88 : decode cX11_freedByAllNow 88 = .ok (.aload_n 0, 1) := by decide +kernel
theorem dX11_freedByAllNow_89 : decode cX11_freedByAllNow 89 = .ok (.getfield 10, 3) := by decide +kernel
theorem dX11_freedByAllNow_92 : decode cX11_freedByAllNow 92 = .ok (.getfield 193, 3) := by decide +kernel
theorem dX11_freedByAllNow_95 : decode cX11_freedByAllNow 95 = .ok (.iload 4, 2) := by decide +kernel
theorem dX11_freedByAllNow_97 : decode cX11_freedByAllNow 97 = .ok (.invokevirtual 45, 3) := by decide +kernel
theorem dX11_freedByAllNow_100 : decode cX11_freedByAllNow 100 = .ok (.checkcast 196, 3) := by decide +kernel
theorem dX11_freedByAllNow_103 : decode cX11_freedByAllNow 103 = .ok (.getfield 222, 3) := by decide +kernel
theorem dX11_freedByAllNow_106 : decode cX11_freedByAllNow 106 = .ok (.iload_n 1, 1) := by decide +kernel
theorem dX11_freedByAllNow_107 : decode cX11_freedByAllNow 107 = .ok (.if_icmp .ne 26, 3) := by decide +kernel
theorem dX11_freedByAllNow_110 : decode cX11_freedByAllNow 110 = .ok (.aload_n 2, 1) := by decide +kernel
theorem dX11_freedByAllNow_111 : decode cX11_freedByAllNow 111 = .ok (.aload_n 2, 1) := by decide +kernel
theorem dX11_freedByAllNow_112 : decode cX11_freedByAllNow 112 = .ok (.getfield 193, 3) := by decide +kernel
theorem dX11_freedByAllNow_115 : decode cX11_freedByAllNow 115 = .ok (.iload 4, 2) := by decide +kernel
theorem dX11_freedByAllNow_117 : decode cX11_freedByAllNow 117 = .ok (.invokevirtual 45, 3) := by decide +kernel
theorem dX11_freedByAllNow_120 : decode cX11_freedByAllNow 120 = .ok (.checkcast 196, 3) := by decide +kernel
theorem dX11_freedByAllNow_123 : decode cX11_freedByAllNow 123 = .ok (.invokevirtual 208, 3) := by decide +kernel
theorem dX11_freedByAllNow_126 : decode cX11_freedByAllNow 126 = .ok (.ifCond .eq 7, 3) := by decide +kernel
theorem dX11_freedByAllNow_129 : decode cX11_freedByAllNow 129 = .ok (.iconst 1, 1) := by decide +kernel
theorem dX11_freedByAllNow_130 : decode cX11_freedByAllNow 130 = .ok (.goto 4, 3) := by decide +kernel
theorem dX11_freedByAllNow_133 : decode cX11_freedByAllNow 133 = .ok (.iconst 0, 1) := by decide +kernel
theorem dX11_freedByAllNow_134 : decode cX11_freedByAllNow 134 = .ok (.iadd, 1) := by decide +kernel
theorem dX11_freedByAllNow_135 : decode cX11_freedByAllNow 135 = .ok (.istore_n 3, 1) := by decide +kernel
theorem dX11_freedByAllNow_136 : decode cX11_freedByAllNow 136 = .ok (.iinc 4 1, 3) := by decide +kernel
theorem dX11_freedByAllNow_139 : decode cX11_freedByAllNow 139 = .ok (.goto (-88), 3) := by decide +kernel
theorem dX11_freedByAllNow_142 : decode cX11_freedByAllNow 142 = .ok (.iload_n 3, 1) := by decide +kernel
theorem dX11_freedByAllNow_143 : decode cX11_freedByAllNow 143 = .ok (.ireturn, 1) := by decide +kernel
set_option maxRecDepth 20000 in
theorem ggX11_freedByAll_X11_isNoCrew : GoodIn wsX11_freedByAll wsX11_isNoCrew := goodIn_r _ [4, 5, 6, 3, 7] (by decide +kernel) (by decide +kernel)
set_option maxRecDepth 20000 in
theorem gX11_freedByAll_X11_isNoCrew : GoodIn wsX11_freedByAll (va_wsS RX11 150 yX11_isNoCrew wsX11_isNoCrew) := goodIn_app (goodIn_of _ (by decide +kernel)) ggX11_freedByAll_X11_isNoCrew
set_option maxRecDepth 20000 in
theorem ggX11_freedByAll_X11_start : GoodIn wsX11_freedByAll wsX11_start := goodIn_r _ [11, 12, 13, 14, 15, 3, 16, 314, 315] (by decide +kernel) (by decide +kernel)
set_option maxRecDepth 20000 in
theorem gX11_freedByAll_X11_start : GoodIn wsX11_freedByAll (wsV RX11 42 RX11 yX11_start wsX11_start) := goodIn_app (goodIn_of _ (by decide +kernel)) ggX11_freedByAll_X11_start
set_option maxRecDepth 20000 in
theorem ggX11_freedByAll_X11_freedByAllNow : GoodIn wsX11_freedByAll wsX11_freedByAllNow := goodIn_r _ [20, 21, 22, 23, 24, 25, 26, 27, 28, 29, 30, 31, 32, 33, 34, 35, 36, 37, 38, 39, 40, 41, 42, 43, 44, 45, 46, 47, 48, 49, 50, 51, 52, 53, 54, 55, 56, 57, 58, 59, 60, 61, 62, 63, 64, 65, 66, 67, 68, 69, 70, 71, 72, 73, 74, 75, 76, 77, 78, 79, 80, 81, 82, 83, 84, 85, 86, 87, 88, 89, 90, 91, 92, 93, 94, 95, 96, 97, 98, 99, 100, 101, 102, 103, 104, 105, 106, 107, 108, 109, 110, 111, 112, 113, 114, 115, 116, 117, 118, 119, 120, 121, 122, 123, 124, 125, 126, 127, 128, 129, 130, 131, 132, 133, 134, 135, 136, 137, 138, 139, 140, 141, 142, 143, 144, 145, 146, 147, 148, 149, 150, 151, 152, 153, 154, 155, 156, 157, 158, 159, 160, 161, 162, 163, 164, 165, 166, 167, 168, 169, 170, 171, 172, 173, 174, 175, 176, 177, 178, 179, 180, 181, 182, 183, 184, 185, 186, 187, 188, 189, 190, 191, 192, 193, 194, 195, 196, 197, 198, 199, 200, 201, 202, 203, 204, 205, 206, 207, 208, 209, 210, 211, 212, 213, 214, 215, 216, 217, 218, 219, 220, 221, 222, 223, 224, 225, 226, 227, 228, 229, 230, 231, 232, 233, 234, 235, 236, 237, 238, 239, 240, 241, 242, 243, 244, 245, 246, 247, 248, 249, 250, 251, 252, 253, 254, 255, 256, 257, 258, 259, 260, 261, 262, 263, 264, 265, 266, 267, 268, 269, 270, 271, 272, 273, 274, 275, 276, 277, 278, 279, 280, 281, 282, 283, 284, 285, 286, 287, 288, 289, 290, 291, 292, 293, 294, 295, 296, 297, 298, 299, 300, 301, 302, 303, 304, 305, 306, 307, 308, 309, 310, 311, 312, 313, 314, 315, 316, 317, 318, 319, 320, 321, 322, 323, 324, 325, 326, 327, 328, 329, 330, 331, 332, 333, 334, 335, 336, 337, 338, 339, 340, 341, 342, 343, 344] (by decide +kernel) (by decide +kernel)
set_option maxRecDepth 20000 in
theorem gX11_freedByAll_X11_freedByAllNow : GoodIn wsX11_freedByAll (wsV RX11 270 RX11 yX11_freedByAllNow wsX11_freedByAllNow) := goodIn_app (goodIn_of _ (by decide +kernel)) ggX11_freedByAll_X11_freedByAllNow
theorem dX11_freedByAll_0 : decode cX11_freedByAll 0 = .ok (.aload_n 0, 1) := by decide +kernel
theorem dX11_freedByAll_1 : decode cX11_freedByAll 1 = .ok (.iload_n 1, 1) := by decide +kernel
theorem dX11_freedByAll_2 : decode cX11_freedByAll 2 = .ok (.invokestatic 150, 3) := by decide +kernel
theorem dX11_freedByAll_5 : decode cX11_freedByAll 5 = .ok (.iconst 1, 1) := by decide +kernel
theorem dX11_freedByAll_6 : decode cX11_freedByAll 6 = .ok (.invokevirtual 42, 3) := by decide +kernel
theorem dX11_freedByAll_9 : decode cX11_freedByAll 9 = .ok (.ifCond .eq 7, 3) := by decide +kernel
theorem dX11_freedByAll_12 : decode cX11_freedByAll 12 = .ok (.iconst 0, 1) := by decide +kernel
theorem dX11_freedByAll_13 : decode cX11_freedByAll 13 = .ok (.goto 8, 3) := by decide +kernel
theorem dX11_freedByAll_16 : decode cX11_freedByAll 16 = .ok (.aload_n 0, 1) := by decide +kernel
theorem dX11_freedByAll_17 : decode cX11_freedByAll 17 = .ok (.iload_n 1, 1) := by decide +kernel
theorem dX11_freedByAll_18 : decode cX11_freedByAll 18 = .ok (.invokevirtual 270, 3) := by decide +kernel
theorem dX11_freedByAll_21 : decode cX11_freedByAll 21 = .ok (.ireturn, 1) := by decide +kernel
theorem dX11_add_0 : decode cX11_add 0 = .ok (.lload_n 0, 1) := by decide +kernel
theorem dX11_add_1 : decode cX11_add 1 = .ok (.ldc2_w 273, 3) := by decide +kernel
theorem dX11_add_4 : decode cX11_add 4 = .ok (.lmul, 1) := by decide +kernel
theorem dX11_add_5 : decode cX11_add 5 = .ok (.lload_n 2, 1) := by decide +kernel
theorem dX11_add_6 : decode cX11_add 6 = .ok (.ladd, 1) := by decide +kernel
theorem dX11_add_7 : decode cX11_add 7 = .ok (.lreturn, 1) := by decide +kernel
set_option maxRecDepth 20000 in
theorem ggX11_digest_X11_count : GoodIn wsX11_digest wsX11_count := goodIn_r _ [18, 3, 4, 19, 20, 9, 12, 21, 22, 23, 24, 25, 26, 27, 28, 29, 30, 17, 31, 32, 33, 34, 35, 36, 37, 38, 39, 40, 41, 42, 43, 44, 45, 46, 47, 48, 49, 50, 51, 52, 53, 54, 55, 56, 57, 58, 59, 60, 61, 62, 63, 64, 65, 66, 67, 68, 69, 70, 71, 72, 73, 74, 75, 76, 10, 11, 77, 78, 79, 80, 81, 82, 83, 84, 85, 86, 87, 88, 89, 90, 91, 92, 93, 94, 95, 96, 97, 98, 99, 100, 101, 102, 103, 104, 105, 106, 107, 108, 109, 110, 111, 112, 113, 114, 115, 116, 117, 118, 119, 120, 121, 122, 123, 124, 125, 126, 127, 13, 128, 394, 395, 396, 397, 398, 399, 400, 401, 402, 403, 404, 405, 412, 413, 414, 409, 410, 411, 406, 407, 408, 415, 416, 417, 418, 419, 420, 421, 422, 423, 424] (by decide +kernel) (by decide +kernel)
set_option maxRecDepth 20000 in
theorem gX11_digest_X11_count : GoodIn wsX11_digest (wsV RX11 250 RX11 yX11_count wsX11_count) := goodIn_app (goodIn_of _ (by decide +kernel)) ggX11_digest_X11_count
set_option maxRecDepth 20000 in
theorem ggX11_digest_X11_add : GoodIn wsX11_digest wsX11_add := goodIn_r _ [131, 132] (by decide +kernel) (by decide +kernel)
set_option maxRecDepth 20000 in
theorem gX11_digest_X11_add : GoodIn wsX11_digest (va_wsS RX11 277 yX11_add wsX11_add) := goodIn_app (goodIn_of _ (by decide +kernel)) ggX11_digest_X11_add
set_option maxRecDepth 20000 in
theorem ggX11_digest_Jx4a65c_size_8abf5 : GoodIn wsX11_digest wsJx4a65c_size_8abf5 := goodIn_r _ [26, 27, 412, 413, 414] (by decide +kernel) (by decide +kernel)
set_option maxRecDepth 20000 in
theorem gX11_digest_Jx4a65c_size_8abf5 : GoodIn wsX11_digest (wsV RX11 28 RJx4a65c yJx4a65c_size_8abf5 wsJx4a65c_size_8abf5) := goodIn_app (goodIn_of _ (by decide +kernel)) ggX11_digest_Jx4a65c_size_8abf5
set_option maxRecDepth 20000 in
theorem ggX11_digest_X11_ofSheetNow : GoodIn wsX11_digest wsX11_ofSheetNow := goodIn_r _ [136, 137, 5, 7, 138, 139, 140, 3, 141, 142, 143, 17, 144, 4, 145, 77, 43, 44, 25, 45, 27, 46, 47, 48, 49, 50, 51, 52, 53, 54, 55, 56, 57, 58, 146, 60, 61, 62, 63, 64, 65, 66, 67, 68, 69, 70, 71, 23, 24, 26, 72, 22, 147, 148, 149, 150, 151, 152, 121, 122, 96, 123, 108, 102, 112, 107, 153, 154, 155, 35, 156, 37, 38, 86, 42, 157, 33, 34, 36, 39, 40, 41, 59, 82, 83, 84, 85, 87, 88, 89, 90, 91, 92, 93, 94, 95, 97, 98, 99, 100, 101, 103, 104, 105, 106, 109, 110, 111, 113, 114, 115, 116, 117, 118, 119, 120, 406, 407, 408, 409, 410, 411, 394, 395, 396, 397, 398, 399, 400, 401, 402, 403, 404, 405, 412, 413, 414, 415, 416, 417, 418] (by decide +kernel) (by decide +kernel)
set_option maxRecDepth 20000 in
theorem gX11_digest_X11_ofSheetNow : GoodIn wsX11_digest (wsV RX11 131 RX11 yX11_ofSheetNow wsX11_ofSheetNow) := goodIn_app (goodIn_of _ (by decide +kernel)) ggX11_digest_X11_ofSheetNow
set_option maxRecDepth 20000 in
theorem ggX11_digest_X11_of : GoodIn wsX11_digest wsX11_of := goodIn_r _ [144, 3, 4, 145, 77, 43, 44, 25, 45, 27, 46, 47, 48, 49, 50, 51, 52, 53, 54, 55, 56, 57, 58, 394, 395, 396, 397, 398, 399, 400, 401, 402, 403, 404, 405, 412, 413, 414] (by decide +kernel) (by decide +kernel)
set_option maxRecDepth 20000 in
theorem gX11_digest_X11_of : GoodIn wsX11_digest (wsV RX11 78 RX11 yX11_of wsX11_of) := goodIn_app (goodIn_of _ (by decide +kernel)) ggX11_digest_X11_of
set_option maxRecDepth 20000 in
theorem ggX11_digest_Jx4a65c_get_915e3 : GoodIn wsX11_digest wsJx4a65c_get_915e3 := goodIn_r _ [45, 27, 46, 47, 48, 49, 50, 51, 52, 53, 54, 55, 56, 25, 57, 58, 412, 413, 414] (by decide +kernel) (by decide +kernel)
set_option maxRecDepth 20000 in
theorem gX11_digest_Jx4a65c_get_915e3 : GoodIn wsX11_digest (wsV RX11 45 RJx4a65c yJx4a65c_get_915e3 wsJx4a65c_get_915e3) := goodIn_app (goodIn_of _ (by decide +kernel)) ggX11_digest_Jx4a65c_get_915e3
set_option maxRecDepth 20000 in
theorem ggX11_digest_X11_stoppedByNow : GoodIn wsX11_digest wsX11_stoppedByNow := goodIn_r _ [161, 3, 162, 163, 164, 35, 165, 39, 40, 166, 42, 43, 44, 25, 45, 27, 46, 47, 48, 49, 50, 51, 52, 53, 54, 55, 56, 57, 58, 167, 149, 150, 62, 151, 64, 65, 71, 23, 24, 26, 72, 168, 154, 155, 156, 37, 38, 86, 157, 33, 34, 36, 41, 59, 60, 61, 63, 66, 67, 68, 69, 70, 169, 170, 171, 172, 173, 174, 175, 176, 177, 178, 179, 180, 181, 182, 183, 184, 185, 186, 187, 188, 92, 189, 190, 191, 192, 193, 194, 195, 117, 118, 196, 197, 198, 199, 200, 201, 202, 203, 204, 205, 206, 207, 208, 209, 210, 211, 212, 213, 214, 215, 216, 217, 218, 219, 220, 221, 222, 223, 224, 225, 226, 227, 228, 229, 230, 231, 232, 233, 234, 235, 236, 237, 238, 239, 240, 241, 242, 243, 244, 245, 246, 247, 248, 249, 250, 251, 252, 253, 254, 255, 256, 257, 258, 259, 260, 261, 262, 104, 105, 106, 263, 264, 265, 266, 267, 268, 269, 270, 271, 272, 273, 274, 275, 276, 277, 278, 279, 280, 281, 282, 283, 284, 285, 286, 110, 111, 287, 288, 289, 290, 291, 292, 293, 294, 295, 296, 297, 298, 299, 300, 301, 302, 303, 304, 305, 306, 307, 308, 309, 310, 311, 312, 313, 314, 315, 95, 96, 316, 114, 115, 116, 102, 107, 108, 112, 317, 318, 319, 320, 321, 322, 323, 324, 325, 326, 327, 328, 329, 330, 331, 332, 333, 334, 335, 336, 337, 338, 339, 340, 341, 342, 343, 344, 345, 346, 347, 348, 349, 350, 351, 352, 98, 99, 100, 101, 103, 109, 113, 353, 121, 122, 123, 87, 88, 89, 90, 91, 93, 94, 97, 119, 120, 394, 395, 396, 397, 398, 399, 400, 401, 402, 403, 404, 405, 409, 410, 411, 412, 413, 414, 406, 407, 408, 419, 420, 421, 422, 423, 424, 415, 416, 417, 418] (by decide +kernel) (by decide +kernel)
set_option maxRecDepth 20000 in
theorem gX11_digest_X11_stoppedByNow : GoodIn wsX11_digest (wsV RX11 261 RX11 yX11_stoppedByNow wsX11_stoppedByNow) := goodIn_app (goodIn_of _ (by decide +kernel)) ggX11_digest_X11_stoppedByNow
set_option maxRecDepth 20000 in
theorem ggX11_digest_X11_freedByNow : GoodIn wsX11_digest wsX11_freedByNow := goodIn_r _ [357, 3, 10, 11, 12, 13, 128, 169, 170, 171, 35, 172, 173, 174, 39, 40, 37, 175, 176, 38, 177, 178, 179, 180, 181, 182, 183, 184, 185, 186, 187, 188, 92, 189, 190, 191, 192, 193, 194, 195, 117, 118, 196, 197, 25, 198, 199, 200, 201, 202, 203, 204, 205, 58, 206, 207, 208, 209, 210, 211, 212, 213, 214, 215, 86, 23, 24, 26, 27, 42, 43, 44, 45, 46, 47, 48, 49, 50, 51, 52, 53, 54, 55, 56, 57, 216, 217, 218, 62, 219, 220, 221, 222, 64, 65, 223, 224, 225, 226, 227, 228, 229, 71, 72, 230, 231, 232, 233, 234, 235, 236, 237, 238, 239, 240, 241, 242, 243, 244, 245, 246, 247, 248, 249, 250, 251, 252, 253, 254, 255, 256, 257, 258, 259, 260, 261, 262, 104, 105, 106, 263, 264, 265, 266, 267, 268, 269, 270, 271, 272, 273, 274, 275, 276, 277, 278, 279, 280, 281, 282, 283, 284, 285, 286, 110, 111, 287, 288, 289, 290, 291, 292, 293, 294, 295, 296, 297, 298, 299, 300, 301, 302, 303, 304, 305, 306, 307, 308, 309, 310, 311, 312, 313, 314, 315, 95, 96, 316, 114, 115, 116, 102, 107, 108, 112, 77, 22, 358, 359, 360, 361, 362, 363, 364, 365, 327, 328, 329, 330, 331, 332, 333, 334, 335, 336, 337, 338, 339, 340, 341, 342, 67, 68, 69, 70, 168, 154, 155, 156, 157, 33, 34, 36, 41, 59, 60, 61, 63, 66, 343, 344, 345, 346, 347, 348, 349, 350, 351, 352, 98, 99, 100, 101, 103, 109, 113, 353, 121, 122, 123, 87, 88, 89, 90, 91, 93, 94, 97, 119, 120, 394, 395, 396, 397, 398, 399, 400, 401, 402, 403, 404, 405, 419, 420, 421, 422, 423, 424, 412, 413, 414, 406, 407, 408, 409, 410, 411, 415, 416, 417, 418] (by decide +kernel) (by decide +kernel)
set_option maxRecDepth 20000 in
theorem gX11_digest_X11_freedByNow : GoodIn wsX11_digest (wsV RX11 264 RX11 yX11_freedByNow wsX11_freedByNow) := goodIn_app (goodIn_of _ (by decide +kernel)) ggX11_digest_X11_freedByNow
set_option maxRecDepth 20000 in
theorem ggX11_digest_X6_owes : GoodIn wsX11_digest wsX6_owes := goodIn_r _ [369, 176, 191, 38, 86, 23, 24, 25, 26, 27, 370, 371, 372, 35, 373, 42, 43, 44, 45, 46, 47, 48, 49, 50, 51, 52, 53, 54, 55, 56, 57, 58, 396, 397, 398, 399, 400, 401, 402, 403, 404, 405, 412, 413, 414] (by decide +kernel) (by decide +kernel)
set_option maxRecDepth 20000 in
theorem gX11_digest_X6_owes : GoodIn wsX11_digest (wsV RX11 164 RX6 yX6_owes wsX6_owes) := goodIn_app (goodIn_of _ (by decide +kernel)) ggX11_digest_X6_owes
set_option maxRecDepth 20000 in
theorem ggX11_digest_X11_freedByAllNow : GoodIn wsX11_digest wsX11_freedByAllNow := goodIn_r _ [377, 3, 20, 12, 13, 378, 169, 170, 171, 35, 172, 173, 174, 39, 40, 37, 175, 176, 38, 177, 178, 179, 180, 181, 182, 183, 184, 185, 186, 187, 188, 92, 189, 190, 191, 192, 193, 194, 195, 117, 118, 196, 197, 25, 198, 199, 200, 201, 202, 203, 204, 205, 58, 206, 207, 208, 209, 210, 211, 212, 213, 214, 215, 86, 23, 24, 26, 27, 42, 43, 44, 45, 46, 47, 48, 49, 50, 51, 52, 53, 54, 55, 56, 57, 216, 217, 218, 62, 219, 220, 221, 222, 64, 65, 223, 224, 225, 226, 227, 228, 229, 71, 72, 230, 231, 232, 233, 234, 235, 236, 237, 238, 239, 240, 241, 242, 243, 244, 245, 246, 247, 248, 249, 250, 251, 252, 253, 254, 255, 256, 257, 258, 259, 260, 261, 262, 104, 105, 106, 263, 264, 265, 266, 267, 268, 269, 270, 271, 272, 273, 274, 275, 276, 277, 278, 279, 280, 281, 282, 283, 284, 285, 286, 110, 111, 287, 288, 289, 290, 291, 292, 293, 294, 295, 296, 297, 298, 299, 300, 301, 302, 303, 304, 305, 306, 307, 308, 309, 310, 311, 312, 313, 314, 315, 95, 96, 316, 114, 115, 116, 102, 107, 108, 112, 22, 379, 371, 372, 373, 380, 381, 382, 383, 321, 322, 323, 324, 325, 326, 327, 328, 329, 330, 331, 332, 333, 334, 335, 336, 337, 338, 339, 340, 341, 342, 67, 68, 69, 70, 168, 154, 155, 156, 157, 33, 34, 36, 41, 59, 60, 61, 63, 66, 343, 344, 345, 346, 347, 348, 349, 350, 351, 352, 98, 99, 100, 101, 103, 109, 113, 353, 121, 122, 123, 87, 88, 89, 90, 91, 93, 94, 97, 119, 120, 77, 384, 363, 364, 365, 358, 359, 360, 361, 362, 394, 395, 396, 397, 398, 399, 400, 401, 402, 403, 404, 405, 419, 420, 421, 422, 423, 424, 412, 413, 414, 406, 407, 408, 409, 410, 411, 415, 416, 417, 418] (by decide +kernel) (by decide +kernel)
set_option maxRecDepth 20000 in
theorem gX11_digest_X11_freedByAllNow : GoodIn wsX11_digest (wsV RX11 270 RX11 yX11_freedByAllNow wsX11_freedByAllNow) := goodIn_app (goodIn_of _ (by decide +kernel)) ggX11_digest_X11_freedByAllNow
set_option maxRecDepth 20000 in
theorem ggX11_digest_X11_ofPackNow : GoodIn wsX11_digest wsX11_ofPackNow := goodIn_r _ [388, 3, 199, 378, 389, 128, 390, 391, 392, 328, 329, 35, 330, 39, 86, 23, 24, 25, 26, 27, 331, 332, 333, 301, 334, 306, 335, 336, 337, 338, 40, 182, 339, 340, 341, 42, 43, 44, 45, 46, 47, 48, 49, 50, 51, 52, 53, 54, 55, 56, 57, 58, 342, 67, 68, 62, 69, 64, 65, 70, 71, 72, 168, 154, 155, 156, 37, 38, 157, 33, 34, 36, 41, 59, 60, 61, 63, 66, 343, 344, 345, 346, 187, 188, 347, 348, 349, 350, 96, 351, 352, 98, 99, 100, 101, 95, 102, 103, 104, 105, 106, 107, 108, 109, 110, 111, 112, 113, 114, 115, 116, 117, 118, 353, 121, 122, 123, 87, 88, 89, 90, 91, 92, 93, 94, 97, 119, 120, 393, 394, 395, 419, 420, 421, 422, 423, 424, 396, 397, 398, 399, 400, 401, 402, 403, 404, 405, 412, 413, 414, 406, 407, 408, 409, 410, 411, 415, 416, 417, 418] (by decide +kernel) (by decide +kernel)
set_option maxRecDepth 20000 in
theorem gX11_digest_X11_ofPackNow : GoodIn wsX11_digest (wsV RX11 234 RX11 yX11_ofPackNow wsX11_ofPackNow) := goodIn_app (goodIn_of _ (by decide +kernel)) ggX11_digest_X11_ofPackNow
theorem dX11_digest_0 : decode cX11_digest 0 = .ok (.aload_n 0, 1) := by decide +kernel
theorem dX11_digest_1 : decode cX11_digest 1 = .ok (.iconst 0, 1) := by decide +kernel
theorem dX11_digest_2 : decode cX11_digest 2 = .ok (.putfield 16, 3) := by decide +kernel
theorem dX11_digest_5 : decode cX11_digest 5 = .ok (.ldc2_w 275, 3) := by decide +kernel
theorem dX11_digest_8 : decode cX11_digest 8 = .ok (.lstore_n 1, 1) := by decide +kernel
theorem dX11_digest_9 : decode cX11_digest 9 = .ok (.iconst 0, 1) := by decide +kernel
theorem dX11_digest_10 : decode cX11_digest 10 = .ok (.istore_n 3, 1) := by decide +kernel
theorem dX11_digest_11 : decode cX11_digest 11 = .ok (.iload_n 3, 1) := by decide +kernel
theorem dX11_digest_12 : decode cX11_digest 12 = .ok (.bipush 13, 2) := by decide +kernel
theorem dX11_digest_14 : decode cX11_digest 14 = .ok (.if_icmp .ge 20, 3) := by decide +kernel
theorem dX11_digest_17 : decode cX11_digest 17 = .ok (.lload_n 1, 1) := by decide +kernel
theorem dX11_digest_18 : decode cX11_digest 18 = .ok (.aload_n 0, 1) := by decide +kernel
theorem dX11_digest_19 : decode cX11_digest 19 = .ok (.iload_n 3, 1) := by decide +kernel
theorem dX11_digest_20 : decode cX11_digest 20 = .ok (.invokevirtual 250, 3) := by decide +kernel
theorem dX11_digest_23 : decode cX11_digest 23 = .ok (.i2l, 1) := by decide +kernel
theorem dX11_digest_24 : decode cX11_digest 24 = .ok (.invokestatic 277, 3) := by decide +kernel
theorem dX11_digest_27 : decode cX11_digest 27 = .ok (.lstore_n 1, 1) := by decide +kernel
theorem dX11_digest_28 : decode cX11_digest 28 = .ok (.iinc 3 1, 3) := by decide +kernel
theorem dX11_digest_31 : decode cX11_digest 31 = .ok (.goto (-20), 3) := by decide +kernel
theorem dX11_digest_34 : decode cX11_digest 34 = .ok (.iconst 0, 1) := by decide +kernel
theorem dX11_digest_35 : decode cX11_digest 35 = .ok (.istore_n 3, 1) := by decide +kernel
theorem dX11_digest_36 : decode cX11_digest 36 = .ok (.iload_n 3, 1) := by decide +kernel
theorem dX11_digest_37 : decode cX11_digest 37 = .ok (.aload_n 0, 1) := by decide +kernel
theorem dX11_digest_38 : decode cX11_digest 38 = .ok (.getfield 10, 3) := by decide +kernel
theorem dX11_digest_41 : decode cX11_digest 41 = .ok (.getfield 24, 3) := by decide +kernel
theorem dX11_digest_44 : decode cX11_digest 44 = .ok (.invokevirtual 28, 3) := by decide +kernel
theorem dX11_digest_47 : decode cX11_digest 47 = .ok (.if_icmp .ge 132, 3) := by decide +kernel
theorem dX11_digest_50 : decode cX11_digest 50 = .ok (.iconst 0, 1) := by decide +kernel
theorem dX11_digest_51 : decode cX11_digest 51 = .ok (.istore 4, 2) := by decide +kernel
theorem dX11_digest_53 : decode cX11_digest 53 = .ok (.iload 4, 2) := by decide +kernel
theorem dX11_digest_55 : decode cX11_digest 55 = .ok (.bipush 10, 2) := by decide +kernel
theorem dX11_digest_57 : decode cX11_digest 57 = .ok (.if_icmp .ge 22, 3) := by decide +kernel
theorem dX11_digest_60 : decode cX11_digest 60 = .ok (.lload_n 1, 1) := by decide +kernel
theorem dX11_digest_61 : decode cX11_digest 61 = .ok (.aload_n 0, 1) := by decide +kernel
theorem dX11_digest_62 : decode cX11_digest 62 = .ok (.iload_n 3, 1) := by decide +kernel
theorem dX11_digest_63 : decode cX11_digest 63 = .ok (.iload 4, 2) := by decide +kernel
theorem dX11_digest_65 : decode cX11_digest 65 = .ok (.invokevirtual 131, 3) := by decide +kernel
theorem dX11_digest_68 : decode cX11_digest 68 = .ok (.i2l, 1) := by decide +kernel
theorem dX11_digest_69 : decode cX11_digest 69 = .ok (.invokestatic 277, 3) := by decide +kernel
theorem dX11_digest_72 : decode cX11_digest 72 = .ok (.lstore_n 1, 1) := by decide +kernel
theorem dX11_digest_73 : decode cX11_digest 73 = .ok (.iinc 4 1, 3) := by decide +kernel
theorem dX11_digest_76 : decode cX11_digest 76 = .ok (.goto (-23), 3) := by decide +kernel
theorem dX11_digest_79 : decode cX11_digest 79 = .ok (.iconst 0, 1) := by decide +kernel
theorem dX11_digest_80 : decode cX11_digest 80 = .ok (.istore 4, 2) := by decide +kernel
theorem dX11_digest_82 : decode cX11_digest 82 = .ok (.iload 4, 2) := by decide +kernel
theorem dX11_digest_84 : decode cX11_digest 84 = .ok (.aload_n 0, 1) := by decide +kernel
theorem dX11_digest_85 : decode cX11_digest 85 = .ok (.iload_n 3, 1) := by decide +kernel
theorem dX11_digest_86 : decode cX11_digest 86 = .ok (.invokevirtual 78, 3) := by decide +kernel
theorem dX11_digest_89 : decode cX11_digest 89 = .ok (.getfield 54, 3) := by decide +kernel
theorem dX11_digest_92 : decode cX11_digest 92 = .ok (.invokevirtual 28, 3) := by decide +kernel
theorem dX11_digest_95 : decode cX11_digest 95 = .ok (.if_icmp .ge 34, 3) := by decide +kernel
theorem dX11_digest_98 : decode cX11_digest 98 = .ok (.lload_n 1, 1) := by decide +kernel
theorem dX11_digest_99 : decode cX11_digest 99 = .ok (.aload_n 0, 1) := by decide +kernel
theorem dX11_digest_100 : decode cX11_digest 100 = .ok (.iload_n 3, 1) := by decide +kernel
theorem dX11_digest_101 : decode cX11_digest 101 = .ok (.invokevirtual 78, 3) := by decide +kernel
theorem dX11_digest_104 : decode cX11_digest 104 = .ok (.getfield 54, 3) := by decide +kernel
theorem dX11_digest_107 : decode cX11_digest 107 = .ok (.iload 4, 2) := by decide +kernel
theorem dX11_digest_109 : decode cX11_digest 109 = .ok (.invokevirtual 45, 3) := by decide +kernel
theorem dX11_digest_112 : decode cX11_digest 112 = .ok (.checkcast 57, 3) := by decide +kernel
theorem dX11_digest_115 : decode cX11_digest 115 = .ok (.getfield 86, 3) := by decide +kernel
theorem dX11_digest_118 : decode cX11_digest 118 = .ok (.i2l, 1) := by decide +kernel
theorem dX11_digest_119 : decode cX11_digest 119 = .ok (.invokestatic 277, 3) := by decide +kernel
theorem dX11_digest_122 : decode cX11_digest 122 = .ok (.lstore_n 1, 1) := by decide +kernel
theorem dX11_digest_123 : decode cX11_digest 123 = .ok (.iinc 4 1, 3) := by decide +kernel
theorem dX11_digest_126 : decode cX11_digest 126 = .ok (.goto (-44), 3) := by decide +kernel
theorem dX11_digest_129 : decode cX11_digest 129 = .ok (.iconst 0, 1) := by decide +kernel
theorem dX11_digest_130 : decode cX11_digest 130 = .ok (.istore 4, 2) := by decide +kernel
theorem dX11_digest_132 : decode cX11_digest 132 = .ok (.iload 4, 2) := by decide +kernel
theorem dX11_digest_134 : decode cX11_digest 134 = .ok (.iconst 4, 1) := by decide +kernel
theorem dX11_digest_135 : decode cX11_digest 135 = .ok (.if_icmp .ge 27, 3) := by decide +kernel
theorem dX11_digest_138 : decode cX11_digest 138 = .ok (.lload_n 1, 1) := by decide +kernel
theorem dX11_digest_139 : decode cX11_digest 139 = .ok (.aload_n 0, 1) := by decide +kernel
theorem dX11_digest_140 : decode cX11_digest 140 = .ok (.getfield 10, 3) := by decide +kernel
theorem dX11_digest_143 : decode cX11_digest 143 = .ok (.getfield 160, 3) := by decide +kernel
theorem dX11_digest_146 : decode cX11_digest 146 = .ok (.iload 4, 2) := by decide +kernel
theorem dX11_digest_148 : decode cX11_digest 148 = .ok (.aaload, 1) := by decide +kernel
theorem dX11_digest_149 : decode cX11_digest 149 = .ok (.iload_n 3, 1) := by decide +kernel
theorem dX11_digest_150 : decode cX11_digest 150 = .ok (.iaload, 1) := by decide +kernel
theorem dX11_digest_151 : decode cX11_digest 151 = .ok (.i2l, 1) := by decide +kernel
theorem dX11_digest_152 : decode cX11_digest 152 = .ok (.invokestatic 277, 3) := by decide +kernel
theorem dX11_digest_155 : decode cX11_digest 155 = .ok (.lstore_n 1, 1) := by decide +kernel
theorem dX11_digest_156 : decode cX11_digest 156 = .ok (.iinc 4 1, 3) := by decide +kernel
theorem dX11_digest_159 : decode cX11_digest 159 = .ok (.goto (-27), 3) := by decide +kernel
theorem dX11_digest_162 : decode cX11_digest 162 = .ok (.lload_n 1, 1) := by decide +kernel
theorem dX11_digest_163 : decode cX11_digest 163 = .ok (.aload_n 0, 1) := by decide +kernel
theorem dX11_digest_164 : decode cX11_digest 164 = .ok (.iload_n 3, 1) := by decide +kernel
theorem dX11_digest_165 : decode cX11_digest 165 = .ok (.invokevirtual 261, 3) := by decide +kernel
theorem dX11_digest_168 : decode cX11_digest 168 = .ok (.i2l, 1) := by decide +kernel
theorem dX11_digest_169 : decode cX11_digest 169 = .ok (.invokestatic 277, 3) := by decide +kernel
theorem dX11_digest_172 : decode cX11_digest 172 = .ok (.lstore_n 1, 1) := by decide +kernel
theorem dX11_digest_173 : decode cX11_digest 173 = .ok (.iinc 3 1, 3) := by decide +kernel
theorem dX11_digest_176 : decode cX11_digest 176 = .ok (.goto (-140), 3) := by decide +kernel
theorem dX11_digest_179 : decode cX11_digest 179 = .ok (.iconst 0, 1) := by decide +kernel
theorem dX11_digest_180 : decode cX11_digest 180 = .ok (.istore_n 3, 1) := by decide +kernel
theorem dX11_digest_181 : decode cX11_digest 181 = .ok (.iload_n 3, 1) := by decide +kernel
theorem dX11_digest_182 : decode cX11_digest 182 = .ok (.aload_n 0, 1) := by decide +kernel
theorem dX11_digest_183 : decode cX11_digest 183 = .ok (.getfield 10, 3) := by decide +kernel
theorem dX11_digest_186 : decode cX11_digest 186 = .ok (.getfield 167, 3) := by decide +kernel
theorem dX11_digest_189 : decode cX11_digest 189 = .ok (.invokevirtual 28, 3) := by decide +kernel
theorem dX11_digest_192 : decode cX11_digest 192 = .ok (.if_icmp .ge 40, 3) := by decide +kernel
theorem dX11_digest_195 : decode cX11_digest 195 = .ok (.lload_n 1, 1) := by decide +kernel
theorem dX11_digest_196 : decode cX11_digest 196 = .ok (.aload_n 0, 1) := by decide +kernel
theorem dX11_digest_197 : decode cX11_digest 197 = .ok (.getfield 10, 3) := by decide +kernel
theorem dX11_digest_200 : decode cX11_digest 200 = .ok (.getfield 170, 3) := by decide +kernel
theorem dX11_digest_203 : decode cX11_digest 203 = .ok (.iload_n 3, 1) := by decide +kernel
theorem dX11_digest_204 : decode cX11_digest 204 = .ok (.invokevirtual 45, 3) := by decide +kernel
theorem dX11_digest_207 : decode cX11_digest 207 = .ok (.checkcast 176, 3) := by decide +kernel
theorem dX11_digest_210 : decode cX11_digest 210 = .ok (.iconst 1, 1) := by decide +kernel
theorem dX11_digest_211 : decode cX11_digest 211 = .ok (.iaload, 1) := by decide +kernel
theorem dX11_digest_212 : decode cX11_digest 212 = .ok (.i2l, 1) := by decide +kernel
theorem dX11_digest_213 : decode cX11_digest 213 = .ok (.invokestatic 277, 3) := by decide +kernel
theorem dX11_digest_216 : decode cX11_digest 216 = .ok (.aload_n 0, 1) := by decide +kernel
theorem dX11_digest_217 : decode cX11_digest 217 = .ok (.iload_n 3, 1) := by decide +kernel
theorem dX11_digest_218 : decode cX11_digest 218 = .ok (.invokevirtual 264, 3) := by decide +kernel
theorem dX11_digest_221 : decode cX11_digest 221 = .ok (.i2l, 1) := by decide +kernel
theorem dX11_digest_222 : decode cX11_digest 222 = .ok (.invokestatic 277, 3) := by decide +kernel
theorem dX11_digest_225 : decode cX11_digest 225 = .ok (.lstore_n 1, 1) := by decide +kernel
theorem dX11_digest_226 : decode cX11_digest 226 = .ok (.iinc 3 1, 3) := by decide +kernel
theorem dX11_digest_229 : decode cX11_digest 229 = .ok (.goto (-48), 3) := by decide +kernel
theorem dX11_digest_232 : decode cX11_digest 232 = .ok (.iconst 0, 1) := by decide +kernel
theorem dX11_digest_233 : decode cX11_digest 233 = .ok (.istore_n 3, 1) := by decide +kernel
theorem dX11_digest_234 : decode cX11_digest 234 = .ok (.iload_n 3, 1) := by decide +kernel
theorem dX11_digest_235 : decode cX11_digest 235 = .ok (.iconst 4, 1) := by decide +kernel
theorem dX11_digest_236 : decode cX11_digest 236 = .ok (.if_icmp .ge 32, 3) := by decide +kernel
theorem dX11_digest_239 : decode cX11_digest 239 = .ok (.lload_n 1, 1) := by decide +kernel
theorem dX11_digest_240 : decode cX11_digest 240 = .ok (.aload_n 0, 1) := by decide +kernel
theorem dX11_digest_241 : decode cX11_digest 241 = .ok (.getfield 10, 3) := by decide +kernel
theorem dX11_digest_244 : decode cX11_digest 244 = .ok (.iload_n 3, 1) := by decide +kernel
theorem dX11_digest_245 : decode cX11_digest 245 = .ok (.invokevirtual 164, 3) := by decide +kernel
theorem dX11_digest_248 : decode cX11_digest 248 = .ok (.i2l, 1) := by decide +kernel
theorem dX11_digest_249 : decode cX11_digest 249 = .ok (.invokestatic 277, 3) := by decide +kernel
theorem dX11_digest_252 : decode cX11_digest 252 = .ok (.aload_n 0, 1) := by decide +kernel
theorem dX11_digest_253 : decode cX11_digest 253 = .ok (.iload_n 3, 1) := by decide +kernel
theorem dX11_digest_254 : decode cX11_digest 254 = .ok (.invokevirtual 270, 3) := by decide +kernel
theorem dX11_digest_257 : decode cX11_digest 257 = .ok (.i2l, 1) := by decide +kernel
theorem dX11_digest_258 : decode cX11_digest 258 = .ok (.invokestatic 277, 3) := by decide +kernel
theorem dX11_digest_261 : decode cX11_digest 261 = .ok (.lstore_n 1, 1) := by decide +kernel
theorem dX11_digest_262 : decode cX11_digest 262 = .ok (.iinc 3 1, 3) := by decide +kernel
theorem dX11_digest_265 : decode cX11_digest 265 = .ok (.goto (-31), 3) := by decide +kernel
theorem dX11_digest_268 : decode cX11_digest 268 = .ok (.iconst 0, 1) := by decide +kernel
theorem dX11_digest_269 : decode cX11_digest 269 = .ok (.istore_n 3, 1) := by decide +kernel
theorem dX11_digest_270 : decode cX11_digest 270 = .ok (.iload_n 3, 1) := by decide +kernel
theorem dX11_digest_271 : decode cX11_digest 271 = .ok (.aload_n 0, 1) := by decide +kernel
theorem dX11_digest_272 : decode cX11_digest 272 = .ok (.getfield 10, 3) := by decide +kernel
theorem dX11_digest_275 : decode cX11_digest 275 = .ok (.getfield 193, 3) := by decide +kernel
theorem dX11_digest_278 : decode cX11_digest 278 = .ok (.invokevirtual 28, 3) := by decide +kernel
theorem dX11_digest_281 : decode cX11_digest 281 = .ok (.if_icmp .ge 51, 3) := by decide +kernel
theorem dX11_digest_284 : decode cX11_digest 284 = .ok (.iconst 0, 1) := by decide +kernel
theorem dX11_digest_285 : decode cX11_digest 285 = .ok (.istore 4, 2) := by decide +kernel
theorem dX11_digest_287 : decode cX11_digest 287 = .ok (.iload 4, 2) := by decide +kernel
theorem dX11_digest_289 : decode cX11_digest 289 = .ok (.bipush 7, 2) := by decide +kernel
theorem dX11_digest_291 : decode cX11_digest 291 = .ok (.if_icmp .ge 35, 3) := by decide +kernel
theorem dX11_digest_294 : decode cX11_digest 294 = .ok (.lload_n 1, 1) := by decide +kernel
theorem dX11_digest_295 : decode cX11_digest 295 = .ok (.aload_n 0, 1) := by decide +kernel
theorem dX11_digest_296 : decode cX11_digest 296 = .ok (.aload_n 0, 1) := by decide +kernel
theorem dX11_digest_297 : decode cX11_digest 297 = .ok (.getfield 10, 3) := by decide +kernel
theorem dX11_digest_300 : decode cX11_digest 300 = .ok (.getfield 193, 3) := by decide +kernel
theorem dX11_digest_303 : decode cX11_digest 303 = .ok (.iload_n 3, 1) := by decide +kernel
theorem dX11_digest_304 : decode cX11_digest 304 = .ok (.invokevirtual 45, 3) := by decide +kernel
theorem dX11_digest_307 : decode cX11_digest 307 = .ok (.checkcast 196, 3) := by decide +kernel
theorem dX11_digest_310 : decode cX11_digest 310 = .ok (.iload 4, 2) := by decide +kernel
theorem dX11_digest_312 : decode cX11_digest 312 = .ok (.invokevirtual 234, 3) := by decide +kernel
theorem dX11_digest_315 : decode cX11_digest 315 = .ok (.i2l, 1) := by decide +kernel
theorem dX11_digest_316 : decode cX11_digest 316 = .ok (.invokestatic 277, 3) := by decide +kernel
theorem dX11_digest_319 : decode cX11_digest 319 = .ok (.lstore_n 1, 1) := by decide +kernel
theorem dX11_digest_320 : decode cX11_digest 320 = .ok (.iinc 4 1, 3) := by decide +kernel
theorem dX11_digest_323 : decode cX11_digest 323 = .ok (.goto (-36), 3) := by decide +kernel
theorem dX11_digest_326 : decode cX11_digest 326 = .ok (.iinc 3 1, 3) := by decide +kernel
theorem dX11_digest_329 : decode cX11_digest 329 = .ok (.goto (-59), 3) := by decide +kernel
theorem dX11_digest_332 : decode cX11_digest 332 = .ok (.lload_n 1, 1) := by decide +kernel
theorem dX11_digest_333 : decode cX11_digest 333 = .ok (.lreturn, 1) := by decide +kernel
theorem dJ6_bitCount_0f7a4_0 : decode cJ6_bitCount_0f7a4 0 = .ok (.iload_n 0, 1) := by decide +kernel
theorem dJ6_bitCount_0f7a4_1 : decode cJ6_bitCount_0f7a4 1 = .ok (.iload_n 0, 1) := by decide +kernel
theorem dJ6_bitCount_0f7a4_2 : decode cJ6_bitCount_0f7a4 2 = .ok (.iconst 1, 1) := by decide +kernel
theorem dJ6_bitCount_0f7a4_3 : decode cJ6_bitCount_0f7a4 3 = .ok (.iushr, 1) := by decide +kernel
theorem dJ6_bitCount_0f7a4_4 : decode cJ6_bitCount_0f7a4 4 = .ok (.ldc_w 265, 3) := by decide +kernel
theorem dJ6_bitCount_0f7a4_7 : decode cJ6_bitCount_0f7a4 7 = .ok (.iand, 1) := by decide +kernel
theorem dJ6_bitCount_0f7a4_8 : decode cJ6_bitCount_0f7a4 8 = .ok (.isub, 1) := by decide +kernel
theorem dJ6_bitCount_0f7a4_9 : decode cJ6_bitCount_0f7a4 9 = .ok (.istore_n 0, 1) := by decide +kernel
theorem dJ6_bitCount_0f7a4_10 : decode cJ6_bitCount_0f7a4 10 = .ok (.iload_n 0, 1) := by decide +kernel
theorem dJ6_bitCount_0f7a4_11 : decode cJ6_bitCount_0f7a4 11 = .ok (.ldc_w 266, 3) := by decide +kernel
theorem dJ6_bitCount_0f7a4_14 : decode cJ6_bitCount_0f7a4 14 = .ok (.iand, 1) := by decide +kernel
theorem dJ6_bitCount_0f7a4_15 : decode cJ6_bitCount_0f7a4 15 = .ok (.iload_n 0, 1) := by decide +kernel
theorem dJ6_bitCount_0f7a4_16 : decode cJ6_bitCount_0f7a4 16 = .ok (.iconst 2, 1) := by decide +kernel
theorem dJ6_bitCount_0f7a4_17 : decode cJ6_bitCount_0f7a4 17 = .ok (.iushr, 1) := by decide +kernel
theorem dJ6_bitCount_0f7a4_18 : decode cJ6_bitCount_0f7a4 18 = .ok (.ldc_w 266, 3) := by decide +kernel
theorem dJ6_bitCount_0f7a4_21 : decode cJ6_bitCount_0f7a4 21 = .ok (.iand, 1) := by decide +kernel
theorem dJ6_bitCount_0f7a4_22 : decode cJ6_bitCount_0f7a4 22 = .ok (.iadd, 1) := by decide +kernel
theorem dJ6_bitCount_0f7a4_23 : decode cJ6_bitCount_0f7a4 23 = .ok (.istore_n 0, 1) := by decide +kernel
theorem dJ6_bitCount_0f7a4_24 : decode cJ6_bitCount_0f7a4 24 = .ok (.iload_n 0, 1) := by decide +kernel
theorem dJ6_bitCount_0f7a4_25 : decode cJ6_bitCount_0f7a4 25 = .ok (.iload_n 0, 1) := by decide +kernel
theorem dJ6_bitCount_0f7a4_26 : decode cJ6_bitCount_0f7a4 26 = .ok (.iconst 4, 1) := by decide +kernel
theorem dJ6_bitCount_0f7a4_27 : decode cJ6_bitCount_0f7a4 27 = .ok (.iushr, 1) := by decide +kernel
theorem dJ6_bitCount_0f7a4_28 : decode cJ6_bitCount_0f7a4 28 = .ok (.iadd, 1) := by decide +kernel
theorem dJ6_bitCount_0f7a4_29 : decode cJ6_bitCount_0f7a4 29 = .ok (.ldc_w 267, 3) := by decide +kernel
theorem dJ6_bitCount_0f7a4_32 : decode cJ6_bitCount_0f7a4 32 = .ok (.iand, 1) := by decide +kernel
theorem dJ6_bitCount_0f7a4_33 : decode cJ6_bitCount_0f7a4 33 = .ok (.istore_n 0, 1) := by decide +kernel
theorem dJ6_bitCount_0f7a4_34 : decode cJ6_bitCount_0f7a4 34 = .ok (.iload_n 0, 1) := by decide +kernel
theorem dJ6_bitCount_0f7a4_35 : decode cJ6_bitCount_0f7a4 35 = .ok (.iload_n 0, 1) := by decide +kernel
theorem dJ6_bitCount_0f7a4_36 : decode cJ6_bitCount_0f7a4 36 = .ok (.bipush 8, 2) := by decide +kernel
theorem dJ6_bitCount_0f7a4_38 : decode cJ6_bitCount_0f7a4 38 = .ok (.iushr, 1) := by decide +kernel
theorem dJ6_bitCount_0f7a4_39 : decode cJ6_bitCount_0f7a4 39 = .ok (.iadd, 1) := by decide +kernel
theorem dJ6_bitCount_0f7a4_40 : decode cJ6_bitCount_0f7a4 40 = .ok (.istore_n 0, 1) := by decide +kernel
theorem dJ6_bitCount_0f7a4_41 : decode cJ6_bitCount_0f7a4 41 = .ok (.iload_n 0, 1) := by decide +kernel
theorem dJ6_bitCount_0f7a4_42 : decode cJ6_bitCount_0f7a4 42 = .ok (.iload_n 0, 1) := by decide +kernel
theorem dJ6_bitCount_0f7a4_43 : decode cJ6_bitCount_0f7a4 43 = .ok (.bipush 16, 2) := by decide +kernel
theorem dJ6_bitCount_0f7a4_45 : decode cJ6_bitCount_0f7a4 45 = .ok (.iushr, 1) := by decide +kernel
theorem dJ6_bitCount_0f7a4_46 : decode cJ6_bitCount_0f7a4 46 = .ok (.iadd, 1) := by decide +kernel
theorem dJ6_bitCount_0f7a4_47 : decode cJ6_bitCount_0f7a4 47 = .ok (.istore_n 0, 1) := by decide +kernel
theorem dJ6_bitCount_0f7a4_48 : decode cJ6_bitCount_0f7a4 48 = .ok (.iload_n 0, 1) := by decide +kernel
theorem dJ6_bitCount_0f7a4_49 : decode cJ6_bitCount_0f7a4 49 = .ok (.bipush 63, 2) := by decide +kernel
theorem dJ6_bitCount_0f7a4_51 : decode cJ6_bitCount_0f7a4 51 = .ok (.iand, 1) := by decide +kernel
theorem dJ6_bitCount_0f7a4_52 : decode cJ6_bitCount_0f7a4 52 = .ok (.ireturn, 1) := by decide +kernel
theorem dJ13_bitCount_95d88_0 : decode cJ13_bitCount_95d88 0 = .ok (.lload_n 0, 1) := by decide +kernel
theorem dJ13_bitCount_95d88_1 : decode cJ13_bitCount_95d88 1 = .ok (.lload_n 0, 1) := by decide +kernel
theorem dJ13_bitCount_95d88_2 : decode cJ13_bitCount_95d88 2 = .ok (.iconst 1, 1) := by decide +kernel
theorem dJ13_bitCount_95d88_3 : decode cJ13_bitCount_95d88 3 = .ok (.lushr, 1) := by decide +kernel
theorem dJ13_bitCount_95d88_4 : decode cJ13_bitCount_95d88 4 = .ok (.ldc2_w 314, 3) := by decide +kernel
theorem dJ13_bitCount_95d88_7 : decode cJ13_bitCount_95d88 7 = .ok (.land, 1) := by decide +kernel
theorem dJ13_bitCount_95d88_8 : decode cJ13_bitCount_95d88 8 = .ok (.lsub, 1) := by decide +kernel
theorem dJ13_bitCount_95d88_9 : decode cJ13_bitCount_95d88 9 = .ok (.lstore_n 0, 1) := by decide +kernel
theorem dJ13_bitCount_95d88_10 : decode cJ13_bitCount_95d88 10 = .ok (.lload_n 0, 1) := by decide +kernel
theorem dJ13_bitCount_95d88_11 : decode cJ13_bitCount_95d88 11 = .ok (.ldc2_w 316, 3) := by decide +kernel
theorem dJ13_bitCount_95d88_14 : decode cJ13_bitCount_95d88 14 = .ok (.land, 1) := by decide +kernel
theorem dJ13_bitCount_95d88_15 : decode cJ13_bitCount_95d88 15 = .ok (.lload_n 0, 1) := by decide +kernel
theorem dJ13_bitCount_95d88_16 : decode cJ13_bitCount_95d88 16 = .ok (.iconst 2, 1) := by decide +kernel
theorem dJ13_bitCount_95d88_17 : decode cJ13_bitCount_95d88 17 = .ok (.lushr, 1) := by decide +kernel
theorem dJ13_bitCount_95d88_18 : decode cJ13_bitCount_95d88 18 = .ok (.ldc2_w 316, 3) := by decide +kernel
theorem dJ13_bitCount_95d88_21 : decode cJ13_bitCount_95d88 21 = .ok (.land, 1) := by decide +kernel
theorem dJ13_bitCount_95d88_22 : decode cJ13_bitCount_95d88 22 = .ok (.ladd, 1) := by decide +kernel
theorem dJ13_bitCount_95d88_23 : decode cJ13_bitCount_95d88 23 = .ok (.lstore_n 0, 1) := by decide +kernel
theorem dJ13_bitCount_95d88_24 : decode cJ13_bitCount_95d88 24 = .ok (.lload_n 0, 1) := by decide +kernel
theorem dJ13_bitCount_95d88_25 : decode cJ13_bitCount_95d88 25 = .ok (.lload_n 0, 1) := by decide +kernel
theorem dJ13_bitCount_95d88_26 : decode cJ13_bitCount_95d88 26 = .ok (.iconst 4, 1) := by decide +kernel
theorem dJ13_bitCount_95d88_27 : decode cJ13_bitCount_95d88 27 = .ok (.lushr, 1) := by decide +kernel
theorem dJ13_bitCount_95d88_28 : decode cJ13_bitCount_95d88 28 = .ok (.ladd, 1) := by decide +kernel
theorem dJ13_bitCount_95d88_29 : decode cJ13_bitCount_95d88 29 = .ok (.ldc2_w 318, 3) := by decide +kernel
theorem dJ13_bitCount_95d88_32 : decode cJ13_bitCount_95d88 32 = .ok (.land, 1) := by decide +kernel
theorem dJ13_bitCount_95d88_33 : decode cJ13_bitCount_95d88 33 = .ok (.lstore_n 0, 1) := by decide +kernel
theorem dJ13_bitCount_95d88_34 : decode cJ13_bitCount_95d88 34 = .ok (.lload_n 0, 1) := by decide +kernel
theorem dJ13_bitCount_95d88_35 : decode cJ13_bitCount_95d88 35 = .ok (.lload_n 0, 1) := by decide +kernel
theorem dJ13_bitCount_95d88_36 : decode cJ13_bitCount_95d88 36 = .ok (.bipush 8, 2) := by decide +kernel
theorem dJ13_bitCount_95d88_38 : decode cJ13_bitCount_95d88 38 = .ok (.lushr, 1) := by decide +kernel
theorem dJ13_bitCount_95d88_39 : decode cJ13_bitCount_95d88 39 = .ok (.ladd, 1) := by decide +kernel
theorem dJ13_bitCount_95d88_40 : decode cJ13_bitCount_95d88 40 = .ok (.lstore_n 0, 1) := by decide +kernel
theorem dJ13_bitCount_95d88_41 : decode cJ13_bitCount_95d88 41 = .ok (.lload_n 0, 1) := by decide +kernel
theorem dJ13_bitCount_95d88_42 : decode cJ13_bitCount_95d88 42 = .ok (.lload_n 0, 1) := by decide +kernel
theorem dJ13_bitCount_95d88_43 : decode cJ13_bitCount_95d88 43 = .ok (.bipush 16, 2) := by decide +kernel
theorem dJ13_bitCount_95d88_45 : decode cJ13_bitCount_95d88 45 = .ok (.lushr, 1) := by decide +kernel
theorem dJ13_bitCount_95d88_46 : decode cJ13_bitCount_95d88 46 = .ok (.ladd, 1) := by decide +kernel
theorem dJ13_bitCount_95d88_47 : decode cJ13_bitCount_95d88 47 = .ok (.lstore_n 0, 1) := by decide +kernel
theorem dJ13_bitCount_95d88_48 : decode cJ13_bitCount_95d88 48 = .ok (.lload_n 0, 1) := by decide +kernel
theorem dJ13_bitCount_95d88_49 : decode cJ13_bitCount_95d88 49 = .ok (.lload_n 0, 1) := by decide +kernel
theorem dJ13_bitCount_95d88_50 : decode cJ13_bitCount_95d88 50 = .ok (.bipush 32, 2) := by decide +kernel
theorem dJ13_bitCount_95d88_52 : decode cJ13_bitCount_95d88 52 = .ok (.lushr, 1) := by decide +kernel
theorem dJ13_bitCount_95d88_53 : decode cJ13_bitCount_95d88 53 = .ok (.ladd, 1) := by decide +kernel
theorem dJ13_bitCount_95d88_54 : decode cJ13_bitCount_95d88 54 = .ok (.lstore_n 0, 1) := by decide +kernel
theorem dJ13_bitCount_95d88_55 : decode cJ13_bitCount_95d88 55 = .ok (.lload_n 0, 1) := by decide +kernel
theorem dJ13_bitCount_95d88_56 : decode cJ13_bitCount_95d88 56 = .ok (.l2i, 1) := by decide +kernel
theorem dJ13_bitCount_95d88_57 : decode cJ13_bitCount_95d88 57 = .ok (.bipush 127, 2) := by decide +kernel
theorem dJ13_bitCount_95d88_59 : decode cJ13_bitCount_95d88 59 = .ok (.iand, 1) := by decide +kernel
theorem dJ13_bitCount_95d88_60 : decode cJ13_bitCount_95d88 60 = .ok (.ireturn, 1) := by decide +kernel
theorem dJ9_max_7cf53_0 : decode cJ9_max_7cf53 0 = .ok (.iload_n 0, 1) := by decide +kernel
theorem dJ9_max_7cf53_1 : decode cJ9_max_7cf53 1 = .ok (.iload_n 1, 1) := by decide +kernel
theorem dJ9_max_7cf53_2 : decode cJ9_max_7cf53 2 = .ok (.if_icmp .lt 7, 3) := by decide +kernel
theorem dJ9_max_7cf53_5 : decode cJ9_max_7cf53 5 = .ok (.iload_n 0, 1) := by decide +kernel
theorem dJ9_max_7cf53_6 : decode cJ9_max_7cf53 6 = .ok (.goto 4, 3) := by decide +kernel
theorem dJ9_max_7cf53_9 : decode cJ9_max_7cf53 9 = .ok (.iload_n 1, 1) := by decide +kernel
theorem dJ9_max_7cf53_10 : decode cJ9_max_7cf53 10 = .ok (.ireturn, 1) := by decide +kernel
theorem dJ9_min_7cf53_0 : decode cJ9_min_7cf53 0 = .ok (.iload_n 0, 1) := by decide +kernel
theorem dJ9_min_7cf53_1 : decode cJ9_min_7cf53 1 = .ok (.iload_n 1, 1) := by decide +kernel
theorem dJ9_min_7cf53_2 : decode cJ9_min_7cf53 2 = .ok (.if_icmp .gt 7, 3) := by decide +kernel
theorem dJ9_min_7cf53_5 : decode cJ9_min_7cf53 5 = .ok (.iload_n 0, 1) := by decide +kernel
theorem dJ9_min_7cf53_6 : decode cJ9_min_7cf53 6 = .ok (.goto 4, 3) := by decide +kernel
theorem dJ9_min_7cf53_9 : decode cJ9_min_7cf53 9 = .ok (.iload_n 1, 1) := by decide +kernel
theorem dJ9_min_7cf53_10 : decode cJ9_min_7cf53 10 = .ok (.ireturn, 1) := by decide +kernel
theorem dJxa1e45_init_da8c8_0 : decode cJxa1e45_init_da8c8 0 = .ok (.aload_n 0, 1) := by decide +kernel
theorem dJxa1e45_init_da8c8_1 : decode cJxa1e45_init_da8c8 1 = .ok (.invokespecial 1, 3) := by decide +kernel
theorem dJxa1e45_init_da8c8_4 : decode cJxa1e45_init_da8c8 4 = .ok (.return_, 1) := by decide +kernel
set_option maxRecDepth 20000 in
theorem ggJxc12de_init_da8c8_Jxa1e45_init_da8c8 : GoodIn wsJxc12de_init_da8c8 wsJxa1e45_init_da8c8 := goodIn_r _ [5, 6, 7, 8] (by decide +kernel) (by decide +kernel)
set_option maxRecDepth 20000 in
theorem gJxc12de_init_da8c8_Jxa1e45_init_da8c8 : GoodIn wsJxc12de_init_da8c8 (wsJxa1e45_init_da8c8) := ggJxc12de_init_da8c8_Jxa1e45_init_da8c8
theorem dJxc12de_init_da8c8_0 : decode cJxc12de_init_da8c8 0 = .ok (.aload_n 0, 1) := by decide +kernel
theorem dJxc12de_init_da8c8_1 : decode cJxc12de_init_da8c8 1 = .ok (.invokespecial 1, 3) := by decide +kernel
theorem dJxc12de_init_da8c8_4 : decode cJxc12de_init_da8c8 4 = .ok (.aload_n 0, 1) := by decide +kernel
theorem dJxc12de_init_da8c8_5 : decode cJxc12de_init_da8c8 5 = .ok (.iconst 0, 1) := by decide +kernel
theorem dJxc12de_init_da8c8_6 : decode cJxc12de_init_da8c8 6 = .ok (.putfield 7, 3) := by decide +kernel
theorem dJxc12de_init_da8c8_9 : decode cJxc12de_init_da8c8 9 = .ok (.return_, 1) := by decide +kernel
set_option maxRecDepth 20000 in
theorem ggJx4a65c_init_da8c8_Jxc12de_init_da8c8 : GoodIn wsJx4a65c_init_da8c8 wsJxc12de_init_da8c8 := goodIn_r _ [6, 7, 8, 9, 10, 11, 12, 13, 14, 15, 16, 17] (by decide +kernel) (by decide +kernel)
set_option maxRecDepth 20000 in
theorem gJx4a65c_init_da8c8_Jxc12de_init_da8c8 : GoodIn wsJx4a65c_init_da8c8 (wsJxc12de_init_da8c8) := ggJx4a65c_init_da8c8_Jxc12de_init_da8c8
theorem dJx4a65c_init_da8c8_0 : decode cJx4a65c_init_da8c8 0 = .ok (.aload_n 0, 1) := by decide +kernel
theorem dJx4a65c_init_da8c8_1 : decode cJx4a65c_init_da8c8 1 = .ok (.invokespecial 1, 3) := by decide +kernel
theorem dJx4a65c_init_da8c8_4 : decode cJx4a65c_init_da8c8 4 = .ok (.aload_n 0, 1) := by decide +kernel
theorem dJx4a65c_init_da8c8_5 : decode cJx4a65c_init_da8c8 5 = .ok (.getstatic 39, 3) := by decide +kernel
theorem dJx4a65c_init_da8c8_8 : decode cJx4a65c_init_da8c8 8 = .ok (.putfield 9, 3) := by decide +kernel
theorem dJx4a65c_init_da8c8_11 : decode cJx4a65c_init_da8c8 11 = .ok (.return_, 1) := by decide +kernel
set_option maxRecDepth 20000 in
theorem ggJx4a65c_grow_92f84_J8_newLength_cabcc : GoodIn wsJx4a65c_grow_92f84 wsJ8_newLength_cabcc := goodIn_r _ [11, 12, 4, 5, 6, 13, 14, 15, 10, 16] (by decide +kernel) (by decide +kernel)
set_option maxRecDepth 20000 in
theorem gJx4a65c_grow_92f84_J8_newLength_cabcc : GoodIn wsJx4a65c_grow_92f84 (va_wsS RJx4a65c 73 yJ8_newLength_cabcc wsJ8_newLength_cabcc) := goodIn_app (goodIn_of _ (by decide +kernel)) ggJx4a65c_grow_92f84_J8_newLength_cabcc
set_option maxRecDepth 20000 in
theorem ggJx4a65c_grow_92f84_J7_copyOf_1904c : GoodIn wsJx4a65c_grow_92f84 wsJ7_copyOf_1904c := goodIn_r _ [20, 21, 22, 23, 24, 25, 26, 19, 27, 28, 29, 30, 31, 5, 32, 33, 34, 35, 36] (by decide +kernel) (by decide +kernel)
set_option maxRecDepth 20000 in
theorem gJx4a65c_grow_92f84_J7_copyOf_1904c : GoodIn wsJx4a65c_grow_92f84 (va_wsS RJx4a65c 66 yJ7_copyOf_1904c wsJ7_copyOf_1904c) := goodIn_app (goodIn_of _ (by decide +kernel)) ggJx4a65c_grow_92f84_J7_copyOf_1904c
theorem dJx4a65c_grow_92f84_0 : decode cJx4a65c_grow_92f84 0 = .ok (.aload_n 0, 1) := by decide +kernel
theorem dJx4a65c_grow_92f84_1 : decode cJx4a65c_grow_92f84 1 = .ok (.getfield 9, 3) := by decide +kernel
theorem dJx4a65c_grow_92f84_4 : decode cJx4a65c_grow_92f84 4 = .ok (.arraylength, 1) := by decide +kernel
theorem dJx4a65c_grow_92f84_5 : decode cJx4a65c_grow_92f84 5 = .ok (.istore_n 2, 1) := by decide +kernel
theorem dJx4a65c_grow_92f84_6 : decode cJx4a65c_grow_92f84 6 = .ok (.iload_n 2, 1) := by decide +kernel
theorem dJx4a65c_grow_92f84_7 : decode cJx4a65c_grow_92f84 7 = .ok (.ifCond .gt 13, 3) := by decide +kernel
theorem dJx4a65c_grow_92f84_10 : decode cJx4a65c_grow_92f84 10 = .ok (.aload_n 0, 1) := by decide +kernel
theorem dJx4a65c_grow_92f84_11 : decode cJx4a65c_grow_92f84 11 = .ok (.getfield 9, 3) := by decide +kernel
theorem dJx4a65c_grow_92f84_14 : decode cJx4a65c_grow_92f84 14 = .ok (.getstatic 39, 3) := by decide +kernel
theorem dJx4a65c_grow_92f84_17 : decode cJx4a65c_grow_92f84 17 = .ok (.if_acmp .eq 28, 3) := by decide +kernel
theorem dJx4a65c_grow_92f84_20 : decode cJx4a65c_grow_92f84 20 = .ok (.iload_n 2, 1) := by decide +kernel
theorem dJx4a65c_grow_92f84_21 : decode cJx4a65c_grow_92f84 21 = .ok (.iload_n 1, 1) := by decide +kernel
theorem dJx4a65c_grow_92f84_22 : decode cJx4a65c_grow_92f84 22 = .ok (.iload_n 2, 1) := by decide +kernel
theorem dJx4a65c_grow_92f84_23 : decode cJx4a65c_grow_92f84 23 = .ok (.isub, 1) := by decide +kernel
theorem dJx4a65c_grow_92f84_24 : decode cJx4a65c_grow_92f84 24 = .ok (.iload_n 2, 1) := by decide +kernel
theorem dJx4a65c_grow_92f84_25 : decode cJx4a65c_grow_92f84 25 = .ok (.iconst 1, 1) := by decide +kernel
theorem dJx4a65c_grow_92f84_26 : decode cJx4a65c_grow_92f84 26 = .ok (.ishr, 1) := by decide +kernel
theorem dJx4a65c_grow_92f84_27 : decode cJx4a65c_grow_92f84 27 = .ok (.invokestatic 73, 3) := by decide +kernel
theorem dJx4a65c_grow_92f84_30 : decode cJx4a65c_grow_92f84 30 = .ok (.istore_n 3, 1) := by decide +kernel
theorem dJx4a65c_grow_92f84_31 : decode cJx4a65c_grow_92f84 31 = .ok (.aload_n 0, 1) := by decide +kernel
theorem dJx4a65c_grow_92f84_32 : decode cJx4a65c_grow_92f84 32 = .ok (.aload_n 0, 1) := by decide +kernel
theorem dJx4a65c_grow_92f84_33 : decode cJx4a65c_grow_92f84 33 = .ok (.getfield 9, 3) := by decide +kernel
theorem dJx4a65c_grow_92f84_36 : decode cJx4a65c_grow_92f84 36 = .ok (.iload_n 3, 1) := by decide +kernel
theorem dJx4a65c_grow_92f84_37 : decode cJx4a65c_grow_92f84 37 = .ok (.invokestatic 66, 3) := by decide +kernel
theorem dJx4a65c_grow_92f84_40 : decode cJx4a65c_grow_92f84 40 = .ok (.dup_x1, 1) := by decide +kernel
theorem dJx4a65c_grow_92f84_41 : decode cJx4a65c_grow_92f84 41 = .ok (.putfield 9, 3) := by decide +kernel
theorem dJx4a65c_grow_92f84_44 : decode cJx4a65c_grow_92f84 44 = .ok (.areturn, 1) := by decide +kernel
theorem dJx4a65c_grow_92f84_45 : decode cJx4a65c_grow_92f84 45 = .ok (.aload_n 0, 1) := by decide +kernel
theorem dJx4a65c_grow_92f84_46 : decode cJx4a65c_grow_92f84 46 = .ok (.bipush 10, 2) := by decide +kernel
theorem dJx4a65c_grow_92f84_48 : decode cJx4a65c_grow_92f84 48 = .ok (.iload_n 1, 1) := by decide +kernel
theorem dJx4a65c_grow_92f84_49 : decode cJx4a65c_grow_92f84 49 = .ok (.invokestatic 79, 3) := by decide +kernel
theorem dJx4a65c_grow_92f84_52 : decode cJx4a65c_grow_92f84 52 = .ok (.anewarray 7, 3) := by decide +kernel
theorem dJx4a65c_grow_92f84_55 : decode cJx4a65c_grow_92f84 55 = .ok (.dup_x1, 1) := by decide +kernel
theorem dJx4a65c_grow_92f84_56 : decode cJx4a65c_grow_92f84 56 = .ok (.putfield 9, 3) := by decide +kernel
theorem dJx4a65c_grow_92f84_59 : decode cJx4a65c_grow_92f84 59 = .ok (.areturn, 1) := by decide +kernel
set_option maxRecDepth 20000 in
theorem ggJx4a65c_grow_d5877_Jx4a65c_grow_92f84 : GoodIn wsJx4a65c_grow_d5877 wsJx4a65c_grow_92f84 := goodIn_r _ [6, 7, 8, 9, 10, 11, 12, 13, 14, 15, 16, 17, 18, 19, 20, 21, 22, 23, 24, 25, 26, 27, 28, 29, 30, 31, 32, 33, 34, 35, 36, 37, 38, 39, 40, 41, 42, 43, 44, 45] (by decide +kernel) (by decide +kernel)
set_option maxRecDepth 20000 in
theorem gJx4a65c_grow_d5877_Jx4a65c_grow_92f84 : GoodIn wsJx4a65c_grow_d5877 (wsV RJx4a65c 69 RJx4a65c yJx4a65c_grow_92f84 wsJx4a65c_grow_92f84) := goodIn_app (goodIn_of _ (by decide +kernel)) ggJx4a65c_grow_d5877_Jx4a65c_grow_92f84
theorem dJx4a65c_grow_d5877_0 : decode cJx4a65c_grow_d5877 0 = .ok (.aload_n 0, 1) := by decide +kernel
theorem dJx4a65c_grow_d5877_1 : decode cJx4a65c_grow_d5877 1 = .ok (.aload_n 0, 1) := by decide +kernel
theorem dJx4a65c_grow_d5877_2 : decode cJx4a65c_grow_d5877 2 = .ok (.getfield 48, 3) := by decide +kernel
theorem dJx4a65c_grow_d5877_5 : decode cJx4a65c_grow_d5877 5 = .ok (.iconst 1, 1) := by decide +kernel
theorem dJx4a65c_grow_d5877_6 : decode cJx4a65c_grow_d5877 6 = .ok (.iadd, 1) := by decide +kernel
theorem dJx4a65c_grow_d5877_7 : decode cJx4a65c_grow_d5877 7 = .ok (.invokevirtual 69, 3) := by decide +kernel
theorem dJx4a65c_grow_d5877_10 : decode cJx4a65c_grow_d5877 10 = .ok (.areturn, 1) := by decide +kernel
theorem dJx4a65c_size_8abf5_0 : decode cJx4a65c_size_8abf5 0 = .ok (.aload_n 0, 1) := by decide +kernel
theorem dJx4a65c_size_8abf5_1 : decode cJx4a65c_size_8abf5 1 = .ok (.getfield 48, 3) := by decide +kernel
theorem dJx4a65c_size_8abf5_4 : decode cJx4a65c_size_8abf5 4 = .ok (.ireturn, 1) := by decide +kernel
theorem dJx4a65c_isEmpty_aae02_0 : decode cJx4a65c_isEmpty_aae02 0 = .ok (.aload_n 0, 1) := by decide +kernel
theorem dJx4a65c_isEmpty_aae02_1 : decode cJx4a65c_isEmpty_aae02 1 = .ok (.getfield 48, 3) := by decide +kernel
theorem dJx4a65c_isEmpty_aae02_4 : decode cJx4a65c_isEmpty_aae02 4 = .ok (.ifCond .ne 7, 3) := by decide +kernel
theorem dJx4a65c_isEmpty_aae02_7 : decode cJx4a65c_isEmpty_aae02 7 = .ok (.iconst 1, 1) := by decide +kernel
theorem dJx4a65c_isEmpty_aae02_8 : decode cJx4a65c_isEmpty_aae02 8 = .ok (.goto 4, 3) := by decide +kernel
theorem dJx4a65c_isEmpty_aae02_11 : decode cJx4a65c_isEmpty_aae02 11 = .ok (.iconst 0, 1) := by decide +kernel
theorem dJx4a65c_isEmpty_aae02_12 : decode cJx4a65c_isEmpty_aae02 12 = .ok (.ireturn, 1) := by decide +kernel
set_option maxRecDepth 20000 in
theorem ggJx4a65c_toArray_d5877_J7_copyOf_1904c : GoodIn wsJx4a65c_toArray_d5877 wsJ7_copyOf_1904c := goodIn_r _ [6, 7, 8, 9, 10, 11, 12, 5, 13, 14, 15, 16, 17, 18, 19, 20, 21, 22, 23] (by decide +kernel) (by decide +kernel)
set_option maxRecDepth 20000 in
theorem gJx4a65c_toArray_d5877_J7_copyOf_1904c : GoodIn wsJx4a65c_toArray_d5877 (va_wsS RJx4a65c 66 yJ7_copyOf_1904c wsJ7_copyOf_1904c) := goodIn_app (goodIn_of _ (by decide +kernel)) ggJx4a65c_toArray_d5877_J7_copyOf_1904c
theorem dJx4a65c_toArray_d5877_0 : decode cJx4a65c_toArray_d5877 0 = .ok (.aload_n 0, 1) := by decide +kernel
theorem dJx4a65c_toArray_d5877_1 : decode cJx4a65c_toArray_d5877 1 = .ok (.getfield 9, 3) := by decide +kernel
theorem dJx4a65c_toArray_d5877_4 : decode cJx4a65c_toArray_d5877 4 = .ok (.aload_n 0, 1) := by decide +kernel
theorem dJx4a65c_toArray_d5877_5 : decode cJx4a65c_toArray_d5877 5 = .ok (.getfield 48, 3) := by decide +kernel
theorem dJx4a65c_toArray_d5877_8 : decode cJx4a65c_toArray_d5877 8 = .ok (.invokestatic 66, 3) := by decide +kernel
theorem dJx4a65c_toArray_d5877_11 : decode cJx4a65c_toArray_d5877 11 = .ok (.areturn, 1) := by decide +kernel
theorem dJx4a65c_elementData_915e3_0 : decode cJx4a65c_elementData_915e3 0 = .ok (.aload_n 0, 1) := by decide +kernel
theorem dJx4a65c_elementData_915e3_1 : decode cJx4a65c_elementData_915e3 1 = .ok (.getfield 9, 3) := by decide +kernel
theorem dJx4a65c_elementData_915e3_4 : decode cJx4a65c_elementData_915e3 4 = .ok (.iload_n 1, 1) := by decide +kernel
theorem dJx4a65c_elementData_915e3_5 : decode cJx4a65c_elementData_915e3 5 = .ok (.aaload, 1) := by decide +kernel
theorem dJx4a65c_elementData_915e3_6 : decode cJx4a65c_elementData_915e3 6 = .ok (.areturn, 1) := by decide +kernel
set_option maxRecDepth 20000 in
theorem ggJx4a65c_get_915e3_J15_checkIndex_7cf53 : GoodIn wsJx4a65c_get_915e3 wsJ15_checkIndex_7cf53 := goodIn_r _ [5, 6, 7, 8, 9] (by decide +kernel) (by decide +kernel)
set_option maxRecDepth 20000 in
theorem gJx4a65c_get_915e3_J15_checkIndex_7cf53 : GoodIn wsJx4a65c_get_915e3 (va_wsS RJx4a65c 118 yJ15_checkIndex_7cf53 wsJ15_checkIndex_7cf53) := goodIn_app (goodIn_of _ (by decide +kernel)) ggJx4a65c_get_915e3_J15_checkIndex_7cf53
set_option maxRecDepth 20000 in
theorem ggJx4a65c_get_915e3_Jx4a65c_elementData_915e3 : GoodIn wsJx4a65c_get_915e3 wsJx4a65c_elementData_915e3 := goodIn_r _ [14, 15, 16, 17, 18] (by decide +kernel) (by decide +kernel)
set_option maxRecDepth 20000 in
theorem gJx4a65c_get_915e3_Jx4a65c_elementData_915e3 : GoodIn wsJx4a65c_get_915e3 (wsV RJx4a65c 123 RJx4a65c yJx4a65c_elementData_915e3 wsJx4a65c_elementData_915e3) := goodIn_app (goodIn_of _ (by decide +kernel)) ggJx4a65c_get_915e3_Jx4a65c_elementData_915e3
theorem dJx4a65c_get_915e3_0 : decode cJx4a65c_get_915e3 0 = .ok (.iload_n 1, 1) := by decide +kernel
theorem dJx4a65c_get_915e3_1 : decode cJx4a65c_get_915e3 1 = .ok (.aload_n 0, 1) := by decide +kernel
theorem dJx4a65c_get_915e3_2 : decode cJx4a65c_get_915e3 2 = .ok (.getfield 48, 3) := by decide +kernel
theorem dJx4a65c_get_915e3_5 : decode cJx4a65c_get_915e3 5 = .ok (.invokestatic 118, 3) := by decide +kernel
theorem dJx4a65c_get_915e3_8 : decode cJx4a65c_get_915e3 8 = .ok (.pop, 1) := by decide +kernel
theorem dJx4a65c_get_915e3_9 : decode cJx4a65c_get_915e3 9 = .ok (.aload_n 0, 1) := by decide +kernel
theorem dJx4a65c_get_915e3_10 : decode cJx4a65c_get_915e3 10 = .ok (.iload_n 1, 1) := by decide +kernel
theorem dJx4a65c_get_915e3_11 : decode cJx4a65c_get_915e3 11 = .ok (.invokevirtual 123, 3) := by decide +kernel
theorem dJx4a65c_get_915e3_14 : decode cJx4a65c_get_915e3 14 = .ok (.areturn, 1) := by decide +kernel
set_option maxRecDepth 20000 in
theorem ggJx4a65c_add_72be8_Jx4a65c_grow_d5877 : GoodIn wsJx4a65c_add_72be8 wsJx4a65c_grow_d5877 := goodIn_r _ [6, 1, 7, 8, 9, 5, 10, 11, 12, 13, 14, 15, 16, 17, 18, 19, 20, 21, 22, 23, 24, 25, 26, 27, 28, 29, 30, 31, 32, 33, 34, 35, 36, 37, 38, 39, 40, 41, 42, 43, 44, 45, 46, 47, 48, 49] (by decide +kernel) (by decide +kernel)
set_option maxRecDepth 20000 in
theorem gJx4a65c_add_72be8_Jx4a65c_grow_d5877 : GoodIn wsJx4a65c_add_72be8 (wsV RJx4a65c 129 RJx4a65c yJx4a65c_grow_d5877 wsJx4a65c_grow_d5877) := goodIn_app (goodIn_of _ (by decide +kernel)) ggJx4a65c_add_72be8_Jx4a65c_grow_d5877
theorem dJx4a65c_add_72be8_0 : decode cJx4a65c_add_72be8 0 = .ok (.iload_n 3, 1) := by decide +kernel
theorem dJx4a65c_add_72be8_1 : decode cJx4a65c_add_72be8 1 = .ok (.aload_n 2, 1) := by decide +kernel
theorem dJx4a65c_add_72be8_2 : decode cJx4a65c_add_72be8 2 = .ok (.arraylength, 1) := by decide +kernel
theorem dJx4a65c_add_72be8_3 : decode cJx4a65c_add_72be8 3 = .ok (.if_icmp .ne 8, 3) := by decide +kernel
theorem dJx4a65c_add_72be8_6 : decode cJx4a65c_add_72be8 6 = .ok (.aload_n 0, 1) := by decide +kernel
theorem dJx4a65c_add_72be8_7 : decode cJx4a65c_add_72be8 7 = .ok (.invokevirtual 129, 3) := by decide +kernel
theorem dJx4a65c_add_72be8_10 : decode cJx4a65c_add_72be8 10 = .ok (.astore_n 2, 1) := by decide +kernel
theorem dJx4a65c_add_72be8_11 : decode cJx4a65c_add_72be8 11 = .ok (.aload_n 2, 1) := by decide +kernel
theorem dJx4a65c_add_72be8_12 : decode cJx4a65c_add_72be8 12 = .ok (.iload_n 3, 1) := by decide +kernel
theorem dJx4a65c_add_72be8_13 : decode cJx4a65c_add_72be8 13 = .ok (.aload_n 1, 1) := by decide +kernel
theorem dJx4a65c_add_72be8_14 : decode cJx4a65c_add_72be8 14 = .ok (.aastore, 1) := by decide +kernel
theorem dJx4a65c_add_72be8_15 : decode cJx4a65c_add_72be8 15 = .ok (.aload_n 0, 1) := by decide +kernel
theorem dJx4a65c_add_72be8_16 : decode cJx4a65c_add_72be8 16 = .ok (.iload_n 3, 1) := by decide +kernel
theorem dJx4a65c_add_72be8_17 : decode cJx4a65c_add_72be8 17 = .ok (.iconst 1, 1) := by decide +kernel
theorem dJx4a65c_add_72be8_18 : decode cJx4a65c_add_72be8 18 = .ok (.iadd, 1) := by decide +kernel
theorem dJx4a65c_add_72be8_19 : decode cJx4a65c_add_72be8 19 = .ok (.putfield 48, 3) := by decide +kernel
theorem dJx4a65c_add_72be8_22 : decode cJx4a65c_add_72be8 22 = .ok (.return_, 1) := by decide +kernel
set_option maxRecDepth 20000 in
theorem ggJx4a65c_add_9ea2d_Jx4a65c_add_72be8 : GoodIn wsJx4a65c_add_9ea2d wsJx4a65c_add_72be8 := goodIn_r _ [9, 4, 10, 11, 12, 8, 13, 14, 15, 16, 17, 3, 18, 19, 20, 21, 22, 23, 24, 25, 26, 27, 28, 29, 30, 31, 32, 33, 34, 35, 36, 37, 38, 39, 40, 41, 42, 43, 44, 45, 46, 47, 48, 49, 50, 51, 52, 53, 54, 55] (by decide +kernel) (by decide +kernel)
set_option maxRecDepth 20000 in
theorem gJx4a65c_add_9ea2d_Jx4a65c_add_72be8 : GoodIn wsJx4a65c_add_9ea2d (wsV RJx4a65c 131 RJx4a65c yJx4a65c_add_72be8 wsJx4a65c_add_72be8) := goodIn_app (goodIn_of _ (by decide +kernel)) ggJx4a65c_add_9ea2d_Jx4a65c_add_72be8
theorem dJx4a65c_add_9ea2d_0 : decode cJx4a65c_add_9ea2d 0 = .ok (.aload_n 0, 1) := by decide +kernel
theorem dJx4a65c_add_9ea2d_1 : decode cJx4a65c_add_9ea2d 1 = .ok (.dup, 1) := by decide +kernel
theorem dJx4a65c_add_9ea2d_2 : decode cJx4a65c_add_9ea2d 2 = .ok (.getfield 63, 3) := by decide +kernel
theorem dJx4a65c_add_9ea2d_5 : decode cJx4a65c_add_9ea2d 5 = .ok (.iconst 1, 1) := by decide +kernel
theorem dJx4a65c_add_9ea2d_6 : decode cJx4a65c_add_9ea2d 6 = .ok (.iadd, 1) := by decide +kernel
theorem dJx4a65c_add_9ea2d_7 : decode cJx4a65c_add_9ea2d 7 = .ok (.putfield 63, 3) := by decide +kernel
theorem dJx4a65c_add_9ea2d_10 : decode cJx4a65c_add_9ea2d 10 = .ok (.aload_n 0, 1) := by decide +kernel
theorem dJx4a65c_add_9ea2d_11 : decode cJx4a65c_add_9ea2d 11 = .ok (.aload_n 1, 1) := by decide +kernel
theorem dJx4a65c_add_9ea2d_12 : decode cJx4a65c_add_9ea2d 12 = .ok (.aload_n 0, 1) := by decide +kernel
theorem dJx4a65c_add_9ea2d_13 : decode cJx4a65c_add_9ea2d 13 = .ok (.getfield 9, 3) := by decide +kernel
theorem dJx4a65c_add_9ea2d_16 : decode cJx4a65c_add_9ea2d 16 = .ok (.aload_n 0, 1) := by decide +kernel
theorem dJx4a65c_add_9ea2d_17 : decode cJx4a65c_add_9ea2d 17 = .ok (.getfield 48, 3) := by decide +kernel
theorem dJx4a65c_add_9ea2d_20 : decode cJx4a65c_add_9ea2d 20 = .ok (.invokevirtual 131, 3) := by decide +kernel
theorem dJx4a65c_add_9ea2d_23 : decode cJx4a65c_add_9ea2d 23 = .ok (.iconst 1, 1) := by decide +kernel
theorem dJx4a65c_add_9ea2d_24 : decode cJx4a65c_add_9ea2d 24 = .ok (.ireturn, 1) := by decide +kernel
set_option maxRecDepth 20000 in
theorem ggJx4a65c_addAll_f0b43_Jx4a65c_toArray_d5877 : GoodIn wsJx4a65c_addAll_f0b43 wsJx4a65c_toArray_d5877 := goodIn_r _ [13, 3, 4, 14, 15, 16, 17, 18, 19, 20, 21, 22, 23, 24, 25, 26, 27, 28, 29, 30, 31, 6, 7, 8, 50, 51, 52] (by decide +kernel) (by decide +kernel)
set_option maxRecDepth 20000 in
theorem gJx4a65c_addAll_f0b43_Jx4a65c_toArray_d5877_f42Jx4a65c : GoodIn wsJx4a65c_addAll_f0b43 (va_wsF RJx4a65c 42 RJx4a65c ⟨"java/util/Collection", "toArray", "()[Ljava/lang/Object;"⟩ yJx4a65c_toArray_d5877 wsJx4a65c_toArray_d5877) := goodIn_app (goodIn_of _ (by decide +kernel)) ggJx4a65c_addAll_f0b43_Jx4a65c_toArray_d5877
set_option maxRecDepth 20000 in
theorem ggJx4a65c_addAll_f0b43_Jx4a65c_grow_92f84 : GoodIn wsJx4a65c_addAll_f0b43 wsJx4a65c_grow_92f84 := goodIn_r _ [35, 3, 36, 37, 38, 29, 39, 40, 41, 42, 43, 44, 45, 46, 47, 48, 49, 14, 15, 16, 17, 18, 19, 20, 21, 22, 23, 24, 25, 26, 27, 28, 30, 31, 6, 7, 8, 50, 51, 52] (by decide +kernel) (by decide +kernel)
set_option maxRecDepth 20000 in
theorem gJx4a65c_addAll_f0b43_Jx4a65c_grow_92f84 : GoodIn wsJx4a65c_addAll_f0b43 (wsV RJx4a65c 69 RJx4a65c yJx4a65c_grow_92f84 wsJx4a65c_grow_92f84) := goodIn_app (goodIn_of _ (by decide +kernel)) ggJx4a65c_addAll_f0b43_Jx4a65c_grow_92f84
theorem dJx4a65c_addAll_f0b43_0 : decode cJx4a65c_addAll_f0b43 0 = .ok (.aload_n 1, 1) := by decide +kernel
theorem dJx4a65c_addAll_f0b43_1 : decode cJx4a65c_addAll_f0b43 1 = .ok (.invokeinterface 42 1, 5) := by decide +kernel
theorem dJx4a65c_addAll_f0b43_6 : decode cJx4a65c_addAll_f0b43 6 = .ok (.astore_n 2, 1) := by decide +kernel
theorem dJx4a65c_addAll_f0b43_7 : decode cJx4a65c_addAll_f0b43 7 = .ok (.aload_n 0, 1) := by decide +kernel
theorem dJx4a65c_addAll_f0b43_8 : decode cJx4a65c_addAll_f0b43 8 = .ok (.dup, 1) := by decide +kernel
theorem dJx4a65c_addAll_f0b43_9 : decode cJx4a65c_addAll_f0b43 9 = .ok (.getfield 63, 3) := by decide +kernel
theorem dJx4a65c_addAll_f0b43_12 : decode cJx4a65c_addAll_f0b43 12 = .ok (.iconst 1, 1) := by decide +kernel
theorem dJx4a65c_addAll_f0b43_13 : decode cJx4a65c_addAll_f0b43 13 = .ok (.iadd, 1) := by decide +kernel
theorem dJx4a65c_addAll_f0b43_14 : decode cJx4a65c_addAll_f0b43 14 = .ok (.putfield 63, 3) := by decide +kernel
theorem dJx4a65c_addAll_f0b43_17 : decode cJx4a65c_addAll_f0b43 17 = .ok (.aload_n 2, 1) := by decide +kernel
theorem dJx4a65c_addAll_f0b43_18 : decode cJx4a65c_addAll_f0b43 18 = .ok (.arraylength, 1) := by decide +kernel
theorem dJx4a65c_addAll_f0b43_19 : decode cJx4a65c_addAll_f0b43 19 = .ok (.istore_n 3, 1) := by decide +kernel
theorem dJx4a65c_addAll_f0b43_20 : decode cJx4a65c_addAll_f0b43 20 = .ok (.iload_n 3, 1) := by decide +kernel
theorem dJx4a65c_addAll_f0b43_21 : decode cJx4a65c_addAll_f0b43 21 = .ok (.ifCond .ne 5, 3) := by decide +kernel
theorem dJx4a65c_addAll_f0b43_24 : decode cJx4a65c_addAll_f0b43 24 = .ok (.iconst 0, 1) := by decide +kernel
theorem dJx4a65c_addAll_f0b43_25 : decode cJx4a65c_addAll_f0b43 25 = .ok (.ireturn, 1) := by decide +kernel
theorem dJx4a65c_addAll_f0b43_26 : decode cJx4a65c_addAll_f0b43 26 = .ok (.iload_n 3, 1) := by decide +kernel
theorem dJx4a65c_addAll_f0b43_27 : decode cJx4a65c_addAll_f0b43 27 = .ok (.aload_n 0, 1) := by decide +kernel
theorem dJx4a65c_addAll_f0b43_28 : decode cJx4a65c_addAll_f0b43 28 = .ok (.getfield 9, 3) := by decide +kernel
theorem dJx4a65c_addAll_f0b43_31 : decode cJx4a65c_addAll_f0b43 31 = .ok (.dup, 1) := by decide +kernel
theorem dJx4a65c_addAll_f0b43_32 : decode cJx4a65c_addAll_f0b43 32 = .ok (.astore 4, 2) := by decide +kernel
theorem dJx4a65c_addAll_f0b43_34 : decode cJx4a65c_addAll_f0b43 34 = .ok (.arraylength, 1) := by decide +kernel
theorem dJx4a65c_addAll_f0b43_35 : decode cJx4a65c_addAll_f0b43 35 = .ok (.aload_n 0, 1) := by decide +kernel
theorem dJx4a65c_addAll_f0b43_36 : decode cJx4a65c_addAll_f0b43 36 = .ok (.getfield 48, 3) := by decide +kernel
theorem dJx4a65c_addAll_f0b43_39 : decode cJx4a65c_addAll_f0b43 39 = .ok (.dup, 1) := by decide +kernel
theorem dJx4a65c_addAll_f0b43_40 : decode cJx4a65c_addAll_f0b43 40 = .ok (.istore 5, 2) := by decide +kernel
theorem dJx4a65c_addAll_f0b43_42 : decode cJx4a65c_addAll_f0b43 42 = .ok (.isub, 1) := by decide +kernel
theorem dJx4a65c_addAll_f0b43_43 : decode cJx4a65c_addAll_f0b43 43 = .ok (.if_icmp .le 13, 3) := by decide +kernel
theorem dJx4a65c_addAll_f0b43_46 : decode cJx4a65c_addAll_f0b43 46 = .ok (.aload_n 0, 1) := by decide +kernel
theorem dJx4a65c_addAll_f0b43_47 : decode cJx4a65c_addAll_f0b43 47 = .ok (.iload 5, 2) := by decide +kernel
theorem dJx4a65c_addAll_f0b43_49 : decode cJx4a65c_addAll_f0b43 49 = .ok (.iload_n 3, 1) := by decide +kernel
theorem dJx4a65c_addAll_f0b43_50 : decode cJx4a65c_addAll_f0b43 50 = .ok (.iadd, 1) := by decide +kernel
theorem dJx4a65c_addAll_f0b43_51 : decode cJx4a65c_addAll_f0b43 51 = .ok (.invokevirtual 69, 3) := by decide +kernel
theorem dJx4a65c_addAll_f0b43_54 : decode cJx4a65c_addAll_f0b43 54 = .ok (.astore 4, 2) := by decide +kernel
theorem dJx4a65c_addAll_f0b43_56 : decode cJx4a65c_addAll_f0b43 56 = .ok (.aload_n 2, 1) := by decide +kernel
theorem dJx4a65c_addAll_f0b43_57 : decode cJx4a65c_addAll_f0b43 57 = .ok (.iconst 0, 1) := by decide +kernel
theorem dJx4a65c_addAll_f0b43_58 : decode cJx4a65c_addAll_f0b43 58 = .ok (.aload 4, 2) := by decide +kernel
theorem dJx4a65c_addAll_f0b43_60 : decode cJx4a65c_addAll_f0b43 60 = .ok (.iload 5, 2) := by decide +kernel
theorem dJx4a65c_addAll_f0b43_62 : decode cJx4a65c_addAll_f0b43 62 = .ok (.iload_n 3, 1) := by decide +kernel
theorem dJx4a65c_addAll_f0b43_63 : decode cJx4a65c_addAll_f0b43 63 = .ok (.invokestatic 112, 3) := by decide +kernel
theorem dJx4a65c_addAll_f0b43_66 : decode cJx4a65c_addAll_f0b43 66 = .ok (.aload_n 0, 1) := by decide +kernel
theorem dJx4a65c_addAll_f0b43_67 : decode cJx4a65c_addAll_f0b43 67 = .ok (.iload 5, 2) := by decide +kernel
theorem dJx4a65c_addAll_f0b43_69 : decode cJx4a65c_addAll_f0b43 69 = .ok (.iload_n 3, 1) := by decide +kernel
theorem dJx4a65c_addAll_f0b43_70 : decode cJx4a65c_addAll_f0b43 70 = .ok (.iadd, 1) := by decide +kernel
theorem dJx4a65c_addAll_f0b43_71 : decode cJx4a65c_addAll_f0b43 71 = .ok (.putfield 48, 3) := by decide +kernel
theorem dJx4a65c_addAll_f0b43_74 : decode cJx4a65c_addAll_f0b43 74 = .ok (.iconst 1, 1) := by decide +kernel
theorem dJx4a65c_addAll_f0b43_75 : decode cJx4a65c_addAll_f0b43 75 = .ok (.ireturn, 1) := by decide +kernel
theorem dJ7_fill_53178_0 : decode cJ7_fill_53178 0 = .ok (.iconst 0, 1) := by decide +kernel
theorem dJ7_fill_53178_1 : decode cJ7_fill_53178 1 = .ok (.istore_n 2, 1) := by decide +kernel
theorem dJ7_fill_53178_2 : decode cJ7_fill_53178 2 = .ok (.aload_n 0, 1) := by decide +kernel
theorem dJ7_fill_53178_3 : decode cJ7_fill_53178 3 = .ok (.arraylength, 1) := by decide +kernel
theorem dJ7_fill_53178_4 : decode cJ7_fill_53178 4 = .ok (.istore_n 3, 1) := by decide +kernel
theorem dJ7_fill_53178_5 : decode cJ7_fill_53178 5 = .ok (.iload_n 2, 1) := by decide +kernel
theorem dJ7_fill_53178_6 : decode cJ7_fill_53178 6 = .ok (.iload_n 3, 1) := by decide +kernel
theorem dJ7_fill_53178_7 : decode cJ7_fill_53178 7 = .ok (.if_icmp .ge 13, 3) := by decide +kernel
theorem dJ7_fill_53178_10 : decode cJ7_fill_53178 10 = .ok (.aload_n 0, 1) := by decide +kernel
theorem dJ7_fill_53178_11 : decode cJ7_fill_53178 11 = .ok (.iload_n 2, 1) := by decide +kernel
theorem dJ7_fill_53178_12 : decode cJ7_fill_53178 12 = .ok (.iload_n 1, 1) := by decide +kernel
theorem dJ7_fill_53178_13 : decode cJ7_fill_53178 13 = .ok (.iastore, 1) := by decide +kernel
theorem dJ7_fill_53178_14 : decode cJ7_fill_53178 14 = .ok (.iinc 2 1, 3) := by decide +kernel
theorem dJ7_fill_53178_17 : decode cJ7_fill_53178 17 = .ok (.goto (-12), 3) := by decide +kernel
theorem dJ7_fill_53178_20 : decode cJ7_fill_53178 20 = .ok (.return_, 1) := by decide +kernel
set_option maxRecDepth 20000 in
theorem ggJ7_copyOf_1904c_J7_copyOf_6403c : GoodIn wsJ7_copyOf_1904c wsJ7_copyOf_6403c := goodIn_r _ [8, 9, 10, 11, 12, 13, 14, 15, 16, 17, 18] (by decide +kernel) (by decide +kernel)
set_option maxRecDepth 20000 in
theorem gJ7_copyOf_1904c_J7_copyOf_6403c : GoodIn wsJ7_copyOf_1904c (va_wsS RJ7 300 yJ7_copyOf_6403c wsJ7_copyOf_6403c) := goodIn_app (goodIn_of _ (by decide +kernel)) ggJ7_copyOf_1904c_J7_copyOf_6403c
theorem dJ7_copyOf_1904c_0 : decode cJ7_copyOf_1904c 0 = .ok (.aload_n 0, 1) := by decide +kernel
theorem dJ7_copyOf_1904c_1 : decode cJ7_copyOf_1904c 1 = .ok (.iload_n 1, 1) := by decide +kernel
theorem dJ7_copyOf_1904c_2 : decode cJ7_copyOf_1904c 2 = .ok (.aload_n 0, 1) := by decide +kernel
theorem dJ7_copyOf_1904c_3 : decode cJ7_copyOf_1904c 3 = .ok (.invokevirtual 86, 3) := by decide +kernel
theorem dJ7_copyOf_1904c_6 : decode cJ7_copyOf_1904c 6 = .ok (.invokestatic 300, 3) := by decide +kernel
theorem dJ7_copyOf_1904c_9 : decode cJ7_copyOf_1904c 9 = .ok (.areturn, 1) := by decide +kernel
theorem dJ7_copyOf_6403c_0 : decode cJ7_copyOf_6403c 0 = .ok (.aload_n 2, 1) := by decide +kernel
theorem dJ7_copyOf_6403c_1 : decode cJ7_copyOf_6403c 1 = .ok (.ldc 110, 2) := by decide +kernel
theorem dJ7_copyOf_6403c_3 : decode cJ7_copyOf_6403c 3 = .ok (.if_acmp .ne 10, 3) := by decide +kernel
theorem dJ7_copyOf_6403c_6 : decode cJ7_copyOf_6403c 6 = .ok (.iload_n 1, 1) := by decide +kernel
theorem dJ7_copyOf_6403c_7 : decode cJ7_copyOf_6403c 7 = .ok (.anewarray 2, 3) := by decide +kernel
theorem dJ7_copyOf_6403c_10 : decode cJ7_copyOf_6403c 10 = .ok (.goto 14, 3) := by decide +kernel
theorem dJ7_copyOf_6403c_13 : decode cJ7_copyOf_6403c 13 = .ok (.aload_n 2, 1) := by decide +kernel
theorem dJ7_copyOf_6403c_14 : decode cJ7_copyOf_6403c 14 = .ok (.invokevirtual 90, 3) := by decide +kernel
theorem dJ7_copyOf_6403c_17 : decode cJ7_copyOf_6403c 17 = .ok (.iload_n 1, 1) := by decide +kernel
theorem dJ7_copyOf_6403c_18 : decode cJ7_copyOf_6403c 18 = .ok (.invokestatic 95, 3) := by decide +kernel
theorem dJ7_copyOf_6403c_21 : decode cJ7_copyOf_6403c 21 = .ok (.checkcast 110, 3) := by decide +kernel
theorem dJ7_copyOf_6403c_24 : decode cJ7_copyOf_6403c 24 = .ok (.astore_n 3, 1) := by decide +kernel
theorem dJ7_copyOf_6403c_25 : decode cJ7_copyOf_6403c 25 = .ok (.aload_n 0, 1) := by decide +kernel
theorem dJ7_copyOf_6403c_26 : decode cJ7_copyOf_6403c 26 = .ok (.iconst 0, 1) := by decide +kernel
theorem dJ7_copyOf_6403c_27 : decode cJ7_copyOf_6403c 27 = .ok (.aload_n 3, 1) := by decide +kernel
theorem dJ7_copyOf_6403c_28 : decode cJ7_copyOf_6403c 28 = .ok (.iconst 0, 1) := by decide +kernel
theorem dJ7_copyOf_6403c_29 : decode cJ7_copyOf_6403c 29 = .ok (.aload_n 0, 1) := by decide +kernel
theorem dJ7_copyOf_6403c_30 : decode cJ7_copyOf_6403c 30 = .ok (.arraylength, 1) := by decide +kernel
theorem dJ7_copyOf_6403c_31 : decode cJ7_copyOf_6403c 31 = .ok (.iload_n 1, 1) := by decide +kernel
theorem dJ7_copyOf_6403c_32 : decode cJ7_copyOf_6403c 32 = .ok (.invokestatic 304, 3) := by decide +kernel
theorem dJ7_copyOf_6403c_35 : decode cJ7_copyOf_6403c 35 = .ok (.invokestatic 150, 3) := by decide +kernel
theorem dJ7_copyOf_6403c_38 : decode cJ7_copyOf_6403c 38 = .ok (.aload_n 3, 1) := by decide +kernel
theorem dJ7_copyOf_6403c_39 : decode cJ7_copyOf_6403c 39 = .ok (.areturn, 1) := by decide +kernel
set_option maxRecDepth 20000 in
theorem ggJ15_checkIndex_7cf53_J3_checkIndex_8e157 : GoodIn wsJ15_checkIndex_7cf53 wsJ3_checkIndex_8e157 := goodIn_r _ [4] (by decide +kernel) (by decide +kernel)
set_option maxRecDepth 20000 in
theorem gJ15_checkIndex_7cf53_J3_checkIndex_8e157 : GoodIn wsJ15_checkIndex_7cf53 (va_wsS RJ15 105 yJ3_checkIndex_8e157 wsJ3_checkIndex_8e157) := goodIn_app (goodIn_of _ (by decide +kernel)) ggJ15_checkIndex_7cf53_J3_checkIndex_8e157
theorem dJ15_checkIndex_7cf53_0 : decode cJ15_checkIndex_7cf53 0 = .ok (.iload_n 0, 1) := by decide +kernel
theorem dJ15_checkIndex_7cf53_1 : decode cJ15_checkIndex_7cf53 1 = .ok (.iload_n 1, 1) := by decide +kernel
theorem dJ15_checkIndex_7cf53_2 : decode cJ15_checkIndex_7cf53 2 = .ok (.aconst_null, 1) := by decide +kernel
theorem dJ15_checkIndex_7cf53_3 : decode cJ15_checkIndex_7cf53 3 = .ok (.invokestatic 105, 3) := by decide +kernel
theorem dJ15_checkIndex_7cf53_6 : decode cJ15_checkIndex_7cf53 6 = .ok (.ireturn, 1) := by decide +kernel
set_option maxRecDepth 20000 in
theorem ggJ8_newLength_cabcc_J8_hugeLength_7cf53 : GoodIn wsJ8_newLength_cabcc wsJ8_hugeLength_7cf53 := goodIn_r _ [9, 5] (by decide +kernel) (by decide +kernel)
set_option maxRecDepth 20000 in
theorem gJ8_newLength_cabcc_J8_hugeLength_7cf53 : GoodIn wsJ8_newLength_cabcc (va_wsS RJ8 201 yJ8_hugeLength_7cf53 wsJ8_hugeLength_7cf53) := goodIn_app (goodIn_of _ (by decide +kernel)) ggJ8_newLength_cabcc_J8_hugeLength_7cf53
theorem dJ8_newLength_cabcc_0 : decode cJ8_newLength_cabcc 0 = .ok (.iload_n 0, 1) := by decide +kernel
theorem dJ8_newLength_cabcc_1 : decode cJ8_newLength_cabcc 1 = .ok (.iload_n 1, 1) := by decide +kernel
theorem dJ8_newLength_cabcc_2 : decode cJ8_newLength_cabcc 2 = .ok (.iload_n 2, 1) := by decide +kernel
theorem dJ8_newLength_cabcc_3 : decode cJ8_newLength_cabcc 3 = .ok (.invokestatic 194, 3) := by decide +kernel
theorem dJ8_newLength_cabcc_6 : decode cJ8_newLength_cabcc 6 = .ok (.iadd, 1) := by decide +kernel
theorem dJ8_newLength_cabcc_7 : decode cJ8_newLength_cabcc 7 = .ok (.istore_n 3, 1) := by decide +kernel
theorem dJ8_newLength_cabcc_8 : decode cJ8_newLength_cabcc 8 = .ok (.iconst 0, 1) := by decide +kernel
theorem dJ8_newLength_cabcc_9 : decode cJ8_newLength_cabcc 9 = .ok (.iload_n 3, 1) := by decide +kernel
theorem dJ8_newLength_cabcc_10 : decode cJ8_newLength_cabcc 10 = .ok (.if_icmp .ge 11, 3) := by decide +kernel
theorem dJ8_newLength_cabcc_13 : decode cJ8_newLength_cabcc 13 = .ok (.iload_n 3, 1) := by decide +kernel
theorem dJ8_newLength_cabcc_14 : decode cJ8_newLength_cabcc 14 = .ok (.ldc 200, 2) := by decide +kernel
theorem dJ8_newLength_cabcc_16 : decode cJ8_newLength_cabcc 16 = .ok (.if_icmp .gt 5, 3) := by decide +kernel
theorem dJ8_newLength_cabcc_19 : decode cJ8_newLength_cabcc 19 = .ok (.iload_n 3, 1) := by decide +kernel
theorem dJ8_newLength_cabcc_20 : decode cJ8_newLength_cabcc 20 = .ok (.ireturn, 1) := by decide +kernel
theorem dJ8_newLength_cabcc_21 : decode cJ8_newLength_cabcc 21 = .ok (.iload_n 0, 1) := by decide +kernel
theorem dJ8_newLength_cabcc_22 : decode cJ8_newLength_cabcc 22 = .ok (.iload_n 1, 1) := by decide +kernel
theorem dJ8_newLength_cabcc_23 : decode cJ8_newLength_cabcc 23 = .ok (.invokestatic 201, 3) := by decide +kernel
theorem dJ8_newLength_cabcc_26 : decode cJ8_newLength_cabcc 26 = .ok (.ireturn, 1) := by decide +kernel
theorem dJ8_hugeLength_7cf53_0 : decode cJ8_hugeLength_7cf53 0 = .ok (.iload_n 0, 1) := by decide +kernel
theorem dJ8_hugeLength_7cf53_1 : decode cJ8_hugeLength_7cf53 1 = .ok (.iload_n 1, 1) := by decide +kernel
theorem dJ8_hugeLength_7cf53_2 : decode cJ8_hugeLength_7cf53 2 = .ok (.iadd, 1) := by decide +kernel
theorem dJ8_hugeLength_7cf53_3 : decode cJ8_hugeLength_7cf53 3 = .ok (.istore_n 2, 1) := by decide +kernel
theorem dJ8_hugeLength_7cf53_4 : decode cJ8_hugeLength_7cf53 4 = .ok (.iload_n 2, 1) := by decide +kernel
theorem dJ8_hugeLength_7cf53_5 : decode cJ8_hugeLength_7cf53 5 = .ok (.ifCond .ge 44, 3) := by decide +kernel
theorem dJ8_hugeLength_7cf53_8 : decode cJ8_hugeLength_7cf53 8 = .ok (.new 204, 3) := by decide +kernel
theorem dJ8_hugeLength_7cf53_11 : decode cJ8_hugeLength_7cf53 11 = .ok (.dup, 1) := by decide +kernel
theorem dJ8_hugeLength_7cf53_12 : decode cJ8_hugeLength_7cf53 12 = .ok (.new 89, 3) := by decide +kernel
theorem dJ8_hugeLength_7cf53_15 : decode cJ8_hugeLength_7cf53 15 = .ok (.dup, 1) := by decide +kernel
theorem dJ8_hugeLength_7cf53_16 : decode cJ8_hugeLength_7cf53 16 = .ok (.invokespecial 91, 3) := by decide +kernel
theorem dJ8_hugeLength_7cf53_19 : decode cJ8_hugeLength_7cf53 19 = .ok (.ldc 206, 2) := by decide +kernel
theorem dJ8_hugeLength_7cf53_21 : decode cJ8_hugeLength_7cf53 21 = .ok (.invokevirtual 94, 3) := by decide +kernel
theorem dJ8_hugeLength_7cf53_24 : decode cJ8_hugeLength_7cf53 24 = .ok (.iload_n 0, 1) := by decide +kernel
theorem dJ8_hugeLength_7cf53_25 : decode cJ8_hugeLength_7cf53 25 = .ok (.invokevirtual 98, 3) := by decide +kernel
theorem dJ8_hugeLength_7cf53_28 : decode cJ8_hugeLength_7cf53 28 = .ok (.ldc 208, 2) := by decide +kernel
theorem dJ8_hugeLength_7cf53_30 : decode cJ8_hugeLength_7cf53 30 = .ok (.invokevirtual 94, 3) := by decide +kernel
theorem dJ8_hugeLength_7cf53_33 : decode cJ8_hugeLength_7cf53 33 = .ok (.iload_n 1, 1) := by decide +kernel
theorem dJ8_hugeLength_7cf53_34 : decode cJ8_hugeLength_7cf53 34 = .ok (.invokevirtual 98, 3) := by decide +kernel
theorem dJ8_hugeLength_7cf53_37 : decode cJ8_hugeLength_7cf53 37 = .ok (.ldc 210, 2) := by decide +kernel
theorem dJ8_hugeLength_7cf53_39 : decode cJ8_hugeLength_7cf53 39 = .ok (.invokevirtual 94, 3) := by decide +kernel
theorem dJ8_hugeLength_7cf53_42 : decode cJ8_hugeLength_7cf53 42 = .ok (.invokevirtual 101, 3) := by decide +kernel
theorem dJ8_hugeLength_7cf53_45 : decode cJ8_hugeLength_7cf53 45 = .ok (.invokespecial 212, 3) := by decide +kernel
theorem dJ8_hugeLength_7cf53_48 : decode cJ8_hugeLength_7cf53 48 = .ok (.athrow, 1) := by decide +kernel
theorem dJ8_hugeLength_7cf53_49 : decode cJ8_hugeLength_7cf53 49 = .ok (.iload_n 2, 1) := by decide +kernel
theorem dJ8_hugeLength_7cf53_50 : decode cJ8_hugeLength_7cf53 50 = .ok (.ldc 200, 2) := by decide +kernel
theorem dJ8_hugeLength_7cf53_52 : decode cJ8_hugeLength_7cf53 52 = .ok (.if_icmp .gt 6, 3) := by decide +kernel
theorem dJ8_hugeLength_7cf53_55 : decode cJ8_hugeLength_7cf53 55 = .ok (.ldc 200, 2) := by decide +kernel
theorem dJ8_hugeLength_7cf53_57 : decode cJ8_hugeLength_7cf53 57 = .ok (.ireturn, 1) := by decide +kernel
theorem dJ8_hugeLength_7cf53_58 : decode cJ8_hugeLength_7cf53 58 = .ok (.iload_n 2, 1) := by decide +kernel
theorem dJ8_hugeLength_7cf53_59 : decode cJ8_hugeLength_7cf53 59 = .ok (.ireturn, 1) := by decide +kernel
theorem dJ3_checkIndex_8e157_0 : decode cJ3_checkIndex_8e157 0 = .ok (.iload_n 0, 1) := by decide +kernel
theorem dJ3_checkIndex_8e157_1 : decode cJ3_checkIndex_8e157 1 = .ok (.ifCond .lt 8, 3) := by decide +kernel
theorem dJ3_checkIndex_8e157_4 : decode cJ3_checkIndex_8e157 4 = .ok (.iload_n 0, 1) := by decide +kernel
theorem dJ3_checkIndex_8e157_5 : decode cJ3_checkIndex_8e157 5 = .ok (.iload_n 1, 1) := by decide +kernel
theorem dJ3_checkIndex_8e157_6 : decode cJ3_checkIndex_8e157 6 = .ok (.if_icmp .lt 10, 3) := by decide +kernel
theorem dJ3_checkIndex_8e157_9 : decode cJ3_checkIndex_8e157 9 = .ok (.aload_n 2, 1) := by decide +kernel
theorem dJ3_checkIndex_8e157_10 : decode cJ3_checkIndex_8e157 10 = .ok (.iload_n 0, 1) := by decide +kernel
theorem dJ3_checkIndex_8e157_11 : decode cJ3_checkIndex_8e157 11 = .ok (.iload_n 1, 1) := by decide +kernel
theorem dJ3_checkIndex_8e157_12 : decode cJ3_checkIndex_8e157 12 = .ok (.invokestatic 95, 3) := by decide +kernel
theorem dJ3_checkIndex_8e157_15 : decode cJ3_checkIndex_8e157 15 = .ok (.athrow, 1) := by decide +kernel
theorem dJ3_checkIndex_8e157_16 : decode cJ3_checkIndex_8e157 16 = .ok (.iload_n 0, 1) := by decide +kernel
theorem dJ3_checkIndex_8e157_17 : decode cJ3_checkIndex_8e157 17 = .ok (.ireturn, 1) := by decide +kernel
set_option maxRecDepth 20000 in
theorem ggL_sheet_X5_sheet : GoodIn wsL_sheet wsX5_sheet := goodIn_ca (goodIn_ca (goodIn_r _ [6, 7, 8, 9, 10, 11, 12, 13, 14, 15, 16, 17, 18, 19, 20, 21, 22, 23, 24, 25, 26, 27, 28, 29, 30, 31, 32, 33, 34, 35, 36, 37, 38, 39, 40, 41, 42, 43, 44, 45, 46, 47, 48, 49, 50, 51, 52, 53, 54, 55, 56] (by decide +kernel) (by decide +kernel)) (goodIn_sub (fun _ h => List.mem_cons_of_mem _ (List.mem_append_left _ (List.mem_append_right _ h))) (by decide +kernel))) (goodIn_sub (fun _ h => List.mem_cons_of_mem _ (List.mem_append_right _ h)) (by decide +kernel))
set_option maxRecDepth 20000 in
theorem gL_sheet_X5_sheet : GoodIn wsL_sheet (wsV RL 7 RX5 yX5_sheet wsX5_sheet) := goodIn_app (goodIn_of _ (by decide +kernel)) ggL_sheet_X5_sheet
theorem dL_sheet_0 : decode cL_sheet 0 = .ok (.aload_n 2, 1) := by decide +kernel
theorem dL_sheet_1 : decode cL_sheet 1 = .ok (.iconst 0, 1) := by decide +kernel
theorem dL_sheet_2 : decode cL_sheet 2 = .ok (.aload_n 0, 1) := by decide +kernel
theorem dL_sheet_3 : decode cL_sheet 3 = .ok (.iload_n 1, 1) := by decide +kernel
theorem dL_sheet_4 : decode cL_sheet 4 = .ok (.invokevirtual 7, 3) := by decide +kernel
theorem dL_sheet_7 : decode cL_sheet 7 = .ok (.i2l, 1) := by decide +kernel
theorem dL_sheet_8 : decode cL_sheet 8 = .ok (.lastore, 1) := by decide +kernel
theorem dL_sheet_9 : decode cL_sheet 9 = .ok (.goto 9, 3) := by decide +kernel
theorem dL_sheet_12 : decode cL_sheet 12 = .ok (.astore_n 3, 1) := by decide +kernel
theorem dL_sheet_13 : decode cL_sheet 13 = .ok (.iconst 1, 1) := by decide +kernel
theorem dL_sheet_14 : decode cL_sheet 14 = .ok (.ireturn, 1) := by decide +kernel
theorem dL_sheet_15 : decode cL_sheet 15 = .ok (.astore_n 3, 1) := by decide +kernel
theorem dL_sheet_16 : decode cL_sheet 16 = .ok (.iconst 2, 1) := by decide +kernel
theorem dL_sheet_17 : decode cL_sheet 17 = .ok (.ireturn, 1) := by decide +kernel
theorem dL_sheet_18 : decode cL_sheet 18 = .ok (.iconst 0, 1) := by decide +kernel
theorem dL_sheet_19 : decode cL_sheet 19 = .ok (.ireturn, 1) := by decide +kernel
set_option maxRecDepth 20000 in
theorem ggL_draw_X5_draw : GoodIn wsL_draw wsX5_draw := goodIn_ca (goodIn_ca (goodIn_ca (goodIn_r _ [6, 7, 8, 9, 10, 11, 12, 13, 14, 5, 15, 16, 17, 18, 19, 20, 21, 22, 23, 24, 25, 26, 27, 28, 29, 30, 31, 32, 33, 34, 35, 36, 37, 38, 39, 40, 41, 42, 43, 44, 45, 46, 47, 48, 49, 50, 51, 52, 53, 54, 55, 56, 57, 58, 59, 60, 61, 62, 63, 64, 65, 66, 67, 68, 69, 70, 71, 72, 73, 74, 75, 76, 77, 78, 79] (by decide +kernel) (by decide +kernel)) (goodIn_sub (fun _ h => List.mem_cons_of_mem _ (List.mem_append_left _ (List.mem_append_left _ (List.mem_append_right _ h)))) (by decide +kernel))) (goodIn_sub (fun _ h => List.mem_cons_of_mem _ (List.mem_append_left _ (List.mem_append_right _ h))) (by decide +kernel))) (goodIn_sub (fun _ h => List.mem_cons_of_mem _ (List.mem_append_right _ h)) (by decide +kernel))
set_option maxRecDepth 20000 in
theorem gL_draw_X5_draw : GoodIn wsL_draw (wsV RL 17 RX5 yX5_draw wsX5_draw) := goodIn_app (goodIn_of _ (by decide +kernel)) ggL_draw_X5_draw
theorem dL_draw_0 : decode cL_draw 0 = .ok (.aload 7, 2) := by decide +kernel
theorem dL_draw_2 : decode cL_draw 2 = .ok (.iconst 0, 1) := by decide +kernel
theorem dL_draw_3 : decode cL_draw 3 = .ok (.aload_n 0, 1) := by decide +kernel
theorem dL_draw_4 : decode cL_draw 4 = .ok (.iload_n 1, 1) := by decide +kernel
theorem dL_draw_5 : decode cL_draw 5 = .ok (.iload_n 2, 1) := by decide +kernel
theorem dL_draw_6 : decode cL_draw 6 = .ok (.iload_n 3, 1) := by decide +kernel
theorem dL_draw_7 : decode cL_draw 7 = .ok (.iload 4, 2) := by decide +kernel
theorem dL_draw_9 : decode cL_draw 9 = .ok (.iload 5, 2) := by decide +kernel
theorem dL_draw_11 : decode cL_draw 11 = .ok (.iload 6, 2) := by decide +kernel
theorem dL_draw_13 : decode cL_draw 13 = .ok (.invokevirtual 17, 3) := by decide +kernel
theorem dL_draw_16 : decode cL_draw 16 = .ok (.i2l, 1) := by decide +kernel
theorem dL_draw_17 : decode cL_draw 17 = .ok (.lastore, 1) := by decide +kernel
theorem dL_draw_18 : decode cL_draw 18 = .ok (.goto 15, 3) := by decide +kernel
theorem dL_draw_21 : decode cL_draw 21 = .ok (.astore 8, 2) := by decide +kernel
theorem dL_draw_23 : decode cL_draw 23 = .ok (.iconst 1, 1) := by decide +kernel
theorem dL_draw_24 : decode cL_draw 24 = .ok (.ireturn, 1) := by decide +kernel
theorem dL_draw_25 : decode cL_draw 25 = .ok (.astore 8, 2) := by decide +kernel
theorem dL_draw_27 : decode cL_draw 27 = .ok (.iconst 2, 1) := by decide +kernel
theorem dL_draw_28 : decode cL_draw 28 = .ok (.ireturn, 1) := by decide +kernel
theorem dL_draw_29 : decode cL_draw 29 = .ok (.astore 8, 2) := by decide +kernel
theorem dL_draw_31 : decode cL_draw 31 = .ok (.iconst 3, 1) := by decide +kernel
theorem dL_draw_32 : decode cL_draw 32 = .ok (.ireturn, 1) := by decide +kernel
theorem dL_draw_33 : decode cL_draw 33 = .ok (.iconst 0, 1) := by decide +kernel
theorem dL_draw_34 : decode cL_draw 34 = .ok (.ireturn, 1) := by decide +kernel
set_option maxRecDepth 20000 in
theorem ggL_revise_X5_revise : GoodIn wsL_revise wsX5_revise := goodIn_ca (goodIn_ca (goodIn_r _ [6, 7, 8, 9, 10, 11, 12, 5, 13, 14, 15, 16, 17, 18, 19, 20, 21, 22, 23, 24, 25, 26, 27, 28, 29, 30, 31, 32, 33, 34, 35, 36, 37, 38, 39, 40, 41, 42, 43, 44, 45, 46, 47, 48, 49, 50, 51, 52, 53, 54, 55, 56] (by decide +kernel) (by decide +kernel)) (goodIn_sub (fun _ h => List.mem_cons_of_mem _ (List.mem_append_left _ (List.mem_append_right _ h))) (by decide +kernel))) (goodIn_sub (fun _ h => List.mem_cons_of_mem _ (List.mem_append_right _ h)) (by decide +kernel))
set_option maxRecDepth 20000 in
theorem gL_revise_X5_revise : GoodIn wsL_revise (wsV RL 23 RX5 yX5_revise wsX5_revise) := goodIn_app (goodIn_of _ (by decide +kernel)) ggL_revise_X5_revise
theorem dL_revise_0 : decode cL_revise 0 = .ok (.aload_n 2, 1) := by decide +kernel
theorem dL_revise_1 : decode cL_revise 1 = .ok (.iconst 0, 1) := by decide +kernel
theorem dL_revise_2 : decode cL_revise 2 = .ok (.aload_n 0, 1) := by decide +kernel
theorem dL_revise_3 : decode cL_revise 3 = .ok (.iload_n 1, 1) := by decide +kernel
theorem dL_revise_4 : decode cL_revise 4 = .ok (.invokevirtual 23, 3) := by decide +kernel
theorem dL_revise_7 : decode cL_revise 7 = .ok (.i2l, 1) := by decide +kernel
theorem dL_revise_8 : decode cL_revise 8 = .ok (.lastore, 1) := by decide +kernel
theorem dL_revise_9 : decode cL_revise 9 = .ok (.goto 9, 3) := by decide +kernel
theorem dL_revise_12 : decode cL_revise 12 = .ok (.astore_n 3, 1) := by decide +kernel
theorem dL_revise_13 : decode cL_revise 13 = .ok (.iconst 1, 1) := by decide +kernel
theorem dL_revise_14 : decode cL_revise 14 = .ok (.ireturn, 1) := by decide +kernel
theorem dL_revise_15 : decode cL_revise 15 = .ok (.astore_n 3, 1) := by decide +kernel
theorem dL_revise_16 : decode cL_revise 16 = .ok (.iconst 2, 1) := by decide +kernel
theorem dL_revise_17 : decode cL_revise 17 = .ok (.ireturn, 1) := by decide +kernel
theorem dL_revise_18 : decode cL_revise 18 = .ok (.iconst 0, 1) := by decide +kernel
theorem dL_revise_19 : decode cL_revise 19 = .ok (.ireturn, 1) := by decide +kernel
set_option maxRecDepth 20000 in
theorem ggL_check_X5_check : GoodIn wsL_check wsX5_check := goodIn_ca (goodIn_ca (goodIn_r _ [6, 7, 8, 9, 10, 11, 12, 5, 13, 14, 15, 16, 17, 18, 19, 20, 21, 22, 23, 24, 25, 26, 27, 28, 29, 30, 31, 32, 33, 34, 35, 36, 37, 38, 39, 40, 41, 42, 43, 44, 45, 46, 47, 48, 49, 50, 51, 52, 53, 54, 55, 56, 57, 58, 59, 60, 61, 62, 63, 64, 65, 66] (by decide +kernel) (by decide +kernel)) (goodIn_sub (fun _ h => List.mem_cons_of_mem _ (List.mem_append_left _ (List.mem_append_right _ h))) (by decide +kernel))) (goodIn_sub (fun _ h => List.mem_cons_of_mem _ (List.mem_append_right _ h)) (by decide +kernel))
set_option maxRecDepth 20000 in
theorem gL_check_X5_check : GoodIn wsL_check (wsV RL 26 RX5 yX5_check wsX5_check) := goodIn_app (goodIn_of _ (by decide +kernel)) ggL_check_X5_check
theorem dL_check_0 : decode cL_check 0 = .ok (.aload_n 2, 1) := by decide +kernel
theorem dL_check_1 : decode cL_check 1 = .ok (.iconst 0, 1) := by decide +kernel
theorem dL_check_2 : decode cL_check 2 = .ok (.aload_n 0, 1) := by decide +kernel
theorem dL_check_3 : decode cL_check 3 = .ok (.iload_n 1, 1) := by decide +kernel
theorem dL_check_4 : decode cL_check 4 = .ok (.invokevirtual 26, 3) := by decide +kernel
theorem dL_check_7 : decode cL_check 7 = .ok (.i2l, 1) := by decide +kernel
theorem dL_check_8 : decode cL_check 8 = .ok (.lastore, 1) := by decide +kernel
theorem dL_check_9 : decode cL_check 9 = .ok (.goto 9, 3) := by decide +kernel
theorem dL_check_12 : decode cL_check 12 = .ok (.astore_n 3, 1) := by decide +kernel
theorem dL_check_13 : decode cL_check 13 = .ok (.iconst 1, 1) := by decide +kernel
theorem dL_check_14 : decode cL_check 14 = .ok (.ireturn, 1) := by decide +kernel
theorem dL_check_15 : decode cL_check 15 = .ok (.astore_n 3, 1) := by decide +kernel
theorem dL_check_16 : decode cL_check 16 = .ok (.iconst 2, 1) := by decide +kernel
theorem dL_check_17 : decode cL_check 17 = .ok (.ireturn, 1) := by decide +kernel
theorem dL_check_18 : decode cL_check 18 = .ok (.iconst 0, 1) := by decide +kernel
theorem dL_check_19 : decode cL_check 19 = .ok (.ireturn, 1) := by decide +kernel
set_option maxRecDepth 20000 in
theorem ggL_issue_X5_issue : GoodIn wsL_issue wsX5_issue := goodIn_ca (goodIn_ca (goodIn_r _ [6, 7, 8, 9, 10, 11, 12, 5, 13, 14, 15, 16, 17, 18, 19, 20, 21, 22, 23, 24, 25, 26, 27, 28, 29, 30, 31, 32, 33, 34, 35, 36, 37, 38, 39, 40, 41, 42, 43, 44, 45, 46, 47, 48, 49, 50, 51, 52, 53, 54, 55, 56, 57, 58, 59, 60, 61, 62, 63, 64, 65, 66, 67, 68, 69, 70, 71, 72, 73, 74, 75, 76, 77, 78, 79, 80, 81, 82, 83, 84, 85, 86, 87, 88, 89, 90, 91, 92, 93, 94, 95, 96, 97, 98, 99, 100, 101, 102, 103, 104, 105, 106, 107, 108, 109, 110, 111, 112, 113, 114, 115, 116, 117, 118, 119, 120, 121, 122, 123, 124, 125, 126, 127, 128, 129, 130, 131] (by decide +kernel) (by decide +kernel)) (goodIn_sub (fun _ h => List.mem_cons_of_mem _ (List.mem_append_left _ (List.mem_append_right _ h))) (by decide +kernel))) (goodIn_sub (fun _ h => List.mem_cons_of_mem _ (List.mem_append_right _ h)) (by decide +kernel))
set_option maxRecDepth 20000 in
theorem gL_issue_X5_issue : GoodIn wsL_issue (wsV RL 29 RX5 yX5_issue wsX5_issue) := goodIn_app (goodIn_of _ (by decide +kernel)) ggL_issue_X5_issue
theorem dL_issue_0 : decode cL_issue 0 = .ok (.aload_n 2, 1) := by decide +kernel
theorem dL_issue_1 : decode cL_issue 1 = .ok (.iconst 0, 1) := by decide +kernel
theorem dL_issue_2 : decode cL_issue 2 = .ok (.aload_n 0, 1) := by decide +kernel
theorem dL_issue_3 : decode cL_issue 3 = .ok (.iload_n 1, 1) := by decide +kernel
theorem dL_issue_4 : decode cL_issue 4 = .ok (.invokevirtual 29, 3) := by decide +kernel
theorem dL_issue_7 : decode cL_issue 7 = .ok (.i2l, 1) := by decide +kernel
theorem dL_issue_8 : decode cL_issue 8 = .ok (.lastore, 1) := by decide +kernel
theorem dL_issue_9 : decode cL_issue 9 = .ok (.goto 9, 3) := by decide +kernel
theorem dL_issue_12 : decode cL_issue 12 = .ok (.astore_n 3, 1) := by decide +kernel
theorem dL_issue_13 : decode cL_issue 13 = .ok (.iconst 1, 1) := by decide +kernel
theorem dL_issue_14 : decode cL_issue 14 = .ok (.ireturn, 1) := by decide +kernel
theorem dL_issue_15 : decode cL_issue 15 = .ok (.astore_n 3, 1) := by decide +kernel
theorem dL_issue_16 : decode cL_issue 16 = .ok (.iconst 2, 1) := by decide +kernel
theorem dL_issue_17 : decode cL_issue 17 = .ok (.ireturn, 1) := by decide +kernel
theorem dL_issue_18 : decode cL_issue 18 = .ok (.iconst 0, 1) := by decide +kernel
theorem dL_issue_19 : decode cL_issue 19 = .ok (.ireturn, 1) := by decide +kernel
set_option maxRecDepth 20000 in
theorem ggL_refer_X5_refer : GoodIn wsL_refer wsX5_refer := goodIn_ca (goodIn_ca (goodIn_ca (goodIn_r _ [6, 7, 8, 9, 10, 11, 12, 13, 14, 15, 16, 17, 18, 19, 5, 20, 21, 22, 23, 24, 25, 26, 27, 28, 29, 30, 31, 32, 33, 34, 35, 36, 37, 38, 39, 40, 41, 42, 43, 44, 45, 46, 47, 48, 49, 50, 51, 52, 53, 54, 55, 56, 57, 58, 59, 60, 61, 62, 63, 64, 65, 66, 67, 68, 69, 70, 71, 72, 73, 74, 75, 76, 77, 78, 79, 80, 81, 82, 83, 84, 85, 86, 87, 88, 89, 90, 91, 92, 93, 94, 95, 96, 97, 98, 99, 100, 101, 102, 103, 104, 105, 106, 107, 108, 109, 110, 111, 112, 113, 114, 115, 116, 117, 118, 119, 120, 121, 122, 123, 124, 125, 126, 127, 128, 129] (by decide +kernel) (by decide +kernel)) (goodIn_sub (fun _ h => List.mem_cons_of_mem _ (List.mem_append_left _ (List.mem_append_left _ (List.mem_append_right _ h)))) (by decide +kernel))) (goodIn_sub (fun _ h => List.mem_cons_of_mem _ (List.mem_append_left _ (List.mem_append_right _ h))) (by decide +kernel))) (goodIn_sub (fun _ h => List.mem_cons_of_mem _ (List.mem_append_right _ h)) (by decide +kernel))
set_option maxRecDepth 20000 in
theorem gL_refer_X5_refer : GoodIn wsL_refer (wsV RL 32 RX5 yX5_refer wsX5_refer) := goodIn_app (goodIn_of _ (by decide +kernel)) ggL_refer_X5_refer
theorem dL_refer_0 : decode cL_refer 0 = .ok (.aload 4, 2) := by decide +kernel
theorem dL_refer_2 : decode cL_refer 2 = .ok (.iconst 0, 1) := by decide +kernel
theorem dL_refer_3 : decode cL_refer 3 = .ok (.aload_n 0, 1) := by decide +kernel
theorem dL_refer_4 : decode cL_refer 4 = .ok (.iload_n 1, 1) := by decide +kernel
theorem dL_refer_5 : decode cL_refer 5 = .ok (.iload_n 2, 1) := by decide +kernel
theorem dL_refer_6 : decode cL_refer 6 = .ok (.iload_n 3, 1) := by decide +kernel
theorem dL_refer_7 : decode cL_refer 7 = .ok (.invokevirtual 32, 3) := by decide +kernel
theorem dL_refer_10 : decode cL_refer 10 = .ok (.i2l, 1) := by decide +kernel
theorem dL_refer_11 : decode cL_refer 11 = .ok (.lastore, 1) := by decide +kernel
theorem dL_refer_12 : decode cL_refer 12 = .ok (.goto 15, 3) := by decide +kernel
theorem dL_refer_15 : decode cL_refer 15 = .ok (.astore 5, 2) := by decide +kernel
theorem dL_refer_17 : decode cL_refer 17 = .ok (.iconst 1, 1) := by decide +kernel
theorem dL_refer_18 : decode cL_refer 18 = .ok (.ireturn, 1) := by decide +kernel
theorem dL_refer_19 : decode cL_refer 19 = .ok (.astore 5, 2) := by decide +kernel
theorem dL_refer_21 : decode cL_refer 21 = .ok (.iconst 2, 1) := by decide +kernel
theorem dL_refer_22 : decode cL_refer 22 = .ok (.ireturn, 1) := by decide +kernel
theorem dL_refer_23 : decode cL_refer 23 = .ok (.astore 5, 2) := by decide +kernel
theorem dL_refer_25 : decode cL_refer 25 = .ok (.iconst 3, 1) := by decide +kernel
theorem dL_refer_26 : decode cL_refer 26 = .ok (.ireturn, 1) := by decide +kernel
theorem dL_refer_27 : decode cL_refer 27 = .ok (.iconst 0, 1) := by decide +kernel
theorem dL_refer_28 : decode cL_refer 28 = .ok (.ireturn, 1) := by decide +kernel
set_option maxRecDepth 20000 in
theorem ggL_ofSheet_X5_ofSheet : GoodIn wsL_ofSheet wsX5_ofSheet := goodIn_ca (goodIn_ca (goodIn_r _ [6, 7, 8, 9, 10, 11, 12, 5, 13, 14, 15, 16, 17, 18, 19, 20, 21, 22, 23, 24, 25, 26, 27, 28, 29, 30, 31, 32, 33, 34, 35, 36, 37, 38, 39, 40, 41, 42, 43, 44, 45, 46, 47, 48, 49, 50, 51, 52, 53, 54, 55, 56, 57, 58, 59, 60, 61, 62, 63, 64, 65, 66, 67, 68, 69, 70, 71, 72, 73, 74, 75, 76, 77, 78, 79, 80, 81, 82, 83, 84, 85, 86, 87, 88, 89, 90, 91, 92, 93] (by decide +kernel) (by decide +kernel)) (goodIn_sub (fun _ h => List.mem_cons_of_mem _ (List.mem_append_left _ (List.mem_append_right _ h))) (by decide +kernel))) (goodIn_sub (fun _ h => List.mem_cons_of_mem _ (List.mem_append_right _ h)) (by decide +kernel))
set_option maxRecDepth 20000 in
theorem gL_ofSheet_X5_ofSheet : GoodIn wsL_ofSheet (wsV RL 36 RX5 yX5_ofSheet wsX5_ofSheet) := goodIn_app (goodIn_of _ (by decide +kernel)) ggL_ofSheet_X5_ofSheet
theorem dL_ofSheet_0 : decode cL_ofSheet 0 = .ok (.aload_n 3, 1) := by decide +kernel
theorem dL_ofSheet_1 : decode cL_ofSheet 1 = .ok (.iconst 0, 1) := by decide +kernel
theorem dL_ofSheet_2 : decode cL_ofSheet 2 = .ok (.aload_n 0, 1) := by decide +kernel
theorem dL_ofSheet_3 : decode cL_ofSheet 3 = .ok (.iload_n 1, 1) := by decide +kernel
theorem dL_ofSheet_4 : decode cL_ofSheet 4 = .ok (.iload_n 2, 1) := by decide +kernel
theorem dL_ofSheet_5 : decode cL_ofSheet 5 = .ok (.invokevirtual 36, 3) := by decide +kernel
theorem dL_ofSheet_8 : decode cL_ofSheet 8 = .ok (.i2l, 1) := by decide +kernel
theorem dL_ofSheet_9 : decode cL_ofSheet 9 = .ok (.lastore, 1) := by decide +kernel
theorem dL_ofSheet_10 : decode cL_ofSheet 10 = .ok (.goto 11, 3) := by decide +kernel
theorem dL_ofSheet_13 : decode cL_ofSheet 13 = .ok (.astore 4, 2) := by decide +kernel
theorem dL_ofSheet_15 : decode cL_ofSheet 15 = .ok (.iconst 1, 1) := by decide +kernel
theorem dL_ofSheet_16 : decode cL_ofSheet 16 = .ok (.ireturn, 1) := by decide +kernel
theorem dL_ofSheet_17 : decode cL_ofSheet 17 = .ok (.astore 4, 2) := by decide +kernel
theorem dL_ofSheet_19 : decode cL_ofSheet 19 = .ok (.iconst 2, 1) := by decide +kernel
theorem dL_ofSheet_20 : decode cL_ofSheet 20 = .ok (.ireturn, 1) := by decide +kernel
theorem dL_ofSheet_21 : decode cL_ofSheet 21 = .ok (.iconst 0, 1) := by decide +kernel
theorem dL_ofSheet_22 : decode cL_ofSheet 22 = .ok (.ireturn, 1) := by decide +kernel
set_option maxRecDepth 20000 in
theorem ggL_status_X5_status : GoodIn wsL_status wsX5_status := goodIn_ca (goodIn_r _ [6, 7, 8, 9, 10, 11, 12, 5, 13, 14, 15, 16, 17, 18, 19, 20, 21, 22, 23, 24, 25, 26, 27, 28, 29, 30, 31, 32, 33, 34, 35, 36, 37, 38, 39, 40, 41, 42, 43] (by decide +kernel) (by decide +kernel)) (goodIn_sub (fun _ h => List.mem_cons_of_mem _ (List.mem_append_right _ h)) (by decide +kernel))
set_option maxRecDepth 20000 in
theorem gL_status_X5_status : GoodIn wsL_status (wsV RL 40 RX5 yX5_status wsX5_status) := goodIn_app (goodIn_of _ (by decide +kernel)) ggL_status_X5_status
theorem dL_status_0 : decode cL_status 0 = .ok (.aload_n 3, 1) := by decide +kernel
theorem dL_status_1 : decode cL_status 1 = .ok (.iconst 0, 1) := by decide +kernel
theorem dL_status_2 : decode cL_status 2 = .ok (.aload_n 0, 1) := by decide +kernel
theorem dL_status_3 : decode cL_status 3 = .ok (.iload_n 1, 1) := by decide +kernel
theorem dL_status_4 : decode cL_status 4 = .ok (.iload_n 2, 1) := by decide +kernel
theorem dL_status_5 : decode cL_status 5 = .ok (.invokevirtual 40, 3) := by decide +kernel
theorem dL_status_8 : decode cL_status 8 = .ok (.i2l, 1) := by decide +kernel
theorem dL_status_9 : decode cL_status 9 = .ok (.lastore, 1) := by decide +kernel
theorem dL_status_10 : decode cL_status 10 = .ok (.goto 7, 3) := by decide +kernel
theorem dL_status_13 : decode cL_status 13 = .ok (.astore 4, 2) := by decide +kernel
theorem dL_status_15 : decode cL_status 15 = .ok (.iconst 1, 1) := by decide +kernel
theorem dL_status_16 : decode cL_status 16 = .ok (.ireturn, 1) := by decide +kernel
theorem dL_status_17 : decode cL_status 17 = .ok (.iconst 0, 1) := by decide +kernel
theorem dL_status_18 : decode cL_status 18 = .ok (.ireturn, 1) := by decide +kernel
set_option maxRecDepth 20000 in
theorem ggL_holds_X5_holds : GoodIn wsL_holds wsX5_holds := goodIn_ca (goodIn_r _ [6, 7, 8, 9, 10, 11, 12, 13, 5, 14, 15, 16, 17, 18, 19, 20, 21, 22, 23, 24, 25, 26, 27, 28, 29, 30, 31, 32, 33, 34, 35, 36, 37, 38, 39, 40, 41, 42, 43, 44] (by decide +kernel) (by decide +kernel)) (goodIn_sub (fun _ h => List.mem_cons_of_mem _ (List.mem_append_right _ h)) (by decide +kernel))
set_option maxRecDepth 20000 in
theorem gL_holds_X5_holds : GoodIn wsL_holds (wsV RL 43 RX5 yX5_holds wsX5_holds) := goodIn_app (goodIn_of _ (by decide +kernel)) ggL_holds_X5_holds
theorem dL_holds_0 : decode cL_holds 0 = .ok (.aload_n 2, 1) := by decide +kernel
theorem dL_holds_1 : decode cL_holds 1 = .ok (.iconst 0, 1) := by decide +kernel
theorem dL_holds_2 : decode cL_holds 2 = .ok (.aload_n 0, 1) := by decide +kernel
theorem dL_holds_3 : decode cL_holds 3 = .ok (.iload_n 1, 1) := by decide +kernel
theorem dL_holds_4 : decode cL_holds 4 = .ok (.invokevirtual 43, 3) := by decide +kernel
theorem dL_holds_7 : decode cL_holds 7 = .ok (.ifCond .eq 7, 3) := by decide +kernel
theorem dL_holds_10 : decode cL_holds 10 = .ok (.lconst 1, 1) := by decide +kernel
theorem dL_holds_11 : decode cL_holds 11 = .ok (.goto 4, 3) := by decide +kernel
theorem dL_holds_14 : decode cL_holds 14 = .ok (.lconst 0, 1) := by decide +kernel
theorem dL_holds_15 : decode cL_holds 15 = .ok (.lastore, 1) := by decide +kernel
theorem dL_holds_16 : decode cL_holds 16 = .ok (.goto 6, 3) := by decide +kernel
theorem dL_holds_19 : decode cL_holds 19 = .ok (.astore_n 3, 1) := by decide +kernel
theorem dL_holds_20 : decode cL_holds 20 = .ok (.iconst 1, 1) := by decide +kernel
theorem dL_holds_21 : decode cL_holds 21 = .ok (.ireturn, 1) := by decide +kernel
theorem dL_holds_22 : decode cL_holds 22 = .ok (.iconst 0, 1) := by decide +kernel
theorem dL_holds_23 : decode cL_holds 23 = .ok (.ireturn, 1) := by decide +kernel
set_option maxRecDepth 20000 in
theorem ggL_send_X5_send : GoodIn wsL_send wsX5_send := goodIn_ca (goodIn_ca (goodIn_r _ [6, 7, 8, 9, 10, 11, 12, 13, 14, 15, 16, 17, 18, 19, 5, 20, 21, 22, 23, 24, 25, 26, 27, 28, 29, 30, 31, 32, 33, 34, 35, 36, 37, 38, 39, 40, 41, 42, 43, 44, 45, 46, 47, 48, 49, 50, 51, 52, 53, 54, 55, 56, 57, 58, 59, 60, 61, 62, 63, 64, 65, 66, 67, 68, 69, 70, 71, 72] (by decide +kernel) (by decide +kernel)) (goodIn_sub (fun _ h => List.mem_cons_of_mem _ (List.mem_append_left _ (List.mem_append_right _ h))) (by decide +kernel))) (goodIn_sub (fun _ h => List.mem_cons_of_mem _ (List.mem_append_right _ h)) (by decide +kernel))
set_option maxRecDepth 20000 in
theorem gL_send_X5_send : GoodIn wsL_send (wsV RL 47 RX5 yX5_send wsX5_send) := goodIn_app (goodIn_of _ (by decide +kernel)) ggL_send_X5_send
theorem dL_send_0 : decode cL_send 0 = .ok (.aload_n 3, 1) := by decide +kernel
theorem dL_send_1 : decode cL_send 1 = .ok (.iconst 0, 1) := by decide +kernel
theorem dL_send_2 : decode cL_send 2 = .ok (.aload_n 0, 1) := by decide +kernel
theorem dL_send_3 : decode cL_send 3 = .ok (.iload_n 1, 1) := by decide +kernel
theorem dL_send_4 : decode cL_send 4 = .ok (.iload_n 2, 1) := by decide +kernel
theorem dL_send_5 : decode cL_send 5 = .ok (.invokevirtual 47, 3) := by decide +kernel
theorem dL_send_8 : decode cL_send 8 = .ok (.i2l, 1) := by decide +kernel
theorem dL_send_9 : decode cL_send 9 = .ok (.lastore, 1) := by decide +kernel
theorem dL_send_10 : decode cL_send 10 = .ok (.goto 11, 3) := by decide +kernel
theorem dL_send_13 : decode cL_send 13 = .ok (.astore 4, 2) := by decide +kernel
theorem dL_send_15 : decode cL_send 15 = .ok (.iconst 1, 1) := by decide +kernel
theorem dL_send_16 : decode cL_send 16 = .ok (.ireturn, 1) := by decide +kernel
theorem dL_send_17 : decode cL_send 17 = .ok (.astore 4, 2) := by decide +kernel
theorem dL_send_19 : decode cL_send 19 = .ok (.iconst 2, 1) := by decide +kernel
theorem dL_send_20 : decode cL_send 20 = .ok (.ireturn, 1) := by decide +kernel
theorem dL_send_21 : decode cL_send 21 = .ok (.iconst 0, 1) := by decide +kernel
theorem dL_send_22 : decode cL_send 22 = .ok (.ireturn, 1) := by decide +kernel
set_option maxRecDepth 20000 in
theorem ggL_receive_X5_receive : GoodIn wsL_receive wsX5_receive := goodIn_ca (goodIn_ca (goodIn_r _ [6, 7, 8, 9, 10, 11, 12, 13, 14, 15, 5, 16, 17, 18, 19, 20, 21, 22, 23, 24, 25, 26, 27, 28, 29, 30, 31, 32, 33, 34, 35, 36, 37, 38] (by decide +kernel) (by decide +kernel)) (goodIn_sub (fun _ h => List.mem_cons_of_mem _ (List.mem_append_left _ (List.mem_append_right _ h))) (by decide +kernel))) (goodIn_sub (fun _ h => List.mem_cons_of_mem _ (List.mem_append_right _ h)) (by decide +kernel))
set_option maxRecDepth 20000 in
theorem gL_receive_X5_receive : GoodIn wsL_receive (wsV RL 50 RX5 yX5_receive wsX5_receive) := goodIn_app (goodIn_of _ (by decide +kernel)) ggL_receive_X5_receive
theorem dL_receive_0 : decode cL_receive 0 = .ok (.aload_n 3, 1) := by decide +kernel
theorem dL_receive_1 : decode cL_receive 1 = .ok (.iconst 0, 1) := by decide +kernel
theorem dL_receive_2 : decode cL_receive 2 = .ok (.aload_n 0, 1) := by decide +kernel
theorem dL_receive_3 : decode cL_receive 3 = .ok (.iload_n 1, 1) := by decide +kernel
theorem dL_receive_4 : decode cL_receive 4 = .ok (.iload_n 2, 1) := by decide +kernel
theorem dL_receive_5 : decode cL_receive 5 = .ok (.invokevirtual 50, 3) := by decide +kernel
theorem dL_receive_8 : decode cL_receive 8 = .ok (.i2l, 1) := by decide +kernel
theorem dL_receive_9 : decode cL_receive 9 = .ok (.lastore, 1) := by decide +kernel
theorem dL_receive_10 : decode cL_receive 10 = .ok (.goto 11, 3) := by decide +kernel
theorem dL_receive_13 : decode cL_receive 13 = .ok (.astore 4, 2) := by decide +kernel
theorem dL_receive_15 : decode cL_receive 15 = .ok (.iconst 1, 1) := by decide +kernel
theorem dL_receive_16 : decode cL_receive 16 = .ok (.ireturn, 1) := by decide +kernel
theorem dL_receive_17 : decode cL_receive 17 = .ok (.astore 4, 2) := by decide +kernel
theorem dL_receive_19 : decode cL_receive 19 = .ok (.iconst 2, 1) := by decide +kernel
theorem dL_receive_20 : decode cL_receive 20 = .ok (.ireturn, 1) := by decide +kernel
theorem dL_receive_21 : decode cL_receive 21 = .ok (.iconst 0, 1) := by decide +kernel
theorem dL_receive_22 : decode cL_receive 22 = .ok (.ireturn, 1) := by decide +kernel
set_option maxRecDepth 20000 in
theorem ggL_has_X5_has : GoodIn wsL_has wsX5_has := goodIn_ca (goodIn_r _ [6, 7, 8, 9, 5, 10, 11, 12, 13, 14, 15, 16, 17, 18, 19, 20, 21, 22, 23, 24, 25, 26, 27, 28, 29, 30] (by decide +kernel) (by decide +kernel)) (goodIn_sub (fun _ h => List.mem_cons_of_mem _ (List.mem_append_right _ h)) (by decide +kernel))
set_option maxRecDepth 20000 in
theorem gL_has_X5_has : GoodIn wsL_has (wsV RL 53 RX5 yX5_has wsX5_has) := goodIn_app (goodIn_of _ (by decide +kernel)) ggL_has_X5_has
theorem dL_has_0 : decode cL_has 0 = .ok (.aload_n 3, 1) := by decide +kernel
theorem dL_has_1 : decode cL_has 1 = .ok (.iconst 0, 1) := by decide +kernel
theorem dL_has_2 : decode cL_has 2 = .ok (.aload_n 0, 1) := by decide +kernel
theorem dL_has_3 : decode cL_has 3 = .ok (.iload_n 1, 1) := by decide +kernel
theorem dL_has_4 : decode cL_has 4 = .ok (.iload_n 2, 1) := by decide +kernel
theorem dL_has_5 : decode cL_has 5 = .ok (.invokevirtual 53, 3) := by decide +kernel
theorem dL_has_8 : decode cL_has 8 = .ok (.i2l, 1) := by decide +kernel
theorem dL_has_9 : decode cL_has 9 = .ok (.lastore, 1) := by decide +kernel
theorem dL_has_10 : decode cL_has 10 = .ok (.goto 7, 3) := by decide +kernel
theorem dL_has_13 : decode cL_has 13 = .ok (.astore 4, 2) := by decide +kernel
theorem dL_has_15 : decode cL_has 15 = .ok (.iconst 1, 1) := by decide +kernel
theorem dL_has_16 : decode cL_has 16 = .ok (.ireturn, 1) := by decide +kernel
theorem dL_has_17 : decode cL_has 17 = .ok (.iconst 0, 1) := by decide +kernel
theorem dL_has_18 : decode cL_has 18 = .ok (.ireturn, 1) := by decide +kernel
set_option maxRecDepth 20000 in
theorem ggL_owes_X5_owes : GoodIn wsL_owes wsX5_owes := goodIn_ca (goodIn_r _ [6, 7, 8, 9, 10, 11, 5, 12, 13, 14, 15, 16, 17, 18, 19, 20, 21, 22, 23, 24, 25, 26, 27, 28, 29, 30, 31, 32, 33] (by decide +kernel) (by decide +kernel)) (goodIn_sub (fun _ h => List.mem_cons_of_mem _ (List.mem_append_right _ h)) (by decide +kernel))
set_option maxRecDepth 20000 in
theorem gL_owes_X5_owes : GoodIn wsL_owes (wsV RL 56 RX5 yX5_owes wsX5_owes) := goodIn_app (goodIn_of _ (by decide +kernel)) ggL_owes_X5_owes
theorem dL_owes_0 : decode cL_owes 0 = .ok (.aload_n 2, 1) := by decide +kernel
theorem dL_owes_1 : decode cL_owes 1 = .ok (.iconst 0, 1) := by decide +kernel
theorem dL_owes_2 : decode cL_owes 2 = .ok (.aload_n 0, 1) := by decide +kernel
theorem dL_owes_3 : decode cL_owes 3 = .ok (.iload_n 1, 1) := by decide +kernel
theorem dL_owes_4 : decode cL_owes 4 = .ok (.invokevirtual 56, 3) := by decide +kernel
theorem dL_owes_7 : decode cL_owes 7 = .ok (.i2l, 1) := by decide +kernel
theorem dL_owes_8 : decode cL_owes 8 = .ok (.lastore, 1) := by decide +kernel
theorem dL_owes_9 : decode cL_owes 9 = .ok (.goto 6, 3) := by decide +kernel
theorem dL_owes_12 : decode cL_owes 12 = .ok (.astore_n 3, 1) := by decide +kernel
theorem dL_owes_13 : decode cL_owes 13 = .ok (.iconst 1, 1) := by decide +kernel
theorem dL_owes_14 : decode cL_owes 14 = .ok (.ireturn, 1) := by decide +kernel
theorem dL_owes_15 : decode cL_owes 15 = .ok (.iconst 0, 1) := by decide +kernel
theorem dL_owes_16 : decode cL_owes 16 = .ok (.ireturn, 1) := by decide +kernel
set_option maxRecDepth 20000 in
theorem ggL_query_X5_query : GoodIn wsL_query wsX5_query := goodIn_ca (goodIn_ca (goodIn_ca (goodIn_r _ [6, 7, 8, 9, 10, 11, 12, 13, 14, 15, 16, 17, 5, 18, 19, 20, 21, 22, 23, 24, 25, 26, 27, 28, 29, 30, 31, 32, 33, 34, 35, 36, 37, 38, 39, 40, 41, 42, 43, 44, 45, 46, 47, 48, 49, 50, 51, 52, 53, 54, 55, 56, 57, 58, 59, 60, 61, 62, 63, 64, 65, 66, 67, 68, 69, 70, 71, 72, 73, 74, 75, 76, 77, 78, 79, 80, 81, 82, 83, 84, 85, 86, 87, 88, 89, 90, 91, 92, 93, 94, 95, 96, 97, 98, 99, 100, 101, 102, 103, 104, 105, 106, 107, 108, 109, 110, 111, 112, 113, 114, 115, 116, 117, 118, 119, 120, 121, 122, 123, 124, 125, 126, 127, 128] (by decide +kernel) (by decide +kernel)) (goodIn_sub (fun _ h => List.mem_cons_of_mem _ (List.mem_append_left _ (List.mem_append_left _ (List.mem_append_right _ h)))) (by decide +kernel))) (goodIn_sub (fun _ h => List.mem_cons_of_mem _ (List.mem_append_left _ (List.mem_append_right _ h))) (by decide +kernel))) (goodIn_sub (fun _ h => List.mem_cons_of_mem _ (List.mem_append_right _ h)) (by decide +kernel))
set_option maxRecDepth 20000 in
theorem gL_query_X5_query : GoodIn wsL_query (wsV RL 59 RX5 yX5_query wsX5_query) := goodIn_app (goodIn_of _ (by decide +kernel)) ggL_query_X5_query
theorem dL_query_0 : decode cL_query 0 = .ok (.aload 6, 2) := by decide +kernel
theorem dL_query_2 : decode cL_query 2 = .ok (.iconst 0, 1) := by decide +kernel
theorem dL_query_3 : decode cL_query 3 = .ok (.aload_n 0, 1) := by decide +kernel
theorem dL_query_4 : decode cL_query 4 = .ok (.iload_n 1, 1) := by decide +kernel
theorem dL_query_5 : decode cL_query 5 = .ok (.iload_n 2, 1) := by decide +kernel
theorem dL_query_6 : decode cL_query 6 = .ok (.iload_n 3, 1) := by decide +kernel
theorem dL_query_7 : decode cL_query 7 = .ok (.iload 4, 2) := by decide +kernel
theorem dL_query_9 : decode cL_query 9 = .ok (.iload 5, 2) := by decide +kernel
theorem dL_query_11 : decode cL_query 11 = .ok (.invokevirtual 59, 3) := by decide +kernel
theorem dL_query_14 : decode cL_query 14 = .ok (.i2l, 1) := by decide +kernel
theorem dL_query_15 : decode cL_query 15 = .ok (.lastore, 1) := by decide +kernel
theorem dL_query_16 : decode cL_query 16 = .ok (.goto 15, 3) := by decide +kernel
theorem dL_query_19 : decode cL_query 19 = .ok (.astore 7, 2) := by decide +kernel
theorem dL_query_21 : decode cL_query 21 = .ok (.iconst 1, 1) := by decide +kernel
theorem dL_query_22 : decode cL_query 22 = .ok (.ireturn, 1) := by decide +kernel
theorem dL_query_23 : decode cL_query 23 = .ok (.astore 7, 2) := by decide +kernel
theorem dL_query_25 : decode cL_query 25 = .ok (.iconst 2, 1) := by decide +kernel
theorem dL_query_26 : decode cL_query 26 = .ok (.ireturn, 1) := by decide +kernel
theorem dL_query_27 : decode cL_query 27 = .ok (.astore 7, 2) := by decide +kernel
theorem dL_query_29 : decode cL_query 29 = .ok (.iconst 3, 1) := by decide +kernel
theorem dL_query_30 : decode cL_query 30 = .ok (.ireturn, 1) := by decide +kernel
theorem dL_query_31 : decode cL_query 31 = .ok (.iconst 0, 1) := by decide +kernel
theorem dL_query_32 : decode cL_query 32 = .ok (.ireturn, 1) := by decide +kernel
set_option maxRecDepth 20000 in
theorem ggL_answer_X5_answer : GoodIn wsL_answer wsX5_answer := goodIn_ca (goodIn_ca (goodIn_r _ [6, 7, 8, 9, 10, 11, 12, 5, 13, 14, 15, 16, 17, 18, 19, 20, 21, 22, 23, 24, 25, 26, 27, 28, 29, 30, 31, 32] (by decide +kernel) (by decide +kernel)) (goodIn_sub (fun _ h => List.mem_cons_of_mem _ (List.mem_append_left _ (List.mem_append_right _ h))) (by decide +kernel))) (goodIn_sub (fun _ h => List.mem_cons_of_mem _ (List.mem_append_right _ h)) (by decide +kernel))
set_option maxRecDepth 20000 in
theorem gL_answer_X5_answer : GoodIn wsL_answer (wsV RL 63 RX5 yX5_answer wsX5_answer) := goodIn_app (goodIn_of _ (by decide +kernel)) ggL_answer_X5_answer
theorem dL_answer_0 : decode cL_answer 0 = .ok (.aload_n 3, 1) := by decide +kernel
theorem dL_answer_1 : decode cL_answer 1 = .ok (.iconst 0, 1) := by decide +kernel
theorem dL_answer_2 : decode cL_answer 2 = .ok (.aload_n 0, 1) := by decide +kernel
theorem dL_answer_3 : decode cL_answer 3 = .ok (.iload_n 1, 1) := by decide +kernel
theorem dL_answer_4 : decode cL_answer 4 = .ok (.iload_n 2, 1) := by decide +kernel
theorem dL_answer_5 : decode cL_answer 5 = .ok (.invokevirtual 63, 3) := by decide +kernel
theorem dL_answer_8 : decode cL_answer 8 = .ok (.i2l, 1) := by decide +kernel
theorem dL_answer_9 : decode cL_answer 9 = .ok (.lastore, 1) := by decide +kernel
theorem dL_answer_10 : decode cL_answer 10 = .ok (.goto 11, 3) := by decide +kernel
theorem dL_answer_13 : decode cL_answer 13 = .ok (.astore 4, 2) := by decide +kernel
theorem dL_answer_15 : decode cL_answer 15 = .ok (.iconst 1, 1) := by decide +kernel
theorem dL_answer_16 : decode cL_answer 16 = .ok (.ireturn, 1) := by decide +kernel
theorem dL_answer_17 : decode cL_answer 17 = .ok (.astore 4, 2) := by decide +kernel
theorem dL_answer_19 : decode cL_answer 19 = .ok (.iconst 2, 1) := by decide +kernel
theorem dL_answer_20 : decode cL_answer 20 = .ok (.ireturn, 1) := by decide +kernel
theorem dL_answer_21 : decode cL_answer 21 = .ok (.iconst 0, 1) := by decide +kernel
theorem dL_answer_22 : decode cL_answer 22 = .ok (.ireturn, 1) := by decide +kernel
set_option maxRecDepth 20000 in
theorem ggL_ofQuery_X5_ofQuery : GoodIn wsL_ofQuery wsX5_ofQuery := goodIn_ca (goodIn_r _ [6, 7, 8, 9, 10, 5, 11, 12, 13, 14, 15, 16, 17, 18, 19, 20, 21, 22, 23, 24, 25, 26, 27, 28, 29, 30] (by decide +kernel) (by decide +kernel)) (goodIn_sub (fun _ h => List.mem_cons_of_mem _ (List.mem_append_right _ h)) (by decide +kernel))
set_option maxRecDepth 20000 in
theorem gL_ofQuery_X5_ofQuery : GoodIn wsL_ofQuery (wsV RL 67 RX5 yX5_ofQuery wsX5_ofQuery) := goodIn_app (goodIn_of _ (by decide +kernel)) ggL_ofQuery_X5_ofQuery
theorem dL_ofQuery_0 : decode cL_ofQuery 0 = .ok (.aload_n 2, 1) := by decide +kernel
theorem dL_ofQuery_1 : decode cL_ofQuery 1 = .ok (.iconst 0, 1) := by decide +kernel
theorem dL_ofQuery_2 : decode cL_ofQuery 2 = .ok (.aload_n 0, 1) := by decide +kernel
theorem dL_ofQuery_3 : decode cL_ofQuery 3 = .ok (.iload_n 1, 1) := by decide +kernel
theorem dL_ofQuery_4 : decode cL_ofQuery 4 = .ok (.invokevirtual 67, 3) := by decide +kernel
theorem dL_ofQuery_7 : decode cL_ofQuery 7 = .ok (.i2l, 1) := by decide +kernel
theorem dL_ofQuery_8 : decode cL_ofQuery 8 = .ok (.lastore, 1) := by decide +kernel
theorem dL_ofQuery_9 : decode cL_ofQuery 9 = .ok (.goto 6, 3) := by decide +kernel
theorem dL_ofQuery_12 : decode cL_ofQuery 12 = .ok (.astore_n 3, 1) := by decide +kernel
theorem dL_ofQuery_13 : decode cL_ofQuery 13 = .ok (.iconst 1, 1) := by decide +kernel
theorem dL_ofQuery_14 : decode cL_ofQuery 14 = .ok (.ireturn, 1) := by decide +kernel
theorem dL_ofQuery_15 : decode cL_ofQuery 15 = .ok (.iconst 0, 1) := by decide +kernel
theorem dL_ofQuery_16 : decode cL_ofQuery 16 = .ok (.ireturn, 1) := by decide +kernel
set_option maxRecDepth 20000 in
theorem ggL_clash_X5_clash : GoodIn wsL_clash wsX5_clash := goodIn_ca (goodIn_ca (goodIn_r _ [6, 7, 8, 9, 5, 10, 11, 12, 13, 14, 15, 16, 17, 18, 19, 20, 21, 22, 23, 24, 25, 26, 27, 28, 29, 30, 31, 32, 33, 34, 35, 36, 37, 38, 39, 40, 41, 42, 43, 44, 45, 46, 47, 48, 49, 50, 51, 52, 53, 54, 55, 56, 57, 58, 59, 60, 61, 62] (by decide +kernel) (by decide +kernel)) (goodIn_sub (fun _ h => List.mem_cons_of_mem _ (List.mem_append_left _ (List.mem_append_right _ h))) (by decide +kernel))) (goodIn_sub (fun _ h => List.mem_cons_of_mem _ (List.mem_append_right _ h)) (by decide +kernel))
set_option maxRecDepth 20000 in
theorem gL_clash_X5_clash : GoodIn wsL_clash (wsV RL 70 RX5 yX5_clash wsX5_clash) := goodIn_app (goodIn_of _ (by decide +kernel)) ggL_clash_X5_clash
theorem dL_clash_0 : decode cL_clash 0 = .ok (.aload_n 3, 1) := by decide +kernel
theorem dL_clash_1 : decode cL_clash 1 = .ok (.iconst 0, 1) := by decide +kernel
theorem dL_clash_2 : decode cL_clash 2 = .ok (.aload_n 0, 1) := by decide +kernel
theorem dL_clash_3 : decode cL_clash 3 = .ok (.iload_n 1, 1) := by decide +kernel
theorem dL_clash_4 : decode cL_clash 4 = .ok (.iload_n 2, 1) := by decide +kernel
theorem dL_clash_5 : decode cL_clash 5 = .ok (.invokevirtual 70, 3) := by decide +kernel
theorem dL_clash_8 : decode cL_clash 8 = .ok (.i2l, 1) := by decide +kernel
theorem dL_clash_9 : decode cL_clash 9 = .ok (.lastore, 1) := by decide +kernel
theorem dL_clash_10 : decode cL_clash 10 = .ok (.goto 11, 3) := by decide +kernel
theorem dL_clash_13 : decode cL_clash 13 = .ok (.astore 4, 2) := by decide +kernel
theorem dL_clash_15 : decode cL_clash 15 = .ok (.iconst 1, 1) := by decide +kernel
theorem dL_clash_16 : decode cL_clash 16 = .ok (.ireturn, 1) := by decide +kernel
theorem dL_clash_17 : decode cL_clash 17 = .ok (.astore 4, 2) := by decide +kernel
theorem dL_clash_19 : decode cL_clash 19 = .ok (.iconst 2, 1) := by decide +kernel
theorem dL_clash_20 : decode cL_clash 20 = .ok (.ireturn, 1) := by decide +kernel
theorem dL_clash_21 : decode cL_clash 21 = .ok (.iconst 0, 1) := by decide +kernel
theorem dL_clash_22 : decode cL_clash 22 = .ok (.ireturn, 1) := by decide +kernel
set_option maxRecDepth 20000 in
theorem ggL_excuse_X5_excuse : GoodIn wsL_excuse wsX5_excuse := goodIn_ca (goodIn_ca (goodIn_r _ [6, 7, 8, 9, 10, 5, 11, 12, 13, 14, 15, 16, 17, 18, 19, 20, 21, 22, 23, 24, 25, 26, 27, 28, 29, 30, 31, 32, 33, 34, 35, 36, 37, 38, 39, 40, 41, 42, 43, 44, 45, 46, 47, 48, 49, 50, 51, 52, 53, 54, 55, 56, 57, 58, 59, 60, 61, 62, 63, 64, 65, 66, 67, 68, 69, 70, 71, 72, 73, 74, 75, 76, 77, 78, 79, 80, 81, 82, 83, 84, 85, 86, 87, 88, 89, 90, 91, 92, 93, 94, 95, 96, 97, 98, 99, 100, 101, 102, 103, 104, 105, 106, 107, 108, 109] (by decide +kernel) (by decide +kernel)) (goodIn_sub (fun _ h => List.mem_cons_of_mem _ (List.mem_append_left _ (List.mem_append_right _ h))) (by decide +kernel))) (goodIn_sub (fun _ h => List.mem_cons_of_mem _ (List.mem_append_right _ h)) (by decide +kernel))
set_option maxRecDepth 20000 in
theorem gL_excuse_X5_excuse : GoodIn wsL_excuse (wsV RL 73 RX5 yX5_excuse wsX5_excuse) := goodIn_app (goodIn_of _ (by decide +kernel)) ggL_excuse_X5_excuse
theorem dL_excuse_0 : decode cL_excuse 0 = .ok (.aload_n 3, 1) := by decide +kernel
theorem dL_excuse_1 : decode cL_excuse 1 = .ok (.iconst 0, 1) := by decide +kernel
theorem dL_excuse_2 : decode cL_excuse 2 = .ok (.aload_n 0, 1) := by decide +kernel
theorem dL_excuse_3 : decode cL_excuse 3 = .ok (.iload_n 1, 1) := by decide +kernel
theorem dL_excuse_4 : decode cL_excuse 4 = .ok (.iload_n 2, 1) := by decide +kernel
theorem dL_excuse_5 : decode cL_excuse 5 = .ok (.invokevirtual 73, 3) := by decide +kernel
theorem dL_excuse_8 : decode cL_excuse 8 = .ok (.ifCond .eq 7, 3) := by decide +kernel
theorem dL_excuse_11 : decode cL_excuse 11 = .ok (.lconst 1, 1) := by decide +kernel
theorem dL_excuse_12 : decode cL_excuse 12 = .ok (.goto 4, 3) := by decide +kernel
theorem dL_excuse_15 : decode cL_excuse 15 = .ok (.lconst 0, 1) := by decide +kernel
theorem dL_excuse_16 : decode cL_excuse 16 = .ok (.lastore, 1) := by decide +kernel
theorem dL_excuse_17 : decode cL_excuse 17 = .ok (.goto 11, 3) := by decide +kernel
theorem dL_excuse_20 : decode cL_excuse 20 = .ok (.astore 4, 2) := by decide +kernel
theorem dL_excuse_22 : decode cL_excuse 22 = .ok (.iconst 1, 1) := by decide +kernel
theorem dL_excuse_23 : decode cL_excuse 23 = .ok (.ireturn, 1) := by decide +kernel
theorem dL_excuse_24 : decode cL_excuse 24 = .ok (.astore 4, 2) := by decide +kernel
theorem dL_excuse_26 : decode cL_excuse 26 = .ok (.iconst 2, 1) := by decide +kernel
theorem dL_excuse_27 : decode cL_excuse 27 = .ok (.ireturn, 1) := by decide +kernel
theorem dL_excuse_28 : decode cL_excuse 28 = .ok (.iconst 0, 1) := by decide +kernel
theorem dL_excuse_29 : decode cL_excuse 29 = .ok (.ireturn, 1) := by decide +kernel
set_option maxRecDepth 20000 in
theorem ggL_clouds_X5_clouds : GoodIn wsL_clouds wsX5_clouds := goodIn_ca (goodIn_ca (goodIn_r _ [6, 7, 8, 9, 5, 10, 11, 12, 13, 14, 15, 16, 17, 18, 19, 20, 21, 22, 23, 24, 25, 26, 27, 28, 29, 30, 31, 32, 33, 34, 35, 36, 37, 38, 39, 40, 41, 42, 43, 44, 45, 46, 47, 48, 49, 50, 51, 52, 53, 54, 55, 56, 57, 58, 59, 60, 61, 62, 63, 64, 65, 66, 67, 68, 69, 70] (by decide +kernel) (by decide +kernel)) (goodIn_sub (fun _ h => List.mem_cons_of_mem _ (List.mem_append_left _ (List.mem_append_right _ h))) (by decide +kernel))) (goodIn_sub (fun _ h => List.mem_cons_of_mem _ (List.mem_append_right _ h)) (by decide +kernel))
set_option maxRecDepth 20000 in
theorem gL_clouds_X5_clouds : GoodIn wsL_clouds (wsV RL 77 RX5 yX5_clouds wsX5_clouds) := goodIn_app (goodIn_of _ (by decide +kernel)) ggL_clouds_X5_clouds
theorem dL_clouds_0 : decode cL_clouds 0 = .ok (.aload 4, 2) := by decide +kernel
theorem dL_clouds_2 : decode cL_clouds 2 = .ok (.iconst 0, 1) := by decide +kernel
theorem dL_clouds_3 : decode cL_clouds 3 = .ok (.aload_n 0, 1) := by decide +kernel
theorem dL_clouds_4 : decode cL_clouds 4 = .ok (.iload_n 1, 1) := by decide +kernel
theorem dL_clouds_5 : decode cL_clouds 5 = .ok (.iload_n 2, 1) := by decide +kernel
theorem dL_clouds_6 : decode cL_clouds 6 = .ok (.iload_n 3, 1) := by decide +kernel
theorem dL_clouds_7 : decode cL_clouds 7 = .ok (.invokevirtual 77, 3) := by decide +kernel
theorem dL_clouds_10 : decode cL_clouds 10 = .ok (.i2l, 1) := by decide +kernel
theorem dL_clouds_11 : decode cL_clouds 11 = .ok (.lastore, 1) := by decide +kernel
theorem dL_clouds_12 : decode cL_clouds 12 = .ok (.goto 11, 3) := by decide +kernel
theorem dL_clouds_15 : decode cL_clouds 15 = .ok (.astore 5, 2) := by decide +kernel
theorem dL_clouds_17 : decode cL_clouds 17 = .ok (.iconst 1, 1) := by decide +kernel
theorem dL_clouds_18 : decode cL_clouds 18 = .ok (.ireturn, 1) := by decide +kernel
theorem dL_clouds_19 : decode cL_clouds 19 = .ok (.astore 5, 2) := by decide +kernel
theorem dL_clouds_21 : decode cL_clouds 21 = .ok (.iconst 2, 1) := by decide +kernel
theorem dL_clouds_22 : decode cL_clouds 22 = .ok (.ireturn, 1) := by decide +kernel
theorem dL_clouds_23 : decode cL_clouds 23 = .ok (.iconst 0, 1) := by decide +kernel
theorem dL_clouds_24 : decode cL_clouds 24 = .ok (.ireturn, 1) := by decide +kernel
set_option maxRecDepth 20000 in
theorem ggL_pack_X5_pack : GoodIn wsL_pack wsX5_pack := goodIn_ca (goodIn_ca (goodIn_ca (goodIn_r _ [6, 7, 8, 9, 10, 11, 12, 13, 14, 15, 16, 17, 5, 18, 19, 20, 21, 22, 23, 24, 25, 26, 27, 28, 29, 30, 31, 32, 33, 34, 35, 36, 37, 38, 39, 40, 41, 42, 43, 44, 45, 46, 47, 48, 49, 50, 51, 52, 53, 54, 55, 56] (by decide +kernel) (by decide +kernel)) (goodIn_sub (fun _ h => List.mem_cons_of_mem _ (List.mem_append_left _ (List.mem_append_left _ (List.mem_append_right _ h)))) (by decide +kernel))) (goodIn_sub (fun _ h => List.mem_cons_of_mem _ (List.mem_append_left _ (List.mem_append_right _ h))) (by decide +kernel))) (goodIn_sub (fun _ h => List.mem_cons_of_mem _ (List.mem_append_right _ h)) (by decide +kernel))
set_option maxRecDepth 20000 in
theorem gL_pack_X5_pack : GoodIn wsL_pack (wsV RL 80 RX5 yX5_pack wsX5_pack) := goodIn_app (goodIn_of _ (by decide +kernel)) ggL_pack_X5_pack
theorem dL_pack_0 : decode cL_pack 0 = .ok (.aload 4, 2) := by decide +kernel
theorem dL_pack_2 : decode cL_pack 2 = .ok (.iconst 0, 1) := by decide +kernel
theorem dL_pack_3 : decode cL_pack 3 = .ok (.aload_n 0, 1) := by decide +kernel
theorem dL_pack_4 : decode cL_pack 4 = .ok (.iload_n 1, 1) := by decide +kernel
theorem dL_pack_5 : decode cL_pack 5 = .ok (.iload_n 2, 1) := by decide +kernel
theorem dL_pack_6 : decode cL_pack 6 = .ok (.iload_n 3, 1) := by decide +kernel
theorem dL_pack_7 : decode cL_pack 7 = .ok (.invokevirtual 80, 3) := by decide +kernel
theorem dL_pack_10 : decode cL_pack 10 = .ok (.i2l, 1) := by decide +kernel
theorem dL_pack_11 : decode cL_pack 11 = .ok (.lastore, 1) := by decide +kernel
theorem dL_pack_12 : decode cL_pack 12 = .ok (.goto 15, 3) := by decide +kernel
theorem dL_pack_15 : decode cL_pack 15 = .ok (.astore 5, 2) := by decide +kernel
theorem dL_pack_17 : decode cL_pack 17 = .ok (.iconst 1, 1) := by decide +kernel
theorem dL_pack_18 : decode cL_pack 18 = .ok (.ireturn, 1) := by decide +kernel
theorem dL_pack_19 : decode cL_pack 19 = .ok (.astore 5, 2) := by decide +kernel
theorem dL_pack_21 : decode cL_pack 21 = .ok (.iconst 2, 1) := by decide +kernel
theorem dL_pack_22 : decode cL_pack 22 = .ok (.ireturn, 1) := by decide +kernel
theorem dL_pack_23 : decode cL_pack 23 = .ok (.astore 5, 2) := by decide +kernel
theorem dL_pack_25 : decode cL_pack 25 = .ok (.iconst 3, 1) := by decide +kernel
theorem dL_pack_26 : decode cL_pack 26 = .ok (.ireturn, 1) := by decide +kernel
theorem dL_pack_27 : decode cL_pack 27 = .ok (.iconst 0, 1) := by decide +kernel
theorem dL_pack_28 : decode cL_pack 28 = .ok (.ireturn, 1) := by decide +kernel
set_option maxRecDepth 20000 in
theorem ggL_place_X5_place : GoodIn wsL_place wsX5_place := goodIn_ca (goodIn_ca (goodIn_ca (goodIn_r _ [6, 7, 8, 9, 10, 11, 12, 5, 13, 14, 15, 16, 17, 18, 19, 20, 21, 22, 23, 24, 25, 26, 27, 28, 29, 30, 31, 32, 33, 34, 35, 36, 37, 38, 39, 40, 41, 42, 43, 44, 45, 46, 47, 48, 49, 50, 51, 52, 53, 54, 55, 56, 57, 58, 59, 60, 61, 62, 63, 64, 65, 66, 67, 68, 69, 70, 71, 72, 73, 74, 75, 76, 77, 78, 79, 80, 81, 82, 83, 84, 85, 86, 87, 88, 89, 90, 91, 92, 93, 94, 95, 96, 97, 98, 99, 100, 101, 102, 103, 104, 105, 106, 107, 108, 109, 110, 111, 112, 113, 114, 115, 116, 117, 118, 119, 120, 121, 122, 123, 124, 125, 126, 127] (by decide +kernel) (by decide +kernel)) (goodIn_sub (fun _ h => List.mem_cons_of_mem _ (List.mem_append_left _ (List.mem_append_left _ (List.mem_append_right _ h)))) (by decide +kernel))) (goodIn_sub (fun _ h => List.mem_cons_of_mem _ (List.mem_append_left _ (List.mem_append_right _ h))) (by decide +kernel))) (goodIn_sub (fun _ h => List.mem_cons_of_mem _ (List.mem_append_right _ h)) (by decide +kernel))
set_option maxRecDepth 20000 in
theorem gL_place_X5_place : GoodIn wsL_place (wsV RL 83 RX5 yX5_place wsX5_place) := goodIn_app (goodIn_of _ (by decide +kernel)) ggL_place_X5_place
theorem dL_place_0 : decode cL_place 0 = .ok (.aload 6, 2) := by decide +kernel
theorem dL_place_2 : decode cL_place 2 = .ok (.iconst 0, 1) := by decide +kernel
theorem dL_place_3 : decode cL_place 3 = .ok (.aload_n 0, 1) := by decide +kernel
theorem dL_place_4 : decode cL_place 4 = .ok (.iload_n 1, 1) := by decide +kernel
theorem dL_place_5 : decode cL_place 5 = .ok (.iload_n 2, 1) := by decide +kernel
theorem dL_place_6 : decode cL_place 6 = .ok (.iload_n 3, 1) := by decide +kernel
theorem dL_place_7 : decode cL_place 7 = .ok (.iload 4, 2) := by decide +kernel
theorem dL_place_9 : decode cL_place 9 = .ok (.iload 5, 2) := by decide +kernel
theorem dL_place_11 : decode cL_place 11 = .ok (.invokevirtual 83, 3) := by decide +kernel
theorem dL_place_14 : decode cL_place 14 = .ok (.i2l, 1) := by decide +kernel
theorem dL_place_15 : decode cL_place 15 = .ok (.lastore, 1) := by decide +kernel
theorem dL_place_16 : decode cL_place 16 = .ok (.goto 15, 3) := by decide +kernel
theorem dL_place_19 : decode cL_place 19 = .ok (.astore 7, 2) := by decide +kernel
theorem dL_place_21 : decode cL_place 21 = .ok (.iconst 1, 1) := by decide +kernel
theorem dL_place_22 : decode cL_place 22 = .ok (.ireturn, 1) := by decide +kernel
theorem dL_place_23 : decode cL_place 23 = .ok (.astore 7, 2) := by decide +kernel
theorem dL_place_25 : decode cL_place 25 = .ok (.iconst 2, 1) := by decide +kernel
theorem dL_place_26 : decode cL_place 26 = .ok (.ireturn, 1) := by decide +kernel
theorem dL_place_27 : decode cL_place 27 = .ok (.astore 7, 2) := by decide +kernel
theorem dL_place_29 : decode cL_place 29 = .ok (.iconst 3, 1) := by decide +kernel
theorem dL_place_30 : decode cL_place 30 = .ok (.ireturn, 1) := by decide +kernel
theorem dL_place_31 : decode cL_place 31 = .ok (.iconst 0, 1) := by decide +kernel
theorem dL_place_32 : decode cL_place 32 = .ok (.ireturn, 1) := by decide +kernel
set_option maxRecDepth 20000 in
theorem ggL_start_X5_start : GoodIn wsL_start wsX5_start := goodIn_ca (goodIn_ca (goodIn_r _ [6, 7, 8, 9, 10, 11, 12, 13, 5, 14, 15, 16, 17, 18, 19, 20, 21, 22, 23, 24, 25, 26, 27, 28, 29, 30, 31, 32, 33, 34, 35, 36, 37, 38, 39, 40, 41, 42, 43, 44, 45, 46, 47, 48, 49, 50, 51, 52, 53, 54, 55, 56, 57, 58, 59, 60, 61, 62, 63, 64, 65, 66, 67, 68, 69, 70, 71, 72, 73, 74, 75, 76, 77, 78, 79, 80, 81, 82, 83, 84, 85, 86, 87, 88, 89, 90, 91, 92, 93, 94, 95] (by decide +kernel) (by decide +kernel)) (goodIn_sub (fun _ h => List.mem_cons_of_mem _ (List.mem_append_left _ (List.mem_append_right _ h))) (by decide +kernel))) (goodIn_sub (fun _ h => List.mem_cons_of_mem _ (List.mem_append_right _ h)) (by decide +kernel))
set_option maxRecDepth 20000 in
theorem gL_start_X5_start : GoodIn wsL_start (wsV RL 86 RX5 yX5_start wsX5_start) := goodIn_app (goodIn_of _ (by decide +kernel)) ggL_start_X5_start
theorem dL_start_0 : decode cL_start 0 = .ok (.aload_n 2, 1) := by decide +kernel
theorem dL_start_1 : decode cL_start 1 = .ok (.iconst 0, 1) := by decide +kernel
theorem dL_start_2 : decode cL_start 2 = .ok (.aload_n 0, 1) := by decide +kernel
theorem dL_start_3 : decode cL_start 3 = .ok (.iload_n 1, 1) := by decide +kernel
theorem dL_start_4 : decode cL_start 4 = .ok (.invokevirtual 86, 3) := by decide +kernel
theorem dL_start_7 : decode cL_start 7 = .ok (.i2l, 1) := by decide +kernel
theorem dL_start_8 : decode cL_start 8 = .ok (.lastore, 1) := by decide +kernel
theorem dL_start_9 : decode cL_start 9 = .ok (.goto 9, 3) := by decide +kernel
theorem dL_start_12 : decode cL_start 12 = .ok (.astore_n 3, 1) := by decide +kernel
theorem dL_start_13 : decode cL_start 13 = .ok (.iconst 1, 1) := by decide +kernel
theorem dL_start_14 : decode cL_start 14 = .ok (.ireturn, 1) := by decide +kernel
theorem dL_start_15 : decode cL_start 15 = .ok (.astore_n 3, 1) := by decide +kernel
theorem dL_start_16 : decode cL_start 16 = .ok (.iconst 2, 1) := by decide +kernel
theorem dL_start_17 : decode cL_start 17 = .ok (.ireturn, 1) := by decide +kernel
theorem dL_start_18 : decode cL_start 18 = .ok (.iconst 0, 1) := by decide +kernel
theorem dL_start_19 : decode cL_start 19 = .ok (.ireturn, 1) := by decide +kernel
set_option maxRecDepth 20000 in
theorem ggL_ofPack_X5_ofPack : GoodIn wsL_ofPack wsX5_ofPack := goodIn_ca (goodIn_ca (goodIn_r _ [6, 7, 8, 9, 10, 11, 12, 13, 5, 14, 15, 16, 17, 18, 19, 20, 21, 22, 23, 24, 25, 26, 27, 28, 29, 30, 31, 32, 33, 34, 35, 36, 37, 38, 39, 40, 41, 42, 43, 44, 45, 46, 47, 48, 49, 50, 51, 52, 53, 54, 55, 56, 57, 58, 59, 60, 61, 62, 63, 64, 65, 66, 67, 68, 69, 70, 71, 72, 73, 74, 75, 76, 77, 78, 79, 80, 81, 82, 83, 84, 85, 86, 87, 88, 89, 90, 91, 92, 93, 94] (by decide +kernel) (by decide +kernel)) (goodIn_sub (fun _ h => List.mem_cons_of_mem _ (List.mem_append_left _ (List.mem_append_right _ h))) (by decide +kernel))) (goodIn_sub (fun _ h => List.mem_cons_of_mem _ (List.mem_append_right _ h)) (by decide +kernel))
set_option maxRecDepth 20000 in
theorem gL_ofPack_X5_ofPack : GoodIn wsL_ofPack (wsV RL 89 RX5 yX5_ofPack wsX5_ofPack) := goodIn_app (goodIn_of _ (by decide +kernel)) ggL_ofPack_X5_ofPack
theorem dL_ofPack_0 : decode cL_ofPack 0 = .ok (.aload_n 3, 1) := by decide +kernel
theorem dL_ofPack_1 : decode cL_ofPack 1 = .ok (.iconst 0, 1) := by decide +kernel
theorem dL_ofPack_2 : decode cL_ofPack 2 = .ok (.aload_n 0, 1) := by decide +kernel
theorem dL_ofPack_3 : decode cL_ofPack 3 = .ok (.iload_n 1, 1) := by decide +kernel
theorem dL_ofPack_4 : decode cL_ofPack 4 = .ok (.iload_n 2, 1) := by decide +kernel
theorem dL_ofPack_5 : decode cL_ofPack 5 = .ok (.invokevirtual 89, 3) := by decide +kernel
theorem dL_ofPack_8 : decode cL_ofPack 8 = .ok (.i2l, 1) := by decide +kernel
theorem dL_ofPack_9 : decode cL_ofPack 9 = .ok (.lastore, 1) := by decide +kernel
theorem dL_ofPack_10 : decode cL_ofPack 10 = .ok (.goto 11, 3) := by decide +kernel
theorem dL_ofPack_13 : decode cL_ofPack 13 = .ok (.astore 4, 2) := by decide +kernel
theorem dL_ofPack_15 : decode cL_ofPack 15 = .ok (.iconst 1, 1) := by decide +kernel
theorem dL_ofPack_16 : decode cL_ofPack 16 = .ok (.ireturn, 1) := by decide +kernel
theorem dL_ofPack_17 : decode cL_ofPack 17 = .ok (.astore 4, 2) := by decide +kernel
theorem dL_ofPack_19 : decode cL_ofPack 19 = .ok (.iconst 2, 1) := by decide +kernel
theorem dL_ofPack_20 : decode cL_ofPack 20 = .ok (.ireturn, 1) := by decide +kernel
theorem dL_ofPack_21 : decode cL_ofPack 21 = .ok (.iconst 0, 1) := by decide +kernel
theorem dL_ofPack_22 : decode cL_ofPack 22 = .ok (.ireturn, 1) := by decide +kernel
set_option maxRecDepth 20000 in
theorem ggL_many_X5_many : GoodIn wsL_many wsX5_many := goodIn_ca (goodIn_r _ [6, 7, 8, 9, 10, 11, 12, 13, 14, 15, 16, 17, 5, 18, 19, 20, 21, 22, 23, 24, 25, 26, 27, 28, 29, 30, 31, 32, 33, 34, 35, 36, 37, 38, 39, 40, 41, 42, 43, 44, 45, 46, 47, 48, 49, 50, 51, 52, 53, 54, 55, 56, 57, 58, 59, 60, 61, 62, 63, 64, 65, 66, 67, 68, 69, 70, 71, 72, 73, 74, 75, 76, 77, 78, 79, 80, 81, 82, 83, 84, 85] (by decide +kernel) (by decide +kernel)) (goodIn_sub (fun _ h => List.mem_cons_of_mem _ (List.mem_append_right _ h)) (by decide +kernel))
set_option maxRecDepth 20000 in
theorem gL_many_X5_many : GoodIn wsL_many (wsV RL 92 RX5 yX5_many wsX5_many) := goodIn_app (goodIn_of _ (by decide +kernel)) ggL_many_X5_many
theorem dL_many_0 : decode cL_many 0 = .ok (.aload_n 2, 1) := by decide +kernel
theorem dL_many_1 : decode cL_many 1 = .ok (.iconst 0, 1) := by decide +kernel
theorem dL_many_2 : decode cL_many 2 = .ok (.aload_n 0, 1) := by decide +kernel
theorem dL_many_3 : decode cL_many 3 = .ok (.iload_n 1, 1) := by decide +kernel
theorem dL_many_4 : decode cL_many 4 = .ok (.invokevirtual 92, 3) := by decide +kernel
theorem dL_many_7 : decode cL_many 7 = .ok (.i2l, 1) := by decide +kernel
theorem dL_many_8 : decode cL_many 8 = .ok (.lastore, 1) := by decide +kernel
theorem dL_many_9 : decode cL_many 9 = .ok (.goto 6, 3) := by decide +kernel
theorem dL_many_12 : decode cL_many 12 = .ok (.astore_n 3, 1) := by decide +kernel
theorem dL_many_13 : decode cL_many 13 = .ok (.iconst 1, 1) := by decide +kernel
theorem dL_many_14 : decode cL_many 14 = .ok (.ireturn, 1) := by decide +kernel
theorem dL_many_15 : decode cL_many 15 = .ok (.iconst 0, 1) := by decide +kernel
theorem dL_many_16 : decode cL_many 16 = .ok (.ireturn, 1) := by decide +kernel
set_option maxRecDepth 20000 in
theorem ggL_stoppedBy_X5_stoppedBy : GoodIn wsL_stoppedBy wsX5_stoppedBy := goodIn_ca (goodIn_r _ [6, 7, 8, 9, 10, 5, 11, 12, 13, 14, 15, 16, 17, 18, 19, 20, 21, 22, 23, 24, 25, 26, 27, 28, 29, 30, 31, 32, 33, 34, 35, 36, 37, 38, 39, 40, 41, 42, 43, 44, 45, 46, 47, 48, 49, 50, 51, 52, 53, 54, 55, 56, 57, 58, 59, 60, 61, 62, 63, 64, 65, 66, 67, 68, 69, 70, 71, 72, 73, 74, 75, 76, 77, 78, 79, 80, 81, 82, 83, 84, 85, 86, 87, 88, 89, 90, 91, 92, 93, 94, 95, 96, 97, 98, 99, 100, 101, 102, 103, 104, 105, 106, 107, 108, 109, 110, 111, 112, 113, 114, 115, 116, 117, 118, 119, 120, 121] (by decide +kernel) (by decide +kernel)) (goodIn_sub (fun _ h => List.mem_cons_of_mem _ (List.mem_append_right _ h)) (by decide +kernel))
set_option maxRecDepth 20000 in
theorem gL_stoppedBy_X5_stoppedBy : GoodIn wsL_stoppedBy (wsV RL 95 RX5 yX5_stoppedBy wsX5_stoppedBy) := goodIn_app (goodIn_of _ (by decide +kernel)) ggL_stoppedBy_X5_stoppedBy
theorem dL_stoppedBy_0 : decode cL_stoppedBy 0 = .ok (.aload_n 2, 1) := by decide +kernel
theorem dL_stoppedBy_1 : decode cL_stoppedBy 1 = .ok (.iconst 0, 1) := by decide +kernel
theorem dL_stoppedBy_2 : decode cL_stoppedBy 2 = .ok (.aload_n 0, 1) := by decide +kernel
theorem dL_stoppedBy_3 : decode cL_stoppedBy 3 = .ok (.iload_n 1, 1) := by decide +kernel
theorem dL_stoppedBy_4 : decode cL_stoppedBy 4 = .ok (.invokevirtual 95, 3) := by decide +kernel
theorem dL_stoppedBy_7 : decode cL_stoppedBy 7 = .ok (.i2l, 1) := by decide +kernel
theorem dL_stoppedBy_8 : decode cL_stoppedBy 8 = .ok (.lastore, 1) := by decide +kernel
theorem dL_stoppedBy_9 : decode cL_stoppedBy 9 = .ok (.goto 6, 3) := by decide +kernel
theorem dL_stoppedBy_12 : decode cL_stoppedBy 12 = .ok (.astore_n 3, 1) := by decide +kernel
theorem dL_stoppedBy_13 : decode cL_stoppedBy 13 = .ok (.iconst 1, 1) := by decide +kernel
theorem dL_stoppedBy_14 : decode cL_stoppedBy 14 = .ok (.ireturn, 1) := by decide +kernel
theorem dL_stoppedBy_15 : decode cL_stoppedBy 15 = .ok (.iconst 0, 1) := by decide +kernel
theorem dL_stoppedBy_16 : decode cL_stoppedBy 16 = .ok (.ireturn, 1) := by decide +kernel
set_option maxRecDepth 20000 in
theorem ggL_freedBy_X5_freedBy : GoodIn wsL_freedBy wsX5_freedBy := goodIn_ca (goodIn_r _ [6, 7, 8, 9, 10, 5, 11, 12, 13, 14, 15, 16, 17, 18, 19, 20, 21, 22, 23, 24, 25, 26, 27, 28, 29, 30, 31, 32, 33, 34, 35, 36, 37, 38, 39, 40, 41, 42, 43, 44, 45, 46, 47, 48, 49, 50, 51, 52, 53, 54, 55, 56, 57, 58, 59, 60, 61, 62, 63, 64, 65, 66, 67, 68, 69, 70, 71, 72, 73, 74, 75, 76, 77, 78, 79, 80, 81, 82, 83, 84, 85, 86, 87, 88, 89, 90, 91, 92] (by decide +kernel) (by decide +kernel)) (goodIn_sub (fun _ h => List.mem_cons_of_mem _ (List.mem_append_right _ h)) (by decide +kernel))
set_option maxRecDepth 20000 in
theorem gL_freedBy_X5_freedBy : GoodIn wsL_freedBy (wsV RL 98 RX5 yX5_freedBy wsX5_freedBy) := goodIn_app (goodIn_of _ (by decide +kernel)) ggL_freedBy_X5_freedBy
theorem dL_freedBy_0 : decode cL_freedBy 0 = .ok (.aload_n 2, 1) := by decide +kernel
theorem dL_freedBy_1 : decode cL_freedBy 1 = .ok (.iconst 0, 1) := by decide +kernel
theorem dL_freedBy_2 : decode cL_freedBy 2 = .ok (.aload_n 0, 1) := by decide +kernel
theorem dL_freedBy_3 : decode cL_freedBy 3 = .ok (.iload_n 1, 1) := by decide +kernel
theorem dL_freedBy_4 : decode cL_freedBy 4 = .ok (.invokevirtual 98, 3) := by decide +kernel
theorem dL_freedBy_7 : decode cL_freedBy 7 = .ok (.i2l, 1) := by decide +kernel
theorem dL_freedBy_8 : decode cL_freedBy 8 = .ok (.lastore, 1) := by decide +kernel
theorem dL_freedBy_9 : decode cL_freedBy 9 = .ok (.goto 6, 3) := by decide +kernel
theorem dL_freedBy_12 : decode cL_freedBy 12 = .ok (.astore_n 3, 1) := by decide +kernel
theorem dL_freedBy_13 : decode cL_freedBy 13 = .ok (.iconst 1, 1) := by decide +kernel
theorem dL_freedBy_14 : decode cL_freedBy 14 = .ok (.ireturn, 1) := by decide +kernel
theorem dL_freedBy_15 : decode cL_freedBy 15 = .ok (.iconst 0, 1) := by decide +kernel
theorem dL_freedBy_16 : decode cL_freedBy 16 = .ok (.ireturn, 1) := by decide +kernel
set_option maxRecDepth 20000 in
theorem ggL_freedByAll_X5_freedByAll : GoodIn wsL_freedByAll wsX5_freedByAll := goodIn_ca (goodIn_r _ [6, 7, 8, 9, 10, 11, 12, 13, 14, 15, 16, 17, 18, 5, 19, 20, 21, 22, 23, 24, 25, 26, 27, 28, 29, 30, 31, 32, 33, 34, 35, 36, 37, 38, 39, 40, 41, 42, 43, 44, 45, 46, 47, 48, 49, 50, 51, 52, 53, 54, 55, 56, 57, 58, 59, 60, 61, 62, 63, 64, 65, 66, 67, 68, 69, 70, 71, 72, 73, 74, 75, 76, 77, 78, 79, 80, 81, 82, 83, 84, 85, 86, 87, 88, 89, 90, 91, 92, 93, 94, 95, 96, 97, 98, 99, 100, 101, 102, 103, 104, 105] (by decide +kernel) (by decide +kernel)) (goodIn_sub (fun _ h => List.mem_cons_of_mem _ (List.mem_append_right _ h)) (by decide +kernel))
set_option maxRecDepth 20000 in
theorem gL_freedByAll_X5_freedByAll : GoodIn wsL_freedByAll (wsV RL 101 RX5 yX5_freedByAll wsX5_freedByAll) := goodIn_app (goodIn_of _ (by decide +kernel)) ggL_freedByAll_X5_freedByAll
theorem dL_freedByAll_0 : decode cL_freedByAll 0 = .ok (.aload_n 2, 1) := by decide +kernel
theorem dL_freedByAll_1 : decode cL_freedByAll 1 = .ok (.iconst 0, 1) := by decide +kernel
theorem dL_freedByAll_2 : decode cL_freedByAll 2 = .ok (.aload_n 0, 1) := by decide +kernel
theorem dL_freedByAll_3 : decode cL_freedByAll 3 = .ok (.iload_n 1, 1) := by decide +kernel
theorem dL_freedByAll_4 : decode cL_freedByAll 4 = .ok (.invokevirtual 101, 3) := by decide +kernel
theorem dL_freedByAll_7 : decode cL_freedByAll 7 = .ok (.i2l, 1) := by decide +kernel
theorem dL_freedByAll_8 : decode cL_freedByAll 8 = .ok (.lastore, 1) := by decide +kernel
theorem dL_freedByAll_9 : decode cL_freedByAll 9 = .ok (.goto 6, 3) := by decide +kernel
theorem dL_freedByAll_12 : decode cL_freedByAll 12 = .ok (.astore_n 3, 1) := by decide +kernel
theorem dL_freedByAll_13 : decode cL_freedByAll 13 = .ok (.iconst 1, 1) := by decide +kernel
theorem dL_freedByAll_14 : decode cL_freedByAll 14 = .ok (.ireturn, 1) := by decide +kernel
theorem dL_freedByAll_15 : decode cL_freedByAll 15 = .ok (.iconst 0, 1) := by decide +kernel
theorem dL_freedByAll_16 : decode cL_freedByAll 16 = .ok (.ireturn, 1) := by decide +kernel
set_option maxRecDepth 20000 in
theorem ggL_law_X5_init : GoodIn wsL_law wsX5_init := goodIn_r _ [9, 10, 11, 12, 13, 14, 15, 16, 17, 18, 19, 20, 21, 22, 23, 24, 25, 26, 27, 28, 29, 30, 31, 32, 33, 34, 35, 36, 1063, 1064, 1065, 1066, 1067, 1068, 1069, 1070, 1071, 1072, 1073, 1074, 1075] (by decide +kernel) (by decide +kernel)
set_option maxRecDepth 20000 in
theorem gL_law_X5_init : GoodIn wsL_law (wsX5_init) := ggL_law_X5_init
set_option maxRecDepth 20000 in
theorem ggL_law_X11_init : GoodIn wsL_law wsX11_init := goodIn_r _ [39, 40, 11, 12, 41, 42, 43, 44, 45, 46, 47, 48, 49, 50, 51, 52, 53, 54, 55, 56, 24, 57, 58, 59, 60, 61, 62, 63, 64, 65, 66, 67, 68, 69, 70, 71, 72, 73, 74, 75, 76, 77, 78, 1078, 1079, 1080, 1081, 1082, 1083, 1084, 1085, 1086, 1087, 1076, 1077, 1088, 1089, 1090] (by decide +kernel) (by decide +kernel)
set_option maxRecDepth 20000 in
theorem gL_law_X11_init : GoodIn wsL_law (wsX11_init) := ggL_law_X11_init
set_option maxRecDepth 20000 in
theorem ggL_law_L_sheet : GoodIn wsL_law wsL_sheet := goodIn_ca (goodIn_ca (goodIn_r _ [82, 83, 84, 85, 86, 2, 87, 88, 89, 90, 91, 27, 14, 13, 92, 93, 94, 95, 96, 11, 12, 6, 97, 24, 98, 99, 100, 101, 102, 103, 104, 105, 106, 107, 1063, 1064, 1065, 1066, 1067, 1068, 1069, 1070, 1071, 1072, 1073, 1074, 1075, 1091, 1092, 1093, 1094, 1095, 1096, 1097, 1098, 1099, 1100] (by decide +kernel) (by decide +kernel)) (goodIn_sub (fun _ h => List.mem_append_left _ (List.mem_append_left _ (List.mem_append_right _ h))) (by decide +kernel))) (goodIn_sub (fun _ h => List.mem_append_left _ (List.mem_append_right _ h)) (by decide +kernel))
set_option maxRecDepth 20000 in
theorem gL_law_L_sheet : GoodIn wsL_law (va_wsS RL 108 yL_sheet wsL_sheet) := goodIn_app (goodIn_of _ (by decide +kernel)) ggL_law_L_sheet
set_option maxRecDepth 20000 in
theorem ggL_law_X11_sheet : GoodIn wsL_law wsX11_sheet := goodIn_r _ [111, 44, 112, 113, 114, 115, 116, 117, 118, 119, 120, 121, 122, 123, 124, 5, 125, 126, 127, 128, 129, 130, 131, 132, 133, 134, 135, 136, 137, 51, 138, 139, 140, 141, 142, 143, 11, 12, 144, 50, 145, 146, 147, 65, 66, 67, 68, 69, 70, 71, 72, 73, 74, 75, 76, 77, 78, 148, 149, 150, 151, 152, 153, 154, 155, 156, 157, 158, 159, 160, 161, 162, 163, 164, 165, 166, 167, 168, 169, 170, 171, 172, 173, 174, 175, 176, 177, 178, 179, 180, 181, 182, 183, 184, 185, 186, 187, 188, 189, 190, 191, 192, 193, 194, 195, 196, 35, 197, 198, 199, 200, 201, 202, 203, 204, 205, 206, 207, 208, 209, 210, 211, 212, 213, 1076, 1077, 1078, 1079, 1080, 1081, 1082, 1083, 1084, 1085, 1086, 1087, 1101, 1102, 1103, 1104, 1105, 1106, 1107, 1108, 1109, 1110, 1088, 1089, 1090] (by decide +kernel) (by decide +kernel)
set_option maxRecDepth 20000 in
theorem gL_law_X11_sheet : GoodIn wsL_law (wsV RL 113 RX11 yX11_sheet wsX11_sheet) := goodIn_app (goodIn_of _ (by decide +kernel)) ggL_law_X11_sheet
set_option maxRecDepth 20000 in
theorem ggL_law_X11_thrown : GoodIn wsL_law wsX11_thrown := goodIn_r _ [217, 130, 1076, 1077] (by decide +kernel) (by decide +kernel)
set_option maxRecDepth 20000 in
theorem gL_law_X11_thrown : GoodIn wsL_law (wsV RL 114 RX11 yX11_thrown wsX11_thrown) := goodIn_app (goodIn_of _ (by decide +kernel)) ggL_law_X11_thrown
set_option maxRecDepth 20000 in
theorem ggL_law_L_draw : GoodIn wsL_law wsL_draw := goodIn_ca (goodIn_ca (goodIn_ca (goodIn_r _ [220, 221, 222, 223, 224, 2, 225, 88, 89, 90, 91, 14, 226, 227, 228, 229, 230, 231, 27, 232, 233, 234, 235, 93, 236, 237, 99, 238, 239, 240, 241, 101, 100, 242, 243, 244, 245, 246, 247, 248, 249, 250, 251, 97, 98, 252, 253, 254, 255, 256, 257, 258, 259, 260, 261, 262, 263, 1063, 1064, 1065, 1066, 1067, 1068, 1069, 1070, 1071, 1072, 1073, 1074, 1075, 1091, 1092, 1093, 1094, 1095, 1096, 1097, 1098, 1099, 1100] (by decide +kernel) (by decide +kernel)) (goodIn_sub (fun _ h => List.mem_append_left _ (List.mem_append_left _ (List.mem_append_right _ h))) (by decide +kernel))) (goodIn_sub (fun _ h => List.mem_append_left _ (List.mem_append_right _ h)) (by decide +kernel))) (goodIn_sub (fun _ h => List.mem_append_right _ h) (by decide +kernel))
set_option maxRecDepth 20000 in
theorem gL_law_L_draw : GoodIn wsL_law (va_wsS RL 118 yL_draw wsL_draw) := goodIn_app (goodIn_of _ (by decide +kernel)) ggL_law_L_draw
set_option maxRecDepth 20000 in
theorem ggL_law_X11_draw : GoodIn wsL_law wsX11_draw := goodIn_r _ [267, 268, 120, 121, 122, 269, 270, 271, 272, 273, 5, 274, 275, 276, 277, 278, 44, 112, 135, 136, 137, 51, 138, 139, 123, 124, 125, 126, 127, 128, 129, 130, 131, 132, 133, 134, 279, 280, 281, 282, 283, 284, 285, 286, 287, 288, 289, 290, 291, 292, 293, 294, 295, 296, 297, 298, 299, 300, 301, 302, 68, 303, 304, 305, 115, 306, 145, 307, 308, 309, 148, 149, 150, 151, 11, 12, 152, 153, 154, 155, 310, 311, 312, 313, 1104, 1105, 1106, 1107, 1108, 1109, 1110, 1076, 1077, 1078, 1079, 1080, 1081, 1082, 1083, 1084, 1085, 1086, 1087, 1088, 1089, 1090, 1101, 1102, 1103] (by decide +kernel) (by decide +kernel)
set_option maxRecDepth 20000 in
theorem gL_law_X11_draw : GoodIn wsL_law (wsV RL 121 RX11 yX11_draw wsX11_draw) := goodIn_app (goodIn_of _ (by decide +kernel)) ggL_law_X11_draw
set_option maxRecDepth 20000 in
theorem ggL_law_L_revise : GoodIn wsL_law wsL_revise := goodIn_ca (goodIn_ca (goodIn_r _ [316, 221, 317, 318, 319, 2, 320, 90, 91, 14, 226, 227, 228, 229, 230, 231, 27, 235, 93, 236, 237, 99, 238, 239, 240, 241, 101, 100, 321, 322, 323, 97, 98, 104, 1063, 1064, 1065, 1066, 1067, 1068, 1069, 1070, 1071, 1072, 1073, 1074, 1075, 1091, 1092, 1093, 1094, 1095, 1096, 1097, 1098, 1099, 1100] (by decide +kernel) (by decide +kernel)) (goodIn_sub (fun _ h => List.mem_append_left _ (List.mem_append_right _ h)) (by decide +kernel))) (goodIn_sub (fun _ h => List.mem_append_right _ h) (by decide +kernel))
set_option maxRecDepth 20000 in
theorem gL_law_L_revise : GoodIn wsL_law (va_wsS RL 122 yL_revise wsL_revise) := goodIn_app (goodIn_of _ (by decide +kernel)) ggL_law_L_revise
set_option maxRecDepth 20000 in
theorem ggL_law_X11_revise : GoodIn wsL_law wsX11_revise := goodIn_r _ [327, 268, 116, 117, 118, 119, 269, 270, 328, 44, 271, 272, 273, 5, 274, 275, 276, 277, 278, 112, 135, 136, 137, 51, 138, 139, 123, 124, 125, 126, 127, 128, 129, 130, 131, 132, 133, 134, 282, 283, 284, 285, 286, 287, 288, 289, 290, 291, 292, 293, 294, 295, 296, 297, 298, 299, 300, 301, 302, 68, 303, 304, 305, 115, 306, 145, 307, 308, 309, 156, 157, 158, 159, 11, 12, 160, 161, 162, 163, 164, 165, 166, 167, 168, 169, 170, 171, 172, 173, 174, 175, 176, 177, 178, 179, 180, 67, 181, 182, 183, 184, 185, 186, 187, 188, 189, 190, 191, 192, 193, 194, 195, 196, 35, 197, 198, 199, 200, 201, 202, 203, 204, 205, 206, 207, 208, 209, 210, 211, 212, 213, 329, 330, 331, 43, 332, 63, 333, 334, 335, 336, 337, 338, 339, 340, 341, 52, 342, 343, 344, 345, 346, 347, 348, 349, 350, 351, 352, 57, 353, 354, 355, 356, 357, 358, 359, 360, 361, 362, 363, 364, 53, 365, 366, 367, 368, 369, 370, 371, 372, 373, 374, 375, 376, 377, 378, 379, 58, 59, 380, 381, 382, 383, 122, 384, 385, 386, 387, 388, 389, 121, 152, 390, 153, 154, 391, 155, 392, 149, 150, 151, 393, 311, 312, 313, 394, 395, 396, 397, 398, 62, 399, 400, 401, 402, 403, 1104, 1105, 1106, 1101, 1102, 1103, 1076, 1077, 1078, 1079, 1080, 1081, 1082, 1083, 1084, 1085, 1086, 1087, 1088, 1089, 1090, 1111, 1112, 1113, 1114, 1115, 1116, 1107, 1108, 1109, 1110] (by decide +kernel) (by decide +kernel)
set_option maxRecDepth 20000 in
theorem gL_law_X11_revise : GoodIn wsL_law (wsV RL 124 RX11 yX11_revise wsX11_revise) := goodIn_app (goodIn_of _ (by decide +kernel)) ggL_law_X11_revise
set_option maxRecDepth 20000 in
theorem ggL_law_L_check : GoodIn wsL_law wsL_check := goodIn_ca (goodIn_ca (goodIn_r _ [406, 221, 407, 408, 409, 2, 410, 90, 91, 14, 226, 227, 228, 229, 230, 231, 27, 235, 93, 236, 237, 99, 238, 239, 240, 241, 101, 100, 411, 412, 413, 414, 28, 16, 415, 416, 417, 418, 419, 420, 421, 1063, 1064, 1065, 1066, 1067, 1068, 1069, 1070, 1071, 1072, 1073, 1074, 1075, 1091, 1092, 1093, 1094, 1095, 1096, 1097, 1098, 1099, 1100, 1117, 1118, 1119] (by decide +kernel) (by decide +kernel)) (goodIn_sub (fun _ h => List.mem_append_left _ (List.mem_append_right _ h)) (by decide +kernel))) (goodIn_sub (fun _ h => List.mem_append_right _ h) (by decide +kernel))
set_option maxRecDepth 20000 in
theorem gL_law_L_check : GoodIn wsL_law (va_wsS RL 125 yL_check wsL_check) := goodIn_app (goodIn_of _ (by decide +kernel)) ggL_law_L_check
set_option maxRecDepth 20000 in
theorem ggL_law_X11_check : GoodIn wsL_law wsX11_check := goodIn_r _ [425, 268, 44, 271, 272, 273, 5, 274, 275, 276, 277, 278, 112, 135, 136, 137, 51, 138, 139, 123, 124, 125, 126, 127, 128, 129, 130, 131, 132, 133, 134, 282, 283, 284, 285, 286, 287, 288, 289, 290, 291, 292, 293, 294, 295, 296, 297, 298, 299, 300, 301, 302, 68, 303, 304, 305, 115, 306, 145, 307, 308, 309, 426, 362, 363, 43, 364, 53, 365, 336, 337, 366, 367, 368, 369, 52, 352, 370, 371, 372, 373, 374, 375, 357, 358, 359, 360, 1104, 1105, 1106, 1076, 1077, 1078, 1079, 1080, 1081, 1082, 1083, 1084, 1085, 1086, 1087, 1088, 1089, 1090, 1101, 1102, 1103] (by decide +kernel) (by decide +kernel)
set_option maxRecDepth 20000 in
theorem gL_law_X11_check : GoodIn wsL_law (wsV RL 127 RX11 yX11_check wsX11_check) := goodIn_app (goodIn_of _ (by decide +kernel)) ggL_law_X11_check
set_option maxRecDepth 20000 in
theorem ggL_law_L_issue : GoodIn wsL_law wsL_issue := goodIn_ca (goodIn_ca (goodIn_r _ [429, 221, 430, 431, 432, 2, 433, 90, 91, 14, 226, 227, 228, 229, 230, 231, 27, 434, 435, 436, 437, 235, 93, 236, 237, 99, 238, 239, 240, 241, 101, 100, 411, 412, 413, 414, 28, 16, 415, 416, 417, 418, 419, 420, 421, 438, 439, 440, 97, 102, 98, 103, 441, 442, 443, 444, 30, 20, 445, 446, 447, 448, 31, 22, 449, 450, 451, 452, 25, 453, 454, 455, 456, 457, 458, 459, 460, 461, 462, 463, 464, 465, 466, 467, 255, 256, 468, 469, 470, 471, 472, 473, 474, 475, 476, 477, 478, 1063, 1064, 1065, 1066, 1067, 1068, 1069, 1070, 1071, 1072, 1073, 1074, 1075, 1091, 1092, 1093, 1094, 1095, 1096, 1097, 1098, 1099, 1100, 1117, 1118, 1119, 1120, 1121, 1122, 1123, 1124, 1125, 1126, 1127, 1128] (by decide +kernel) (by decide +kernel)) (goodIn_sub (fun _ h => List.mem_append_left _ (List.mem_append_right _ h)) (by decide +kernel))) (goodIn_sub (fun _ h => List.mem_append_right _ h) (by decide +kernel))
set_option maxRecDepth 20000 in
theorem gL_law_L_issue : GoodIn wsL_law (va_wsS RL 128 yL_issue wsL_issue) := goodIn_app (goodIn_of _ (by decide +kernel)) ggL_law_L_issue
set_option maxRecDepth 20000 in
theorem ggL_law_X11_issue : GoodIn wsL_law wsX11_issue := goodIn_r _ [482, 44, 271, 272, 273, 5, 274, 275, 276, 277, 278, 112, 135, 136, 137, 51, 138, 139, 123, 124, 125, 126, 127, 128, 129, 130, 131, 132, 133, 134, 483, 484, 485, 43, 486, 52, 352, 487, 337, 288, 289, 290, 291, 292, 293, 294, 295, 296, 297, 298, 299, 300, 301, 302, 68, 488, 304, 305, 115, 306, 145, 307, 308, 309, 361, 362, 363, 364, 53, 365, 336, 366, 367, 368, 369, 370, 371, 372, 373, 374, 375, 357, 358, 359, 360, 489, 490, 491, 492, 59, 493, 330, 331, 332, 63, 333, 334, 335, 338, 339, 340, 341, 342, 343, 344, 345, 346, 347, 348, 349, 350, 351, 57, 353, 354, 355, 356, 376, 377, 378, 379, 58, 380, 381, 382, 383, 122, 384, 385, 386, 387, 388, 389, 121, 152, 390, 182, 183, 184, 153, 154, 391, 208, 209, 155, 392, 149, 150, 151, 11, 12, 393, 311, 312, 313, 394, 395, 396, 397, 398, 62, 399, 400, 401, 402, 403, 1076, 1077, 1078, 1079, 1080, 1081, 1082, 1083, 1084, 1085, 1086, 1087, 1088, 1089, 1090, 1104, 1105, 1106, 1101, 1102, 1103, 1111, 1112, 1113, 1114, 1115, 1116, 1107, 1108, 1109, 1110] (by decide +kernel) (by decide +kernel)
set_option maxRecDepth 20000 in
theorem gL_law_X11_issue : GoodIn wsL_law (wsV RL 130 RX11 yX11_issue wsX11_issue) := goodIn_app (goodIn_of _ (by decide +kernel)) ggL_law_X11_issue
set_option maxRecDepth 20000 in
theorem ggL_law_L_refer : GoodIn wsL_law wsL_refer := goodIn_ca (goodIn_ca (goodIn_ca (goodIn_r _ [496, 221, 497, 498, 499, 2, 500, 88, 89, 90, 91, 28, 14, 16, 15, 501, 502, 226, 227, 228, 229, 230, 231, 27, 235, 93, 236, 237, 99, 238, 239, 240, 241, 101, 100, 503, 504, 505, 11, 12, 506, 507, 508, 445, 446, 447, 448, 31, 22, 449, 450, 451, 452, 25, 453, 454, 455, 456, 419, 420, 421, 457, 458, 459, 460, 411, 412, 413, 414, 415, 416, 417, 418, 461, 462, 463, 464, 30, 20, 465, 466, 467, 255, 256, 468, 469, 470, 471, 472, 473, 474, 475, 476, 477, 478, 1063, 1064, 1065, 1066, 1067, 1068, 1069, 1070, 1071, 1072, 1073, 1074, 1075, 1117, 1118, 1119, 1091, 1092, 1093, 1094, 1095, 1096, 1097, 1098, 1099, 1100, 1123, 1124, 1125, 1126, 1127, 1128, 1120, 1121, 1122] (by decide +kernel) (by decide +kernel)) (goodIn_sub (fun _ h => List.mem_append_left _ (List.mem_append_left _ (List.mem_append_right _ h))) (by decide +kernel))) (goodIn_sub (fun _ h => List.mem_append_left _ (List.mem_append_right _ h)) (by decide +kernel))) (goodIn_sub (fun _ h => List.mem_append_right _ h) (by decide +kernel))
set_option maxRecDepth 20000 in
theorem gL_law_L_refer : GoodIn wsL_law (va_wsS RL 131 yL_refer wsL_refer) := goodIn_app (goodIn_of _ (by decide +kernel)) ggL_law_L_refer
set_option maxRecDepth 20000 in
theorem ggL_law_X11_refer : GoodIn wsL_law wsX11_refer := goodIn_r _ [512, 44, 513, 268, 24, 275, 276, 277, 5, 278, 112, 135, 136, 137, 51, 138, 139, 123, 124, 125, 126, 127, 128, 129, 130, 131, 132, 133, 134, 282, 283, 284, 285, 286, 287, 288, 289, 290, 291, 292, 293, 294, 295, 296, 297, 298, 299, 300, 301, 302, 68, 303, 304, 305, 115, 306, 145, 307, 308, 309, 163, 164, 165, 166, 167, 168, 169, 170, 171, 172, 173, 174, 175, 176, 177, 178, 179, 180, 67, 181, 182, 183, 184, 185, 186, 187, 188, 189, 190, 191, 192, 193, 194, 195, 196, 35, 197, 198, 199, 200, 201, 202, 203, 204, 205, 206, 207, 208, 209, 210, 211, 212, 213, 329, 330, 331, 43, 332, 63, 333, 334, 335, 336, 337, 338, 339, 340, 341, 52, 342, 343, 344, 345, 346, 347, 348, 349, 350, 351, 352, 57, 353, 354, 355, 356, 357, 358, 359, 360, 361, 362, 363, 364, 53, 365, 366, 367, 368, 369, 370, 371, 372, 373, 374, 375, 376, 377, 378, 379, 58, 59, 380, 381, 382, 383, 122, 384, 385, 386, 387, 388, 389, 121, 152, 390, 153, 154, 391, 155, 392, 149, 150, 151, 11, 12, 393, 311, 312, 313, 394, 395, 396, 397, 398, 62, 399, 400, 401, 402, 403, 1076, 1077, 1078, 1079, 1080, 1081, 1082, 1083, 1084, 1085, 1086, 1087, 1104, 1105, 1106, 1088, 1089, 1090, 1101, 1102, 1103, 1111, 1112, 1113, 1114, 1115, 1116, 1107, 1108, 1109, 1110] (by decide +kernel) (by decide +kernel)
set_option maxRecDepth 20000 in
theorem gL_law_X11_refer : GoodIn wsL_law (wsV RL 134 RX11 yX11_refer wsX11_refer) := goodIn_app (goodIn_of _ (by decide +kernel)) ggL_law_X11_refer
set_option maxRecDepth 20000 in
theorem ggL_law_L_ofSheet : GoodIn wsL_law wsL_ofSheet := goodIn_ca (goodIn_ca (goodIn_r _ [516, 221, 517, 518, 519, 2, 520, 88, 89, 14, 226, 227, 228, 229, 230, 231, 27, 235, 93, 236, 237, 99, 238, 239, 240, 241, 101, 100, 252, 253, 254, 255, 256, 257, 258, 259, 260, 261, 262, 263, 411, 412, 413, 414, 28, 16, 415, 416, 417, 418, 419, 420, 421, 521, 522, 523, 524, 525, 526, 527, 528, 468, 469, 470, 471, 465, 466, 467, 1063, 1064, 1065, 1066, 1067, 1068, 1069, 1070, 1071, 1072, 1073, 1074, 1075, 1091, 1092, 1093, 1094, 1095, 1096, 1097, 1098, 1099, 1100, 1117, 1118, 1119] (by decide +kernel) (by decide +kernel)) (goodIn_sub (fun _ h => List.mem_append_left _ (List.mem_append_left _ (List.mem_append_right _ h))) (by decide +kernel))) (goodIn_sub (fun _ h => List.mem_append_right _ h) (by decide +kernel))
set_option maxRecDepth 20000 in
theorem gL_law_L_ofSheet : GoodIn wsL_law (va_wsS RL 135 yL_ofSheet wsL_ofSheet) := goodIn_app (goodIn_of _ (by decide +kernel)) ggL_law_L_ofSheet
set_option maxRecDepth 20000 in
theorem ggL_law_X11_ofSheet : GoodIn wsL_law wsX11_ofSheet := goodIn_r _ [532, 271, 272, 273, 5, 274, 275, 276, 277, 278, 44, 112, 135, 136, 137, 51, 138, 139, 123, 124, 125, 126, 127, 128, 129, 130, 131, 132, 133, 134, 533, 534, 535, 536, 537, 116, 268, 269, 270, 328, 282, 283, 284, 285, 286, 287, 288, 289, 290, 291, 292, 293, 294, 295, 296, 297, 298, 299, 300, 301, 302, 68, 538, 372, 373, 115, 374, 145, 307, 375, 357, 358, 359, 360, 308, 309, 539, 303, 304, 305, 306, 310, 311, 312, 122, 313, 154, 152, 155, 153, 426, 362, 363, 43, 364, 53, 365, 336, 337, 366, 367, 368, 369, 52, 352, 370, 371, 540, 541, 542, 543, 394, 395, 396, 397, 398, 62, 399, 400, 121, 401, 386, 387, 388, 389, 390, 182, 183, 184, 391, 208, 209, 392, 149, 150, 151, 11, 12, 402, 403, 1076, 1077, 1078, 1079, 1080, 1081, 1082, 1083, 1084, 1085, 1086, 1087, 1088, 1089, 1090, 1101, 1102, 1103, 1104, 1105, 1106, 1107, 1108, 1109, 1110] (by decide +kernel) (by decide +kernel)
set_option maxRecDepth 20000 in
theorem gL_law_X11_ofSheet : GoodIn wsL_law (wsV RL 138 RX11 yX11_ofSheet wsX11_ofSheet) := goodIn_app (goodIn_of _ (by decide +kernel)) ggL_law_X11_ofSheet
set_option maxRecDepth 20000 in
theorem ggL_law_L_status : GoodIn wsL_law wsL_status := goodIn_ca (goodIn_r _ [546, 221, 547, 548, 549, 2, 550, 230, 231, 14, 226, 227, 228, 229, 27, 239, 93, 240, 241, 101, 100, 1063, 1064, 1065, 1066, 1067, 1068, 1069, 1070, 1071, 1072, 1073, 1074, 1075, 1091, 1092, 1093, 1094, 1095, 1096, 1097, 1098, 1099, 1100] (by decide +kernel) (by decide +kernel)) (goodIn_sub (fun _ h => List.mem_append_right _ h) (by decide +kernel))
set_option maxRecDepth 20000 in
theorem gL_law_L_status : GoodIn wsL_law (va_wsS RL 139 yL_status wsL_status) := goodIn_app (goodIn_of _ (by decide +kernel)) ggL_law_L_status
set_option maxRecDepth 20000 in
theorem ggL_law_X11_status : GoodIn wsL_law wsX11_status := goodIn_r _ [554, 116, 555, 268, 271, 272, 273, 5, 274, 275, 276, 277, 278, 44, 112, 135, 136, 137, 51, 138, 139, 123, 124, 125, 126, 127, 128, 129, 130, 131, 132, 133, 134, 282, 283, 284, 285, 286, 287, 288, 289, 290, 291, 292, 293, 294, 295, 296, 297, 298, 299, 300, 301, 302, 68, 1101, 1102, 1103, 1104, 1105, 1106, 1076, 1077, 1078, 1079, 1080, 1081, 1082, 1083, 1084, 1085, 1086, 1087, 1088, 1089, 1090] (by decide +kernel) (by decide +kernel)
set_option maxRecDepth 20000 in
theorem gL_law_X11_status : GoodIn wsL_law (wsV RL 141 RX11 yX11_status wsX11_status) := goodIn_app (goodIn_of _ (by decide +kernel)) ggL_law_X11_status
set_option maxRecDepth 20000 in
theorem ggL_law_L_holds : GoodIn wsL_law wsL_holds := goodIn_ca (goodIn_r _ [558, 221, 559, 560, 561, 2, 562, 230, 231, 28, 16, 415, 416, 417, 418, 14, 419, 420, 421, 1063, 1064, 1065, 1066, 1067, 1068, 1069, 1070, 1071, 1072, 1073, 1074, 1075, 1117, 1118, 1119, 1091, 1092, 1093, 1094, 1095, 1096, 1097, 1098, 1099, 1100] (by decide +kernel) (by decide +kernel)) (goodIn_sub (fun _ h => List.mem_append_right _ h) (by decide +kernel))
set_option maxRecDepth 20000 in
theorem gL_law_L_holds : GoodIn wsL_law (va_wsS RL 142 yL_holds wsL_holds) := goodIn_app (goodIn_of _ (by decide +kernel)) ggL_law_L_holds
set_option maxRecDepth 20000 in
theorem ggL_law_X11_holds : GoodIn wsL_law wsX11_holds := goodIn_r _ [566, 44, 513, 135, 136, 137, 51, 138, 139, 123, 124, 5, 125, 126, 127, 128, 129, 130, 131, 132, 133, 134, 567, 367, 368, 43, 369, 53, 365, 52, 352, 370, 337, 288, 289, 290, 291, 292, 293, 294, 295, 296, 297, 298, 299, 300, 301, 302, 68, 371, 372, 373, 115, 374, 145, 307, 375, 357, 358, 359, 360, 308, 309, 1076, 1077, 1078, 1079, 1080, 1081, 1082, 1083, 1084, 1085, 1086, 1087, 1088, 1089, 1090, 1104, 1105, 1106, 1101, 1102, 1103] (by decide +kernel) (by decide +kernel)
set_option maxRecDepth 20000 in
theorem gL_law_X11_holds : GoodIn wsL_law (wsV RL 144 RX11 yX11_holds wsX11_holds) := goodIn_app (goodIn_of _ (by decide +kernel)) ggL_law_X11_holds
set_option maxRecDepth 20000 in
theorem ggL_law_L_send : GoodIn wsL_law wsL_send := goodIn_ca (goodIn_ca (goodIn_r _ [570, 83, 571, 572, 573, 2, 574, 88, 89, 90, 91, 29, 17, 575, 576, 32, 18, 577, 578, 579, 580, 27, 581, 582, 583, 584, 14, 419, 420, 421, 585, 586, 587, 11, 12, 24, 588, 589, 590, 591, 34, 35, 36, 592, 593, 594, 595, 1063, 1064, 1065, 1066, 1067, 1068, 1069, 1070, 1071, 1072, 1073, 1074, 1075, 1129, 1130, 1131, 1091, 1092, 1093, 1094, 1095, 1096, 1097, 1098, 1099, 1100] (by decide +kernel) (by decide +kernel)) (goodIn_sub (fun _ h => List.mem_append_left _ (List.mem_append_left _ (List.mem_append_right _ h))) (by decide +kernel))) (goodIn_sub (fun _ h => List.mem_append_left _ (List.mem_append_right _ h)) (by decide +kernel))
set_option maxRecDepth 20000 in
theorem gL_law_L_send : GoodIn wsL_law (va_wsS RL 145 yL_send wsL_send) := goodIn_app (goodIn_of _ (by decide +kernel)) ggL_law_L_send
set_option maxRecDepth 20000 in
theorem ggL_law_X11_send : GoodIn wsL_law wsX11_send := goodIn_r _ [599, 24, 44, 600, 601, 602, 123, 124, 5, 125, 603, 604, 605, 606, 112, 135, 136, 137, 51, 138, 139, 126, 127, 128, 129, 130, 131, 132, 133, 134, 282, 283, 284, 285, 286, 287, 288, 289, 290, 291, 292, 293, 294, 295, 296, 297, 298, 299, 300, 301, 302, 68, 539, 357, 358, 115, 359, 145, 307, 360, 308, 309, 163, 164, 165, 166, 167, 168, 169, 170, 171, 172, 173, 174, 175, 176, 177, 178, 179, 180, 67, 181, 182, 183, 184, 185, 186, 187, 188, 189, 190, 191, 192, 193, 194, 195, 196, 35, 197, 198, 199, 200, 201, 202, 203, 204, 205, 206, 207, 208, 209, 210, 211, 212, 213, 1076, 1077, 1078, 1079, 1080, 1081, 1082, 1083, 1084, 1085, 1086, 1087, 1088, 1089, 1090, 1101, 1102, 1103, 1104, 1105, 1106] (by decide +kernel) (by decide +kernel)
set_option maxRecDepth 20000 in
theorem gL_law_X11_send : GoodIn wsL_law (wsV RL 147 RX11 yX11_send wsX11_send) := goodIn_app (goodIn_of _ (by decide +kernel)) ggL_law_X11_send
set_option maxRecDepth 20000 in
theorem ggL_law_L_receive : GoodIn wsL_law wsL_receive := goodIn_ca (goodIn_ca (goodIn_r _ [609, 221, 610, 611, 612, 2, 613, 230, 231, 90, 91, 29, 18, 25, 614, 615, 616, 419, 420, 421, 617, 618, 619, 1063, 1064, 1065, 1066, 1067, 1068, 1069, 1070, 1071, 1072, 1073, 1074, 1075, 1129, 1130, 1131] (by decide +kernel) (by decide +kernel)) (goodIn_sub (fun _ h => List.mem_append_right _ h) (by decide +kernel))) (goodIn_sub (fun _ h => List.mem_append_left _ (List.mem_append_right _ h)) (by decide +kernel))
set_option maxRecDepth 20000 in
theorem gL_law_L_receive : GoodIn wsL_law (va_wsS RL 148 yL_receive wsL_receive) := goodIn_app (goodIn_of _ (by decide +kernel)) ggL_law_L_receive
set_option maxRecDepth 20000 in
theorem ggL_law_X11_receive : GoodIn wsL_law wsX11_receive := goodIn_r _ [623, 44, 600, 135, 136, 137, 51, 138, 139, 123, 124, 5, 125, 624, 625, 626, 126, 127, 128, 129, 130, 131, 132, 133, 134, 627, 628, 629, 43, 630, 55, 365, 337, 288, 289, 290, 291, 292, 293, 294, 295, 296, 297, 298, 299, 300, 301, 302, 68, 631, 632, 633, 634, 54, 57, 493, 330, 331, 332, 63, 333, 334, 335, 336, 338, 339, 340, 341, 52, 342, 343, 344, 345, 346, 347, 348, 349, 350, 351, 352, 353, 354, 355, 356, 357, 358, 115, 359, 145, 307, 360, 308, 309, 361, 362, 363, 364, 53, 366, 367, 368, 369, 370, 371, 372, 373, 374, 375, 376, 377, 378, 379, 58, 59, 380, 381, 382, 383, 122, 384, 385, 386, 387, 388, 389, 121, 152, 390, 182, 183, 184, 153, 154, 391, 208, 209, 155, 392, 149, 150, 151, 11, 12, 393, 311, 312, 313, 394, 395, 396, 397, 398, 62, 399, 400, 401, 402, 403, 1076, 1077, 1078, 1079, 1080, 1081, 1082, 1083, 1084, 1085, 1086, 1087, 1088, 1089, 1090, 1111, 1112, 1113, 1114, 1115, 1116, 1101, 1102, 1103, 1104, 1105, 1106, 1107, 1108, 1109, 1110] (by decide +kernel) (by decide +kernel)
set_option maxRecDepth 20000 in
theorem gL_law_X11_receive : GoodIn wsL_law (wsV RL 150 RX11 yX11_receive wsX11_receive) := goodIn_app (goodIn_of _ (by decide +kernel)) ggL_law_X11_receive
set_option maxRecDepth 20000 in
theorem ggL_law_L_has : GoodIn wsL_law wsL_has := goodIn_ca (goodIn_r _ [637, 221, 638, 639, 640, 2, 641, 25, 614, 615, 616, 230, 231, 226, 227, 228, 229, 27, 1063, 1064, 1065, 1066, 1067, 1068, 1069, 1070, 1071, 1072, 1073, 1074, 1075] (by decide +kernel) (by decide +kernel)) (goodIn_sub (fun _ h => List.mem_append_right _ h) (by decide +kernel))
set_option maxRecDepth 20000 in
theorem gL_law_L_has : GoodIn wsL_law (va_wsS RL 151 yL_has wsL_has) := goodIn_app (goodIn_of _ (by decide +kernel)) ggL_law_L_has
set_option maxRecDepth 20000 in
theorem ggL_law_X11_has : GoodIn wsL_law wsX11_has := goodIn_r _ [645, 44, 646, 624, 625, 5, 626, 123, 124, 125, 275, 276, 277, 278, 112, 135, 136, 137, 51, 138, 139, 126, 127, 128, 129, 130, 131, 132, 133, 134, 1076, 1077, 1078, 1079, 1080, 1081, 1082, 1083, 1084, 1085, 1086, 1087, 1088, 1089, 1090] (by decide +kernel) (by decide +kernel)
set_option maxRecDepth 20000 in
theorem gL_law_X11_has : GoodIn wsL_law (wsV RL 153 RX11 yX11_has wsX11_has) := goodIn_app (goodIn_of _ (by decide +kernel)) ggL_law_X11_has
set_option maxRecDepth 20000 in
theorem ggL_law_L_owes : GoodIn wsL_law wsL_owes := goodIn_ca (goodIn_r _ [649, 221, 650, 651, 652, 2, 653, 29, 18, 32, 614, 615, 616, 230, 231, 419, 420, 421, 1063, 1064, 1065, 1066, 1067, 1068, 1069, 1070, 1071, 1072, 1073, 1074, 1075, 1129, 1130, 1131] (by decide +kernel) (by decide +kernel)) (goodIn_sub (fun _ h => List.mem_append_right _ h) (by decide +kernel))
set_option maxRecDepth 20000 in
theorem gL_law_L_owes : GoodIn wsL_law (va_wsS RL 154 yL_owes wsL_owes) := goodIn_app (goodIn_of _ (by decide +kernel)) ggL_law_L_owes
set_option maxRecDepth 20000 in
theorem ggL_law_X11_owes : GoodIn wsL_law wsX11_owes := goodIn_r _ [657, 44, 624, 625, 5, 626, 123, 124, 125, 126, 127, 128, 129, 130, 131, 132, 133, 134, 658, 659, 660, 43, 661, 55, 662, 365, 336, 136, 137, 51, 138, 139, 663, 628, 629, 630, 337, 288, 289, 290, 291, 292, 293, 294, 295, 296, 297, 298, 299, 300, 301, 302, 68, 1076, 1077, 1078, 1079, 1080, 1081, 1082, 1083, 1084, 1085, 1086, 1087, 1088, 1089, 1090] (by decide +kernel) (by decide +kernel)
set_option maxRecDepth 20000 in
theorem gL_law_X11_owes : GoodIn wsL_law (wsV RL 156 RX11 yX11_owes wsX11_owes) := goodIn_app (goodIn_of _ (by decide +kernel)) ggL_law_X11_owes
set_option maxRecDepth 20000 in
theorem ggL_law_L_query : GoodIn wsL_law wsL_query := goodIn_ca (goodIn_ca (goodIn_ca (goodIn_r _ [666, 221, 667, 668, 669, 2, 670, 90, 91, 30, 14, 20, 19, 671, 672, 226, 227, 228, 229, 230, 231, 27, 232, 233, 234, 88, 89, 242, 243, 244, 245, 246, 247, 248, 673, 674, 675, 11, 12, 676, 677, 678, 445, 446, 447, 448, 31, 22, 449, 450, 451, 452, 25, 453, 454, 455, 456, 419, 420, 421, 457, 458, 459, 460, 411, 412, 413, 414, 28, 16, 415, 416, 417, 418, 461, 462, 463, 464, 465, 466, 467, 255, 256, 468, 469, 470, 471, 472, 473, 474, 475, 476, 477, 478, 1063, 1064, 1065, 1066, 1067, 1068, 1069, 1070, 1071, 1072, 1073, 1074, 1075, 1091, 1092, 1093, 1094, 1095, 1096, 1097, 1098, 1099, 1100, 1120, 1121, 1122, 1123, 1124, 1125, 1126, 1127, 1128, 1117, 1118, 1119] (by decide +kernel) (by decide +kernel)) (goodIn_sub (fun _ h => List.mem_append_left _ (List.mem_append_right _ h)) (by decide +kernel))) (goodIn_sub (fun _ h => List.mem_append_right _ h) (by decide +kernel))) (goodIn_sub (fun _ h => List.mem_append_left _ (List.mem_append_left _ (List.mem_append_right _ h))) (by decide +kernel))
set_option maxRecDepth 20000 in
theorem gL_law_L_query : GoodIn wsL_law (va_wsS RL 157 yL_query wsL_query) := goodIn_app (goodIn_of _ (by decide +kernel)) ggL_law_L_query
set_option maxRecDepth 20000 in
theorem ggL_law_X11_query : GoodIn wsL_law wsX11_query := goodIn_r _ [682, 44, 683, 120, 121, 122, 684, 24, 271, 272, 273, 5, 274, 275, 276, 277, 278, 112, 135, 136, 137, 51, 138, 139, 123, 124, 125, 126, 127, 128, 129, 130, 131, 132, 133, 134, 279, 280, 281, 282, 283, 284, 285, 286, 287, 288, 289, 290, 291, 292, 293, 294, 295, 296, 297, 298, 299, 300, 301, 302, 68, 539, 357, 358, 115, 359, 145, 307, 360, 308, 309, 148, 149, 150, 151, 11, 12, 152, 153, 154, 155, 163, 164, 165, 166, 167, 168, 169, 170, 171, 172, 173, 174, 175, 176, 177, 178, 179, 180, 67, 181, 182, 183, 184, 185, 186, 187, 188, 189, 190, 191, 192, 193, 194, 195, 196, 35, 197, 198, 199, 200, 201, 202, 203, 204, 205, 206, 207, 208, 209, 210, 211, 212, 213, 329, 330, 331, 43, 332, 63, 333, 334, 335, 336, 337, 338, 339, 340, 341, 52, 342, 343, 344, 345, 346, 347, 348, 349, 350, 351, 352, 57, 353, 354, 355, 356, 361, 362, 363, 364, 53, 365, 366, 367, 368, 369, 370, 371, 372, 373, 374, 375, 376, 377, 378, 379, 58, 59, 380, 381, 382, 383, 384, 385, 386, 387, 388, 389, 390, 391, 392, 393, 311, 312, 313, 394, 395, 396, 397, 398, 62, 399, 400, 401, 402, 403, 1076, 1077, 1078, 1079, 1080, 1081, 1082, 1083, 1084, 1085, 1086, 1087, 1107, 1108, 1109, 1110, 1088, 1089, 1090, 1101, 1102, 1103, 1104, 1105, 1106, 1111, 1112, 1113, 1114, 1115, 1116] (by decide +kernel) (by decide +kernel)
set_option maxRecDepth 20000 in
theorem gL_law_X11_query : GoodIn wsL_law (wsV RL 160 RX11 yX11_query wsX11_query) := goodIn_app (goodIn_of _ (by decide +kernel)) ggL_law_X11_query
set_option maxRecDepth 20000 in
theorem ggL_law_L_answer : GoodIn wsL_law wsL_answer := goodIn_ca (goodIn_ca (goodIn_r _ [687, 221, 688, 689, 690, 2, 691, 90, 91, 20, 692, 693, 694, 695, 230, 231, 30, 1063, 1064, 1065, 1066, 1067, 1068, 1069, 1070, 1071, 1072, 1073, 1074, 1075, 1120, 1121, 1122] (by decide +kernel) (by decide +kernel)) (goodIn_sub (fun _ h => List.mem_append_left _ (List.mem_append_right _ h)) (by decide +kernel))) (goodIn_sub (fun _ h => List.mem_append_right _ h) (by decide +kernel))
set_option maxRecDepth 20000 in
theorem gL_law_L_answer : GoodIn wsL_law (va_wsS RL 161 yL_answer wsL_answer) := goodIn_app (goodIn_of _ (by decide +kernel)) ggL_law_L_answer
set_option maxRecDepth 20000 in
theorem ggL_law_X11_answer : GoodIn wsL_law wsX11_answer := goodIn_r _ [699, 44, 684, 700, 701, 702, 703, 5, 704, 683, 135, 136, 137, 51, 138, 139, 123, 124, 125, 126, 127, 128, 129, 130, 131, 132, 133, 134, 287, 288, 289, 290, 291, 292, 293, 294, 295, 296, 297, 298, 299, 300, 301, 302, 68, 1076, 1077, 1078, 1079, 1080, 1081, 1082, 1083, 1084, 1085, 1086, 1087, 1088, 1089, 1090] (by decide +kernel) (by decide +kernel)
set_option maxRecDepth 20000 in
theorem gL_law_X11_answer : GoodIn wsL_law (wsV RL 164 RX11 yX11_answer wsX11_answer) := goodIn_app (goodIn_of _ (by decide +kernel)) ggL_law_X11_answer
set_option maxRecDepth 20000 in
theorem ggL_law_L_ofQuery : GoodIn wsL_law wsL_ofQuery := goodIn_ca (goodIn_r _ [707, 221, 708, 709, 710, 2, 711, 20, 692, 693, 694, 695, 230, 231, 30, 1063, 1064, 1065, 1066, 1067, 1068, 1069, 1070, 1071, 1072, 1073, 1074, 1075, 1120, 1121, 1122] (by decide +kernel) (by decide +kernel)) (goodIn_sub (fun _ h => List.mem_append_right _ h) (by decide +kernel))
set_option maxRecDepth 20000 in
theorem gL_law_L_ofQuery : GoodIn wsL_law (va_wsS RL 165 yL_ofQuery wsL_ofQuery) := goodIn_app (goodIn_of _ (by decide +kernel)) ggL_law_L_ofQuery
set_option maxRecDepth 20000 in
theorem ggL_law_X11_ofQuery : GoodIn wsL_law wsX11_ofQuery := goodIn_r _ [715, 44, 684, 700, 701, 702, 703, 5, 704, 683, 135, 136, 137, 51, 138, 139, 123, 124, 125, 126, 127, 128, 129, 130, 131, 132, 133, 134, 287, 288, 289, 290, 291, 292, 293, 294, 295, 296, 297, 298, 299, 300, 301, 302, 68, 1076, 1077, 1078, 1079, 1080, 1081, 1082, 1083, 1084, 1085, 1086, 1087, 1088, 1089, 1090] (by decide +kernel) (by decide +kernel)
set_option maxRecDepth 20000 in
theorem gL_law_X11_ofQuery : GoodIn wsL_law (wsV RL 167 RX11 yX11_ofQuery wsX11_ofQuery) := goodIn_app (goodIn_of _ (by decide +kernel)) ggL_law_X11_ofQuery
set_option maxRecDepth 20000 in
theorem ggL_law_L_clash : GoodIn wsL_law wsL_clash := goodIn_ca (goodIn_ca (goodIn_r _ [718, 221, 719, 720, 721, 2, 722, 723, 724, 725, 726, 88, 89, 226, 227, 228, 229, 230, 231, 27, 468, 469, 470, 471, 14, 419, 420, 421, 252, 253, 254, 255, 256, 257, 258, 259, 260, 261, 262, 263, 1063, 1064, 1065, 1066, 1067, 1068, 1069, 1070, 1071, 1072, 1073, 1074, 1075, 1091, 1092, 1093, 1094, 1095, 1096, 1097, 1098, 1099, 1100] (by decide +kernel) (by decide +kernel)) (goodIn_sub (fun _ h => List.mem_append_left _ (List.mem_append_left _ (List.mem_append_right _ h))) (by decide +kernel))) (goodIn_sub (fun _ h => List.mem_append_right _ h) (by decide +kernel))
set_option maxRecDepth 20000 in
theorem gL_law_L_clash : GoodIn wsL_law (va_wsS RL 168 yL_clash wsL_clash) := goodIn_app (goodIn_of _ (by decide +kernel)) ggL_law_L_clash
set_option maxRecDepth 20000 in
theorem ggL_law_X11_clash : GoodIn wsL_law wsX11_clash := goodIn_r _ [730, 44, 731, 732, 733, 5, 734, 275, 276, 277, 278, 112, 135, 136, 137, 51, 138, 139, 123, 124, 125, 126, 127, 128, 129, 130, 131, 132, 133, 134, 735, 395, 396, 43, 397, 52, 352, 398, 62, 399, 400, 121, 122, 337, 288, 289, 290, 291, 292, 293, 294, 295, 296, 297, 298, 299, 300, 301, 302, 68, 371, 372, 373, 115, 374, 145, 307, 375, 357, 358, 359, 360, 308, 309, 401, 386, 387, 388, 389, 152, 390, 182, 183, 184, 153, 154, 391, 208, 209, 155, 392, 149, 150, 151, 11, 12, 402, 310, 311, 312, 313, 1076, 1077, 1078, 1079, 1080, 1081, 1082, 1083, 1084, 1085, 1086, 1087, 1088, 1089, 1090, 1101, 1102, 1103, 1104, 1105, 1106, 1107, 1108, 1109, 1110] (by decide +kernel) (by decide +kernel)
set_option maxRecDepth 20000 in
theorem gL_law_X11_clash : GoodIn wsL_law (wsV RL 170 RX11 yX11_clash wsX11_clash) := goodIn_app (goodIn_of _ (by decide +kernel)) ggL_law_X11_clash
set_option maxRecDepth 20000 in
theorem ggL_law_L_excuse : GoodIn wsL_law wsL_excuse := goodIn_ca (goodIn_ca (goodIn_r _ [738, 221, 739, 740, 741, 2, 742, 14, 723, 724, 725, 726, 88, 89, 226, 227, 228, 229, 230, 231, 27, 445, 446, 447, 448, 31, 22, 449, 450, 451, 452, 25, 453, 454, 455, 456, 419, 420, 421, 457, 458, 459, 460, 411, 412, 413, 414, 28, 16, 415, 416, 417, 418, 461, 462, 463, 464, 30, 20, 465, 466, 467, 255, 256, 468, 469, 470, 471, 472, 473, 474, 475, 476, 477, 478, 1063, 1064, 1065, 1066, 1067, 1068, 1069, 1070, 1071, 1072, 1073, 1074, 1075, 1091, 1092, 1093, 1094, 1095, 1096, 1097, 1098, 1099, 1100, 1123, 1124, 1125, 1126, 1127, 1128, 1117, 1118, 1119, 1120, 1121, 1122] (by decide +kernel) (by decide +kernel)) (goodIn_sub (fun _ h => List.mem_append_left _ (List.mem_append_left _ (List.mem_append_right _ h))) (by decide +kernel))) (goodIn_sub (fun _ h => List.mem_append_right _ h) (by decide +kernel))
set_option maxRecDepth 20000 in
theorem gL_law_L_excuse : GoodIn wsL_law (va_wsS RL 171 yL_excuse wsL_excuse) := goodIn_app (goodIn_of _ (by decide +kernel)) ggL_law_L_excuse
set_option maxRecDepth 20000 in
theorem ggL_law_X11_excuse : GoodIn wsL_law wsX11_excuse := goodIn_r _ [746, 44, 747, 731, 732, 733, 5, 734, 275, 276, 277, 278, 112, 135, 136, 137, 51, 138, 139, 123, 124, 125, 126, 127, 128, 129, 130, 131, 132, 133, 134, 329, 330, 331, 43, 332, 63, 333, 334, 335, 336, 337, 288, 289, 290, 291, 292, 293, 294, 295, 296, 297, 298, 299, 300, 301, 302, 68, 338, 339, 340, 341, 52, 342, 343, 344, 345, 346, 347, 348, 349, 350, 351, 352, 57, 353, 354, 355, 356, 357, 358, 115, 359, 145, 307, 360, 308, 309, 361, 362, 363, 364, 53, 365, 366, 367, 368, 369, 370, 371, 372, 373, 374, 375, 376, 377, 378, 379, 58, 59, 380, 381, 382, 383, 122, 384, 385, 386, 387, 388, 389, 121, 152, 390, 182, 183, 184, 153, 154, 391, 208, 209, 155, 392, 149, 150, 151, 11, 12, 393, 311, 312, 313, 394, 395, 396, 397, 398, 62, 399, 400, 401, 402, 403, 1076, 1077, 1078, 1079, 1080, 1081, 1082, 1083, 1084, 1085, 1086, 1087, 1088, 1089, 1090, 1111, 1112, 1113, 1114, 1115, 1116, 1101, 1102, 1103, 1104, 1105, 1106, 1107, 1108, 1109, 1110] (by decide +kernel) (by decide +kernel)
set_option maxRecDepth 20000 in
theorem gL_law_X11_excuse : GoodIn wsL_law (wsV RL 173 RX11 yX11_excuse wsX11_excuse) := goodIn_app (goodIn_of _ (by decide +kernel)) ggL_law_X11_excuse
set_option maxRecDepth 20000 in
theorem ggL_law_L_clouds : GoodIn wsL_law wsL_clouds := goodIn_ca (goodIn_ca (goodIn_r _ [750, 221, 751, 752, 753, 2, 754, 226, 227, 228, 229, 230, 231, 27, 232, 233, 234, 88, 89, 242, 243, 244, 245, 246, 247, 248, 461, 462, 463, 464, 30, 20, 465, 466, 467, 255, 256, 468, 469, 470, 471, 14, 419, 420, 421, 1063, 1064, 1065, 1066, 1067, 1068, 1069, 1070, 1071, 1072, 1073, 1074, 1075, 1120, 1121, 1122, 1091, 1092, 1093, 1094, 1095, 1096, 1097, 1098, 1099, 1100] (by decide +kernel) (by decide +kernel)) (goodIn_sub (fun _ h => List.mem_append_right _ h) (by decide +kernel))) (goodIn_sub (fun _ h => List.mem_append_left _ (List.mem_append_left _ (List.mem_append_right _ h))) (by decide +kernel))
set_option maxRecDepth 20000 in
theorem gL_law_L_clouds : GoodIn wsL_law (va_wsS RL 174 yL_clouds wsL_clouds) := goodIn_app (goodIn_of _ (by decide +kernel)) ggL_law_L_clouds
set_option maxRecDepth 20000 in
theorem ggL_law_X11_clouds : GoodIn wsL_law wsX11_clouds := goodIn_r _ [758, 44, 120, 121, 122, 271, 272, 273, 5, 274, 275, 276, 277, 278, 112, 135, 136, 137, 51, 138, 139, 123, 124, 125, 126, 127, 128, 129, 130, 131, 132, 133, 134, 148, 149, 150, 151, 11, 12, 152, 153, 154, 155, 759, 377, 378, 43, 379, 58, 59, 365, 380, 52, 336, 337, 288, 289, 290, 291, 292, 293, 294, 295, 296, 297, 298, 299, 300, 301, 302, 68, 381, 382, 383, 384, 385, 386, 387, 388, 389, 390, 182, 183, 184, 391, 208, 209, 392, 393, 311, 312, 313, 394, 395, 396, 397, 352, 398, 62, 399, 400, 371, 372, 373, 115, 374, 145, 307, 375, 357, 358, 359, 360, 308, 309, 401, 402, 403, 1076, 1077, 1107, 1108, 1109, 1110, 1078, 1079, 1080, 1081, 1082, 1083, 1084, 1085, 1086, 1087, 1088, 1089, 1090, 1101, 1102, 1103, 1104, 1105, 1106] (by decide +kernel) (by decide +kernel)
set_option maxRecDepth 20000 in
theorem gL_law_X11_clouds : GoodIn wsL_law (wsV RL 176 RX11 yX11_clouds wsX11_clouds) := goodIn_app (goodIn_of _ (by decide +kernel)) ggL_law_X11_clouds
