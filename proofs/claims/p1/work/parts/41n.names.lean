set_option maxRecDepth 20000 in
theorem ggX11_freedByAllNow_X6_copy : GoodIn wsX11_freedByAllNow wsX6_copy := goodIn_r _ [10, 11, 12, 9, 13, 14, 15, 16, 17, 18, 19, 20, 21, 22, 23, 24, 25, 26, 27, 28, 29, 30, 31, 32, 33, 34, 35, 36, 37, 38, 39, 40, 41, 42, 43, 44, 45, 46, 47, 48, 49, 50, 51, 52, 53, 54, 55, 56, 57, 58, 59, 60, 61, 62, 63, 64, 65, 66, 67, 68, 69, 70, 71, 72, 73, 74, 75, 76, 77, 78, 79, 80, 81, 82, 83, 84, 85, 86, 87, 88, 89, 90, 91, 92, 93, 94, 95, 96, 97, 98, 99, 100, 101, 102, 103, 104, 105, 106, 107, 108, 109, 110, 111, 112, 113, 114, 115, 116, 117, 118, 119, 120, 121, 122, 123, 124, 125, 126, 127, 128, 129, 130, 131, 132, 133, 134, 135, 136, 137, 138, 139, 140, 141, 142, 143, 144, 145, 146, 147, 148, 149, 150, 151, 152, 153, 154, 155, 156, 157, 158, 159, 160, 161, 162, 163, 164, 165, 166, 167, 168, 169, 170, 171, 172, 173, 174, 175, 176, 177, 178, 179, 180, 181, 182, 183, 184, 185, 186, 187, 188, 189, 190, 191, 192, 193, 194, 195, 196, 197, 198, 199, 200, 201, 202, 203, 296, 297, 298, 299, 300, 301, 302, 303, 304, 305, 312, 313, 314, 315, 316, 317, 318, 319, 320, 306, 307, 308, 309, 310, 311, 321, 322, 323, 324] (by decide +kernel) (by decide +kernel)
set_option maxRecDepth 20000 in
theorem gX11_freedByAllNow_X6_copy : GoodIn wsX11_freedByAllNow (wsV RX11 257 RX6 yX6_copy wsX6_copy) := goodIn_app (goodIn_of _ (by decide +kernel)) ggX11_freedByAllNow_X6_copy
set_option maxRecDepth 20000 in
theorem ggX11_freedByAllNow_Jx4a65c_size_8abf5 : GoodIn wsX11_freedByAllNow wsJx4a65c_size_8abf5 := goodIn_r _ [66, 67, 312, 313, 314] (by decide +kernel) (by decide +kernel)
set_option maxRecDepth 20000 in
theorem gX11_freedByAllNow_Jx4a65c_size_8abf5 : GoodIn wsX11_freedByAllNow (wsV RX11 28 RJx4a65c yJx4a65c_size_8abf5 wsJx4a65c_size_8abf5) := goodIn_app (goodIn_of _ (by decide +kernel)) ggX11_freedByAllNow_Jx4a65c_size_8abf5
theorem dX11_freedByAllNow_0 : decode cX11_freedByAllNow 0 = .ok (.aload_n 0, 1) := by decide +kernel
theorem dX11_freedByAllNow_1 : decode cX11_freedByAllNow 1 = .ok (.getfield 10, 3) := by decide +kernel
theorem dX11_freedByAllNow_4 : decode cX11_freedByAllNow 4 = .ok (.invokevirtual 257, 3) := by decide +kernel
theorem dX11_freedByAllNow_7 : decode cX11_freedByAllNow 7 = .ok (.astore_n 2, 1) := by decide +kernel
theorem dX11_freedByAllNow_8 : decode cX11_freedByAllNow 8 = .ok (.iconst 0, 1) := by decide +kernel
theorem dX11_freedByAllNow_9 : decode cX11_freedByAllNow 9 = .ok (.istore_n 3, 1) := by decide +kernel
theorem dX11_freedByAllNow_10 : decode cX11_freedByAllNow 10 = .ok (.iload_n 3, 1) := by decide +kernel
theorem dX11_freedByAllNow_11 : decode cX11_freedByAllNow 11 = .ok (.aload_n 0, 1) := by decide +kernel
theorem dX11_freedByAllNow_12 : decode cX11_freedByAllNow 12 = .ok (.getfield 10, 3) := by decide +kernel
theorem dX11_freedByAllNow_15 : decode cX11_freedByAllNow 15 = .ok (.getfield 141, 3) := by decide +kernel
theorem dX11_freedByAllNow_18 : decode cX11_freedByAllNow 18 = .ok (.invokevirtual 28, 3) := by decide +kernel
theorem dX11_freedByAllNow_21 : decode cX11_freedByAllNow 21 = .ok (.if_icmp .ge 25, 3) := by decide +kernel
theorem dX11_freedByAllNow_46 : decode cX11_freedByAllNow 46 = .ok (.iconst 0, 1) := by decide +kernel
theorem dX11_freedByAllNow_47 : decode cX11_freedByAllNow 47 = .ok (.istore_n 3, 1) := by decide +kernel
theorem dX11_freedByAllNow_48 : decode cX11_freedByAllNow 48 = .ok (.iconst 0, 1) := by decide +kernel
theorem dX11_freedByAllNow_49 : decode cX11_freedByAllNow 49 = .ok (.istore 4, 2) := by decide +kernel
theorem dX11_freedByAllNow_51 : decode cX11_freedByAllNow 51 = .ok (.iload 4, 2) := by decide +kernel
theorem dX11_freedByAllNow_53 : decode cX11_freedByAllNow 53 = .ok (.aload_n 0, 1) := by decide +kernel
theorem dX11_freedByAllNow_54 : decode cX11_freedByAllNow 54 = .ok (.getfield 10, 3) := by decide +kernel
theorem dX11_freedByAllNow_57 : decode cX11_freedByAllNow 57 = .ok (.getfield 193, 3) := by decide +kernel
theorem dX11_freedByAllNow_60 : decode cX11_freedByAllNow 60 = .ok (.invokevirtual 28, 3) := by decide +kernel
theorem dX11_freedByAllNow_63 : decode cX11_freedByAllNow 63 = .ok (.if_icmp .ge 79, 3) := by decide +kernel
theorem dX11_freedByAllNow_142 : decode cX11_freedByAllNow 142 = .ok (.iload_n 3, 1) := by decide +kernel
theorem dX11_freedByAllNow_143 : decode cX11_freedByAllNow 143 = .ok (.ireturn, 1) := by decide +kernel
