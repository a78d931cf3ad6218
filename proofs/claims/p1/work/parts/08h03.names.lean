theorem goodIn_td {big ws : List Cond} (n : Nat) (h1 : GoodIn big (ws.take n)) (h2 : GoodIn big (ws.drop n)) : GoodIn big ws := fun w hw => by
  rw [← List.take_append_drop n ws] at hw
  exact (List.mem_append.mp hw).elim (h1 w) (h2 w)
set_option maxRecDepth 20000 in
theorem ggL_law_X11_digest_c0 : GoodIn wsL_law ((wsX11_digest).take 40) := goodIn_r _ [1057, 130, 1058, 44, 112, 116, 555, 268, 646, 683, 684, 700, 783, 811, 912, 913, 914, 5, 915, 513, 600, 602, 135, 136, 137, 51, 138, 139, 916, 917, 918, 919, 567, 367, 368, 43, 369, 53, 365, 52] (by decide +kernel) (by decide +kernel)
set_option maxRecDepth 20000 in
theorem ggL_law_X11_digest_c1 : GoodIn wsL_law (((wsX11_digest).drop 40).take 40) := goodIn_r _ [352, 370, 337, 288, 289, 290, 291, 292, 293, 294, 295, 296, 297, 298, 299, 300, 301, 302, 68, 371, 372, 373, 115, 374, 145, 307, 375, 357, 358, 359, 360, 308, 309, 920, 921, 922, 923, 287, 924, 925] (by decide +kernel) (by decide +kernel)
set_option maxRecDepth 20000 in
theorem ggL_law_X11_digest_c2 : GoodIn wsL_law ((((wsX11_digest).drop 40).drop 40).take 40) := goodIn_r _ [926, 927, 540, 541, 542, 543, 336, 394, 395, 396, 397, 398, 62, 399, 400, 121, 122, 401, 386, 387, 388, 389, 152, 390, 182, 183, 184, 153, 154, 391, 208, 209, 155, 392, 149, 150, 151, 11, 12, 402] (by decide +kernel) (by decide +kernel)
set_option maxRecDepth 20000 in
theorem ggL_law_X11_digest_c3 : GoodIn wsL_law (((((wsX11_digest).drop 40).drop 40).drop 40).take 40) := goodIn_r _ [403, 311, 312, 313, 928, 929, 930, 931, 812, 1059, 1060, 1061, 1062, 533, 534, 535, 536, 537, 269, 270, 328, 282, 283, 284, 285, 286, 538, 539, 303, 304, 305, 306, 310, 426, 362, 363, 364, 366, 955, 956] (by decide +kernel) (by decide +kernel)
set_option maxRecDepth 20000 in
theorem ggL_law_X11_digest_c4 : GoodIn wsL_law ((((((wsX11_digest).drop 40).drop 40).drop 40).drop 40).take 40) := goodIn_r _ [957, 958, 483, 484, 485, 486, 487, 488, 361, 959, 960, 961, 962, 963, 42, 54, 55, 964, 965, 966, 967, 968, 57, 969, 211, 212, 213, 58, 59, 63, 333, 662, 970, 46, 47, 48, 49, 50, 56, 24] (by decide +kernel) (by decide +kernel)
set_option maxRecDepth 20000 in
theorem ggL_law_X11_digest_c5 : GoodIn wsL_law (((((((wsX11_digest).drop 40).drop 40).drop 40).drop 40).drop 40).take 40) := goodIn_r _ [60, 61, 64, 65, 66, 67, 69, 70, 71, 72, 73, 74, 75, 76, 77, 78, 971, 972, 973, 974, 975, 114, 146, 976, 977, 141, 142, 143, 144, 147, 978, 979, 980, 119, 981, 982, 118, 161, 162, 160] (by decide +kernel) (by decide +kernel)
set_option maxRecDepth 20000 in
theorem ggL_law_X11_digest_c6 : GoodIn wsL_law ((((((((wsX11_digest).drop 40).drop 40).drop 40).drop 40).drop 40).drop 40).take 40) := goodIn_r _ [983, 157, 158, 159, 984, 164, 165, 166, 167, 168, 169, 170, 171, 172, 173, 174, 175, 176, 177, 178, 179, 180, 181, 185, 186, 187, 188, 189, 190, 191, 192, 193, 194, 195, 196, 35, 197, 198, 199, 200] (by decide +kernel) (by decide +kernel)
set_option maxRecDepth 20000 in
theorem ggL_law_X11_digest_c7 : GoodIn wsL_law (((((((((wsX11_digest).drop 40).drop 40).drop 40).drop 40).drop 40).drop 40).drop 40).take 40) := goodIn_r _ [201, 202, 203, 204, 205, 206, 207, 210, 985, 986, 987, 988, 989, 990, 991, 992, 993, 994, 995, 996, 997, 345, 998, 999, 785, 793, 347, 794, 791, 792, 1000, 1001, 787, 788, 789, 790, 795, 489, 490, 491] (by decide +kernel) (by decide +kernel)
set_option maxRecDepth 20000 in
theorem ggL_law_X11_digest_c8 : GoodIn wsL_law ((((((((((wsX11_digest).drop 40).drop 40).drop 40).drop 40).drop 40).drop 40).drop 40).drop 40).take 40) := goodIn_r _ [492, 493, 330, 331, 332, 334, 335, 338, 339, 340, 341, 342, 343, 344, 346, 348, 349, 350, 351, 353, 354, 355, 356, 376, 377, 378, 379, 380, 381, 382, 383, 384, 385, 393, 1017, 1018, 1019, 1020, 833, 834] (by decide +kernel) (by decide +kernel)
set_option maxRecDepth 20000 in
theorem ggL_law_X11_digest_c9 : GoodIn wsL_law (((((((((((wsX11_digest).drop 40).drop 40).drop 40).drop 40).drop 40).drop 40).drop 40).drop 40).drop 40).take 40) := goodIn_r _ [835, 836, 837, 838, 839, 840, 658, 659, 660, 661, 663, 628, 629, 630, 1033, 1034, 1035, 1036, 880, 627, 631, 632, 633, 634, 1037, 876, 877, 878, 879, 881, 832, 882, 883, 884, 1076, 1077, 1078, 1079, 1080, 1081] (by decide +kernel) (by decide +kernel)
set_option maxRecDepth 20000 in
theorem ggL_law_X11_digest_c10 : GoodIn wsL_law (((((((((((wsX11_digest).drop 40).drop 40).drop 40).drop 40).drop 40).drop 40).drop 40).drop 40).drop 40).drop 40) := goodIn_r _ [1082, 1083, 1084, 1085, 1086, 1087, 1101, 1102, 1103, 1104, 1105, 1106, 1088, 1089, 1090, 1107, 1108, 1109, 1110, 1111, 1112, 1113, 1114, 1115, 1116] (by decide +kernel) (by decide +kernel)
theorem ggL_law_X11_digest : GoodIn wsL_law wsX11_digest := goodIn_td 40 ggL_law_X11_digest_c0 (goodIn_td 40 ggL_law_X11_digest_c1 (goodIn_td 40 ggL_law_X11_digest_c2 (goodIn_td 40 ggL_law_X11_digest_c3 (goodIn_td 40 ggL_law_X11_digest_c4 (goodIn_td 40 ggL_law_X11_digest_c5 (goodIn_td 40 ggL_law_X11_digest_c6 (goodIn_td 40 ggL_law_X11_digest_c7 (goodIn_td 40 ggL_law_X11_digest_c8 (goodIn_td 40 ggL_law_X11_digest_c9 (ggL_law_X11_digest_c10))))))))))
set_option maxRecDepth 20000 in
theorem gL_law_X11_digest : GoodIn wsL_law (wsV RL 214 RX11 yX11_digest wsX11_digest) := goodIn_app (goodIn_of _ (by decide +kernel)) ggL_law_X11_digest


