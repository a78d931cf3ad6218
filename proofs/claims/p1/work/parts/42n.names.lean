set_option maxRecDepth 20000 in
theorem ggX11_freedByAll_X11_isNoCrew : GoodIn wsX11_freedByAll wsX11_isNoCrew := goodIn_r _ [4, 5, 6, 3, 7] (by decide +kernel) (by decide +kernel)
set_option maxRecDepth 20000 in
theorem gX11_freedByAll_X11_isNoCrew : GoodIn wsX11_freedByAll (va_wsS RX11 150 yX11_isNoCrew wsX11_isNoCrew) := goodIn_app (goodIn_of _ (by decide +kernel)) ggX11_freedByAll_X11_isNoCrew
set_option maxRecDepth 20000 in
theorem ggX11_freedByAll_X11_start : GoodIn wsX11_freedByAll wsX11_start := goodIn_r _ [11, 12, 13, 14, 15, 3, 16, 314, 315] (by decide +kernel) (by decide +kernel)
set_option maxRecDepth 20000 in
theorem gX11_freedByAll_X11_start : GoodIn wsX11_freedByAll (wsV RX11 42 RX11 yX11_start wsX11_start) := goodIn_app (goodIn_of _ (by decide +kernel)) ggX11_freedByAll_X11_start
set_option maxRecDepth 20000 in
theorem ggX11_freedByAll_X11_freedByAllNow : GoodIn wsX11_freedByAll wsX11_freedByAllNow := goodIn_r _ [20, 21, 22, 23, 24, 25, 26, 27, 28, 29, 30, 31, 32, 33, 34, 35, 36, 37, 38, 39, 40, 41, 42, 43, 44, 45, 46, 47, 48, 49, 50, 51, 52, 53, 54, 55, 56, 57, 58, 59, 60, 61, 62, 63, 64, 65, 66, 67, 68, 69, 70, 71, 72, 73, 74, 75, 76, 77, 78, 79, 80, 81, 82, 83, 84, 85, 86, 87, 88, 89, 90, 91, 92, 93, 94, 95, 96, 97, 98, 99, 100, 101, 102, 103, 104, 105, 106, 107, 108, 109, 110, 111, 112, 113, 114, 115, 116, 117, 118, 119, 120, 121, 122, 123, 124, 125, 126, 127, 128, 129, 130, 131, 132, 133, 134, 135, 136, 137, 138, 139, 140, 141, 142, 143, 144, 145, 146, 147, 148, 149, 150, 151, 152, 153, 154, 155, 156, 157, 158, 159, 160, 161, 162, 163, 164, 165, 166, 167, 168, 169, 170, 171, 172, 173, 174, 175, 176, 177, 178, 179, 180, 181, 182, 183, 184, 185, 186, 187, 188, 189, 190, 191, 192, 193, 194, 195, 196, 197, 198, 199, 200, 201, 202, 203, 204, 205, 206, 207, 208, 209, 210, 211, 212, 213, 214, 215, 216, 217, 218, 219, 220, 221, 222, 223, 224, 225, 226, 227, 228, 229, 230, 231, 232, 233, 234, 235, 236, 237, 238, 239, 240, 241, 242, 243, 244, 245, 246, 247, 248, 249, 250, 251, 252, 253, 254, 255, 256, 257, 258, 259, 260, 261, 262, 263, 264, 265, 266, 267, 268, 269, 270, 271, 272, 273, 274, 275, 276, 277, 278, 279, 280, 281, 282, 283, 284, 285, 286, 287, 288, 289, 290, 291, 292, 293, 294, 295, 296, 297, 298, 299, 300, 301, 302, 303, 304, 305, 306, 307, 308, 309, 310, 311, 312, 313, 314, 315, 316, 317, 318, 319, 320, 321, 322, 323, 324, 325, 326, 327, 328, 329, 330, 331, 332, 333, 334, 335, 336, 337, 338, 339, 340, 341, 342, 343, 344] (by decide +kernel) (by decide +kernel)
set_option maxRecDepth 20000 in
theorem gX11_freedByAll_X11_freedByAllNow : GoodIn wsX11_freedByAll (wsV RX11 270 RX11 yX11_freedByAllNow wsX11_freedByAllNow) := goodIn_app (goodIn_of _ (by decide +kernel)) ggX11_freedByAll_X11_freedByAllNow
theorem dX11_freedByAll_0 : decode cX11_freedByAll 0 = .ok (.aload_n 0, 1) := by decide +kernel
theorem dX11_freedByAll_1 : decode cX11_freedByAll 1 = .ok (.iload_n 1, 1) := by decide +kernel
theorem dX11_freedByAll_2 : decode cX11_freedByAll 2 = .ok (.invokestatic 150, 3) := by decide +kernel
theorem dX11_freedByAll_5 : decode cX11_freedByAll 5 = .ok (.iconst 1, 1) := by decide +kernel
theorem dX11_freedByAll_6 : decode cX11_freedByAll 6 = .ok (.invokevirtual 42, 3) := by decide +kernel
theorem dX11_freedByAll_9 : decode cX11_freedByAll 9 = .ok (.ifCond .eq 7, 3) := by decide +kernel
theorem dX11_freedByAll_12 : decode cX11_freedByAll 12 = .ok (.iconst 0, 1) := by decide +kernel
theorem dX11_freedByAll_13 : decode cX11_freedByAll 13 = .ok (.goto 8, 3) := by decide +kernel
theorem dX11_freedByAll_16 : decode cX11_freedByAll 16 = .ok (.aload_n 0, 1) := by decide +kernel
theorem dX11_freedByAll_17 : decode cX11_freedByAll 17 = .ok (.iload_n 1, 1) := by decide +kernel
theorem dX11_freedByAll_18 : decode cX11_freedByAll 18 = .ok (.invokevirtual 270, 3) := by decide +kernel
theorem dX11_freedByAll_21 : decode cX11_freedByAll 21 = .ok (.ireturn, 1) := by decide +kernel
theorem dX11_add_0 : decode cX11_add 0 = .ok (.lload_n 0, 1) := by decide +kernel
theorem dX11_add_1 : decode cX11_add 1 = .ok (.ldc2_w 273, 3) := by decide +kernel
theorem dX11_add_4 : decode cX11_add 4 = .ok (.lmul, 1) := by decide +kernel
theorem dX11_add_5 : decode cX11_add 5 = .ok (.lload_n 2, 1) := by decide +kernel
theorem dX11_add_6 : decode cX11_add 6 = .ok (.ladd, 1) := by decide +kernel
theorem dX11_add_7 : decode cX11_add 7 = .ok (.lreturn, 1) := by decide +kernel
set_option maxRecDepth 20000 in
theorem ggX11_digest_X11_count : GoodIn wsX11_digest wsX11_count := goodIn_r _ [18, 3, 4, 19, 20, 9, 12, 21, 22, 23, 24, 25, 26, 27, 28, 29, 30, 17, 31, 32, 33, 34, 35, 36, 37, 38, 39, 40, 41, 42, 43, 44, 45, 46, 47, 48, 49, 50, 51, 52, 53, 54, 55, 56, 57, 58, 59, 60, 61, 62, 63, 64, 65, 66, 67, 68, 69, 70, 71, 72, 73, 74, 75, 76, 10, 11, 77, 78, 79, 80, 81, 82, 83, 84, 85, 86, 87, 88, 89, 90, 91, 92, 93, 94, 95, 96, 97, 98, 99, 100, 101, 102, 103, 104, 105, 106, 107, 108, 109, 110, 111, 112, 113, 114, 115, 116, 117, 118, 119, 120, 121, 122, 123, 124, 125, 126, 127, 13, 128, 394, 395, 396, 397, 398, 399, 400, 401, 402, 403, 404, 405, 412, 413, 414, 409, 410, 411, 406, 407, 408, 415, 416, 417, 418, 419, 420, 421, 422, 423, 424] (by decide +kernel) (by decide +kernel)
set_option maxRecDepth 20000 in
theorem gX11_digest_X11_count : GoodIn wsX11_digest (wsV RX11 250 RX11 yX11_count wsX11_count) := goodIn_app (goodIn_of _ (by decide +kernel)) ggX11_digest_X11_count
set_option maxRecDepth 20000 in
theorem ggX11_digest_X11_add : GoodIn wsX11_digest wsX11_add := goodIn_r _ [131, 132] (by decide +kernel) (by decide +kernel)
set_option maxRecDepth 20000 in
theorem gX11_digest_X11_add : GoodIn wsX11_digest (va_wsS RX11 277 yX11_add wsX11_add) := goodIn_app (goodIn_of _ (by decide +kernel)) ggX11_digest_X11_add
set_option maxRecDepth 20000 in
theorem ggX11_digest_Jx4a65c_size_8abf5 : GoodIn wsX11_digest wsJx4a65c_size_8abf5 := goodIn_r _ [26, 27, 412, 413, 414] (by decide +kernel) (by decide +kernel)
set_option maxRecDepth 20000 in
theorem gX11_digest_Jx4a65c_size_8abf5 : GoodIn wsX11_digest (wsV RX11 28 RJx4a65c yJx4a65c_size_8abf5 wsJx4a65c_size_8abf5) := goodIn_app (goodIn_of _ (by decide +kernel)) ggX11_digest_Jx4a65c_size_8abf5
set_option maxRecDepth 20000 in
theorem ggX11_digest_X6_owes : GoodIn wsX11_digest wsX6_owes := goodIn_r _ [369, 176, 191, 38, 86, 23, 24, 25, 26, 27, 370, 371, 372, 35, 373, 42, 43, 44, 45, 46, 47, 48, 49, 50, 51, 52, 53, 54, 55, 56, 57, 58, 396, 397, 398, 399, 400, 401, 402, 403, 404, 405, 412, 413, 414] (by decide +kernel) (by decide +kernel)
set_option maxRecDepth 20000 in
theorem gX11_digest_X6_owes : GoodIn wsX11_digest (wsV RX11 164 RX6 yX6_owes wsX6_owes) := goodIn_app (goodIn_of _ (by decide +kernel)) ggX11_digest_X6_owes
set_option maxRecDepth 20000 in
theorem ggX11_digest_X11_freedByAllNow : GoodIn wsX11_digest wsX11_freedByAllNow := goodIn_r _ [377, 3, 20, 12, 13, 378, 169, 170, 171, 35, 172, 173, 174, 39, 40, 37, 175, 176, 38, 177, 178, 179, 180, 181, 182, 183, 184, 185, 186, 187, 188, 92, 189, 190, 191, 192, 193, 194, 195, 117, 118, 196, 197, 25, 198, 199, 200, 201, 202, 203, 204, 205, 58, 206, 207, 208, 209, 210, 211, 212, 213, 214, 215, 86, 23, 24, 26, 27, 42, 43, 44, 45, 46, 47, 48, 49, 50, 51, 52, 53, 54, 55, 56, 57, 216, 217, 218, 62, 219, 220, 221, 222, 64, 65, 223, 224, 225, 226, 227, 228, 229, 71, 72, 230, 231, 232, 233, 234, 235, 236, 237, 238, 239, 240, 241, 242, 243, 244, 245, 246, 247, 248, 249, 250, 251, 252, 253, 254, 255, 256, 257, 258, 259, 260, 261, 262, 104, 105, 106, 263, 264, 265, 266, 267, 268, 269, 270, 271, 272, 273, 274, 275, 276, 277, 278, 279, 280, 281, 282, 283, 284, 285, 286, 110, 111, 287, 288, 289, 290, 291, 292, 293, 294, 295, 296, 297, 298, 299, 300, 301, 302, 303, 304, 305, 306, 307, 308, 309, 310, 311, 312, 313, 314, 315, 95, 96, 316, 114, 115, 116, 102, 107, 108, 112, 22, 379, 371, 372, 373, 380, 381, 382, 383, 321, 322, 323, 324, 325, 326, 327, 328, 329, 330, 331, 332, 333, 334, 335, 336, 337, 338, 339, 340, 341, 342, 67, 68, 69, 70, 168, 154, 155, 156, 157, 33, 34, 36, 41, 59, 60, 61, 63, 66, 343, 344, 345, 346, 347, 348, 349, 350, 351, 352, 98, 99, 100, 101, 103, 109, 113, 353, 121, 122, 123, 87, 88, 89, 90, 91, 93, 94, 97, 119, 120, 77, 384, 363, 364, 365, 358, 359, 360, 361, 362, 394, 395, 396, 397, 398, 399, 400, 401, 402, 403, 404, 405, 419, 420, 421, 422, 423, 424, 412, 413, 414, 406, 407, 408, 409, 410, 411, 415, 416, 417, 418] (by decide +kernel) (by decide +kernel)
set_option maxRecDepth 20000 in
theorem gX11_digest_X11_freedByAllNow : GoodIn wsX11_digest (wsV RX11 270 RX11 yX11_freedByAllNow wsX11_freedByAllNow) := goodIn_app (goodIn_of _ (by decide +kernel)) ggX11_digest_X11_freedByAllNow
theorem dX11_digest_0 : decode cX11_digest 0 = .ok (.aload_n 0, 1) := by decide +kernel
theorem dX11_digest_1 : decode cX11_digest 1 = .ok (.iconst 0, 1) := by decide +kernel
theorem dX11_digest_2 : decode cX11_digest 2 = .ok (.putfield 16, 3) := by decide +kernel
theorem dX11_digest_5 : decode cX11_digest 5 = .ok (.ldc2_w 275, 3) := by decide +kernel
theorem dX11_digest_8 : decode cX11_digest 8 = .ok (.lstore_n 1, 1) := by decide +kernel
theorem dX11_digest_9 : decode cX11_digest 9 = .ok (.iconst 0, 1) := by decide +kernel
theorem dX11_digest_10 : decode cX11_digest 10 = .ok (.istore_n 3, 1) := by decide +kernel
theorem dX11_digest_11 : decode cX11_digest 11 = .ok (.iload_n 3, 1) := by decide +kernel
theorem dX11_digest_12 : decode cX11_digest 12 = .ok (.bipush 13, 2) := by decide +kernel
theorem dX11_digest_14 : decode cX11_digest 14 = .ok (.if_icmp .ge 20, 3) := by decide +kernel
theorem dX11_digest_17 : decode cX11_digest 17 = .ok (.lload_n 1, 1) := by decide +kernel
theorem dX11_digest_18 : decode cX11_digest 18 = .ok (.aload_n 0, 1) := by decide +kernel
theorem dX11_digest_19 : decode cX11_digest 19 = .ok (.iload_n 3, 1) := by decide +kernel
theorem dX11_digest_20 : decode cX11_digest 20 = .ok (.invokevirtual 250, 3) := by decide +kernel
theorem dX11_digest_23 : decode cX11_digest 23 = .ok (.i2l, 1) := by decide +kernel
theorem dX11_digest_24 : decode cX11_digest 24 = .ok (.invokestatic 277, 3) := by decide +kernel
theorem dX11_digest_27 : decode cX11_digest 27 = .ok (.lstore_n 1, 1) := by decide +kernel
theorem dX11_digest_28 : decode cX11_digest 28 = .ok (.iinc 3 1, 3) := by decide +kernel
theorem dX11_digest_31 : decode cX11_digest 31 = .ok (.goto (-20), 3) := by decide +kernel
theorem dX11_digest_34 : decode cX11_digest 34 = .ok (.iconst 0, 1) := by decide +kernel
theorem dX11_digest_35 : decode cX11_digest 35 = .ok (.istore_n 3, 1) := by decide +kernel
theorem dX11_digest_36 : decode cX11_digest 36 = .ok (.iload_n 3, 1) := by decide +kernel
theorem dX11_digest_37 : decode cX11_digest 37 = .ok (.aload_n 0, 1) := by decide +kernel
theorem dX11_digest_38 : decode cX11_digest 38 = .ok (.getfield 10, 3) := by decide +kernel
theorem dX11_digest_41 : decode cX11_digest 41 = .ok (.getfield 24, 3) := by decide +kernel
theorem dX11_digest_44 : decode cX11_digest 44 = .ok (.invokevirtual 28, 3) := by decide +kernel
theorem dX11_digest_47 : decode cX11_digest 47 = .ok (.if_icmp .ge 132, 3) := by decide +kernel
theorem dX11_digest_179 : decode cX11_digest 179 = .ok (.iconst 0, 1) := by decide +kernel
theorem dX11_digest_180 : decode cX11_digest 180 = .ok (.istore_n 3, 1) := by decide +kernel
theorem dX11_digest_181 : decode cX11_digest 181 = .ok (.iload_n 3, 1) := by decide +kernel
theorem dX11_digest_182 : decode cX11_digest 182 = .ok (.aload_n 0, 1) := by decide +kernel
theorem dX11_digest_183 : decode cX11_digest 183 = .ok (.getfield 10, 3) := by decide +kernel
theorem dX11_digest_186 : decode cX11_digest 186 = .ok (.getfield 167, 3) := by decide +kernel
theorem dX11_digest_189 : decode cX11_digest 189 = .ok (.invokevirtual 28, 3) := by decide +kernel
theorem dX11_digest_192 : decode cX11_digest 192 = .ok (.if_icmp .ge 40, 3) := by decide +kernel
theorem dX11_digest_232 : decode cX11_digest 232 = .ok (.iconst 0, 1) := by decide +kernel
theorem dX11_digest_233 : decode cX11_digest 233 = .ok (.istore_n 3, 1) := by decide +kernel
theorem dX11_digest_234 : decode cX11_digest 234 = .ok (.iload_n 3, 1) := by decide +kernel
theorem dX11_digest_235 : decode cX11_digest 235 = .ok (.iconst 4, 1) := by decide +kernel
theorem dX11_digest_236 : decode cX11_digest 236 = .ok (.if_icmp .ge 32, 3) := by decide +kernel
theorem dX11_digest_239 : decode cX11_digest 239 = .ok (.lload_n 1, 1) := by decide +kernel
theorem dX11_digest_240 : decode cX11_digest 240 = .ok (.aload_n 0, 1) := by decide +kernel
theorem dX11_digest_241 : decode cX11_digest 241 = .ok (.getfield 10, 3) := by decide +kernel
theorem dX11_digest_244 : decode cX11_digest 244 = .ok (.iload_n 3, 1) := by decide +kernel
theorem dX11_digest_245 : decode cX11_digest 245 = .ok (.invokevirtual 164, 3) := by decide +kernel
theorem dX11_digest_248 : decode cX11_digest 248 = .ok (.i2l, 1) := by decide +kernel
theorem dX11_digest_249 : decode cX11_digest 249 = .ok (.invokestatic 277, 3) := by decide +kernel
theorem dX11_digest_252 : decode cX11_digest 252 = .ok (.aload_n 0, 1) := by decide +kernel
theorem dX11_digest_253 : decode cX11_digest 253 = .ok (.iload_n 3, 1) := by decide +kernel
theorem dX11_digest_254 : decode cX11_digest 254 = .ok (.invokevirtual 270, 3) := by decide +kernel
theorem dX11_digest_257 : decode cX11_digest 257 = .ok (.i2l, 1) := by decide +kernel
theorem dX11_digest_258 : decode cX11_digest 258 = .ok (.invokestatic 277, 3) := by decide +kernel
theorem dX11_digest_261 : decode cX11_digest 261 = .ok (.lstore_n 1, 1) := by decide +kernel
theorem dX11_digest_262 : decode cX11_digest 262 = .ok (.iinc 3 1, 3) := by decide +kernel
theorem dX11_digest_265 : decode cX11_digest 265 = .ok (.goto (-31), 3) := by decide +kernel
theorem dX11_digest_268 : decode cX11_digest 268 = .ok (.iconst 0, 1) := by decide +kernel
theorem dX11_digest_269 : decode cX11_digest 269 = .ok (.istore_n 3, 1) := by decide +kernel
theorem dX11_digest_270 : decode cX11_digest 270 = .ok (.iload_n 3, 1) := by decide +kernel
theorem dX11_digest_271 : decode cX11_digest 271 = .ok (.aload_n 0, 1) := by decide +kernel
theorem dX11_digest_272 : decode cX11_digest 272 = .ok (.getfield 10, 3) := by decide +kernel
theorem dX11_digest_275 : decode cX11_digest 275 = .ok (.getfield 193, 3) := by decide +kernel
theorem dX11_digest_278 : decode cX11_digest 278 = .ok (.invokevirtual 28, 3) := by decide +kernel
theorem dX11_digest_281 : decode cX11_digest 281 = .ok (.if_icmp .ge 51, 3) := by decide +kernel
theorem dX11_digest_332 : decode cX11_digest 332 = .ok (.lload_n 1, 1) := by decide +kernel
theorem dX11_digest_333 : decode cX11_digest 333 = .ok (.lreturn, 1) := by decide +kernel
