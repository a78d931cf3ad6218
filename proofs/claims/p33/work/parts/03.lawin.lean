set_option maxRecDepth 20000 in
theorem in0_wsL_law0_r1 : ∀ w ∈ wsL_law0_r1, w ∈ lw_tbl := fun w h => (goodIn_r wsL_law0_r1 [52, 53, 35, 54, 55, 56, 57, 58, 59, 60, 75, 62, 76, 64, 77, 66, 78, 68, 79, 70, 115, 80, 81, 82] (by decide +kernel) (by decide +kernel) w h).1
set_option maxRecDepth 20000 in
theorem in0_wsL_law0_r2 : ∀ w ∈ wsL_law0_r2, w ∈ lw_tbl := fun w h => (goodIn_r wsL_law0_r2 [83, 84, 85, 86, 87, 72, 73, 36, 74, 654, 655, 34, 656, 657, 650, 651, 652, 653, 658, 659, 660, 661, 662, 37] (by decide +kernel) (by decide +kernel) w h).1
set_option maxRecDepth 20000 in
theorem in0_wsL_law0_r3 : ∀ w ∈ wsL_law0_r3, w ∈ lw_tbl := fun w h => (goodIn_r wsL_law0_r3 [663, 116, 117, 118, 119, 120, 41, 188, 42, 204, 43, 206, 207, 208, 249, 212, 213, 214, 216, 218, 220, 222, 224, 226] (by decide +kernel) (by decide +kernel) w h).1
set_option maxRecDepth 20000 in
theorem in0_wsL_law0_r4 : ∀ w ∈ wsL_law0_r4, w ∈ lw_tbl := fun w h => (goodIn_r wsL_law0_r4 [210, 209, 250, 251, 252, 253, 254, 256, 1, 257, 258, 44, 274, 275, 276, 281, 2, 282, 283, 285, 3, 286, 288, 289] (by decide +kernel) (by decide +kernel) w h).1
set_option maxRecDepth 20000 in
theorem in0_wsL_law0_r5 : ∀ w ∈ wsL_law0_r5, w ∈ lw_tbl := fun w h => (goodIn_r wsL_law0_r5 [290, 291, 292, 293, 294, 297, 4, 298, 299, 300, 301, 302, 309, 303, 304, 45, 305, 306, 307, 308, 319, 320, 321, 322] (by decide +kernel) (by decide +kernel) w h).1
set_option maxRecDepth 20000 in
theorem in0_wsL_law0_r6 : ∀ w ∈ wsL_law0_r6, w ∈ lw_tbl := fun w h => (goodIn_r wsL_law0_r6 [323, 325, 6, 326, 327, 329, 7, 330, 331, 332, 333, 334, 335, 336, 337, 338, 340, 8, 341, 345, 9, 346, 347, 349] (by decide +kernel) (by decide +kernel) w h).1
set_option maxRecDepth 20000 in
theorem in0_wsL_law0_r7 : ∀ w ∈ wsL_law0_r7, w ∈ lw_tbl := fun w h => (goodIn_r wsL_law0_r7 [10, 350, 351, 353, 11, 354, 355, 357, 12, 358, 359, 361, 13, 362, 363, 365, 14, 366, 367, 369, 15, 370, 371, 372] (by decide +kernel) (by decide +kernel) w h).1
set_option maxRecDepth 20000 in
theorem in0_wsL_law0_r8 : ∀ w ∈ wsL_law0_r8, w ∈ lw_tbl := fun w h => (goodIn_r wsL_law0_r8 [373, 374, 376, 16, 377, 378, 379, 46, 380, 381, 382, 383, 421, 422, 423, 424, 435, 47, 425, 427, 19, 428, 430, 432] (by decide +kernel) (by decide +kernel) w h).1
set_option maxRecDepth 20000 in
theorem in0_wsL_law0_r9 : ∀ w ∈ wsL_law0_r9, w ∈ lw_tbl := fun w h => (goodIn_r wsL_law0_r9 [20, 433, 437, 438, 439, 443, 445, 441, 440, 454, 456, 21, 457, 458, 459, 460, 461, 463, 464, 465, 468, 469, 470, 584] (by decide +kernel) (by decide +kernel) w h).1
set_option maxRecDepth 20000 in
theorem in0_wsL_law0_r10 : ∀ w ∈ wsL_law0_r10, w ∈ lw_tbl := fun w h => (goodIn_r wsL_law0_r10 [585, 586, 587, 588, 590, 28, 591, 592, 594, 29, 595, 596, 598, 30, 599, 600, 602, 31, 603, 408, 409, 410, 411, 412] (by decide +kernel) (by decide +kernel) w h).1
set_option maxRecDepth 20000 in
theorem in0_wsL_law0_r11 : ∀ w ∈ wsL_law0_r11, w ∈ lw_tbl := fun w h => (goodIn_r wsL_law0_r11 [414, 17, 415, 416, 418, 18, 419, 605, 606, 607, 608, 310, 311, 312, 313, 317, 5, 318, 384, 385, 386, 387, 390, 48] (by decide +kernel) (by decide +kernel) w h).1
set_option maxRecDepth 20000 in
theorem in0_wsL_law0_r12 : ∀ w ∈ wsL_law0_r12, w ∈ lw_tbl := fun w h => (goodIn_r wsL_law0_r12 [392, 393, 394, 395, 397, 399, 471, 472, 473, 474, 476, 49, 478, 479, 480, 485, 481, 483, 503, 504, 505, 506, 507, 508] (by decide +kernel) (by decide +kernel) w h).1
set_option maxRecDepth 20000 in
theorem in0_wsL_law0_r13 : ∀ w ∈ wsL_law0_r13, w ∈ lw_tbl := fun w h => (goodIn_r wsL_law0_r13 [509, 510, 513, 50, 515, 516, 517, 518, 525, 527, 529, 519, 521, 523, 544, 545, 546, 547, 548, 550, 23, 551, 563, 564] (by decide +kernel) (by decide +kernel) w h).1
set_option maxRecDepth 20000 in
theorem in0_wsL_law0_r14 : ∀ w ∈ wsL_law0_r14, w ∈ lw_tbl := fun w h => (goodIn_r wsL_law0_r14 [565, 566, 569, 25, 570, 571, 573, 26, 574, 575, 576, 577, 578, 579, 581, 27, 582, 554, 555, 556, 557, 560, 24, 561] (by decide +kernel) (by decide +kernel) w h).1
set_option maxRecDepth 20000 in
theorem in0_wsL_law0_r15 : ∀ w ∈ wsL_law0_r15, w ∈ lw_tbl := fun w h => (goodIn_r wsL_law0_r15 [664, 665, 666, 667, 626, 627, 628, 668, 669, 670, 671, 672, 674, 33, 675, 677, 632, 633, 634, 617, 618, 619, 620, 621] (by decide +kernel) (by decide +kernel) w h).1
set_option maxRecDepth 20000 in
theorem in0_wsL_law0_r16 : ∀ w ∈ wsL_law0_r16, w ∈ lw_tbl := fun w h => (goodIn_r wsL_law0_r16 [622, 623, 624, 625, 631, 635, 636, 495, 496, 497, 498, 500, 22, 501, 637, 610, 611, 612, 613, 615, 32, 616, 638, 639] (by decide +kernel) (by decide +kernel) w h).1
set_option maxRecDepth 20000 in
theorem in0_wsL_law0_r17 : ∀ w ∈ wsL_law0_r17, w ∈ lw_tbl := fun w h => (goodIn_r wsL_law0_r17 [640, 641, 642, 643, 644, 645, 646, 648, 647, 51, 649, 609, 494] (by decide +kernel) (by decide +kernel) w h).1
set_option maxRecDepth 20000 in
theorem in0_wsX50 : ∀ w ∈ wsX50, w ∈ lw_tbl := fun w h => (goodIn_r wsX50 [88, 90, 92, 94, 96, 98, 100, 102, 104, 106, 108, 110, 112] (by decide +kernel) (by decide +kernel) w h).1
set_option maxRecDepth 20000 in
theorem in0_wsX30 : ∀ w ∈ wsX30, w ∈ lw_tbl := fun w h => (goodIn_r wsX30 [228, 230, 232, 234, 236, 238, 240, 242, 244, 246] (by decide +kernel) (by decide +kernel) w h).1
set_option maxRecDepth 20000 in
theorem in0_wsX10 : ∀ w ∈ wsX10, w ∈ lw_tbl := fun w h => (goodIn_r wsX10 [401, 403, 405] (by decide +kernel) (by decide +kernel) w h).1
set_option maxRecDepth 20000 in
theorem in0_wsX00 : ∀ w ∈ wsX00, w ∈ lw_tbl := fun w h => (goodIn_r wsX00 [487, 489, 491] (by decide +kernel) (by decide +kernel) w h).1
set_option maxRecDepth 20000 in
theorem in0_wsX40 : ∀ w ∈ wsX40, w ∈ lw_tbl := fun w h => (goodIn_r wsX40 [531, 533, 535, 537, 539, 541] (by decide +kernel) (by decide +kernel) w h).1
set_option maxRecDepth 20000 in
theorem in0_wsX20 : ∀ w ∈ wsX20, w ∈ lw_tbl := fun w h => (goodIn_r wsX20 [447, 449, 451] (by decide +kernel) (by decide +kernel) w h).1
theorem wsL_law_in0 : ∀ w ∈ wsL_law0, w ∈ lw_tbl := fun w h => (List.mem_append.mp h).elim (fun h => (List.mem_append.mp h).elim (fun h => (List.mem_append.mp h).elim (fun h => (List.mem_append.mp h).elim (fun h => (List.mem_append.mp h).elim (fun h => (List.mem_append.mp h).elim (fun h => (List.mem_append.mp h).elim (fun h => (List.mem_append.mp h).elim (fun h => in0_wsL_law0_r1 w h) (fun h => (List.mem_append.mp h).elim (fun h => in0_wsL_law0_r2 w h) (fun h => (List.mem_append.mp h).elim (fun h => in0_wsL_law0_r3 w h) (fun h => (List.mem_append.mp h).elim (fun h => in0_wsL_law0_r4 w h) (fun h => (List.mem_append.mp h).elim (fun h => in0_wsL_law0_r5 w h) (fun h => (List.mem_append.mp h).elim (fun h => in0_wsL_law0_r6 w h) (fun h => (List.mem_append.mp h).elim (fun h => in0_wsL_law0_r7 w h) (fun h => (List.mem_append.mp h).elim (fun h => in0_wsL_law0_r8 w h) (fun h => (List.mem_append.mp h).elim (fun h => in0_wsL_law0_r9 w h) (fun h => (List.mem_append.mp h).elim (fun h => in0_wsL_law0_r10 w h) (fun h => (List.mem_append.mp h).elim (fun h => in0_wsL_law0_r11 w h) (fun h => (List.mem_append.mp h).elim (fun h => in0_wsL_law0_r12 w h) (fun h => (List.mem_append.mp h).elim (fun h => in0_wsL_law0_r13 w h) (fun h => (List.mem_append.mp h).elim (fun h => in0_wsL_law0_r14 w h) (fun h => (List.mem_append.mp h).elim (fun h => in0_wsL_law0_r15 w h) (fun h => (List.mem_append.mp h).elim (fun h => in0_wsL_law0_r16 w h) (fun h => in0_wsL_law0_r17 w h))))))))))))))))) (fun h => in0_wsX50 w h)) (fun h => in0_wsX30 w h)) (fun h => in0_wsX10 w h)) (fun h => in0_wsX00 w h)) (fun h => in0_wsX40 w h)) (fun h => in0_wsX20 w h)) (fun h => (absurd h List.not_mem_nil))
