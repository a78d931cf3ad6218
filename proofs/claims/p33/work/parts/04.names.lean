theorem wsL_law_x0 : ∀ w ∈ (vx_atS RX5 77 "java/lang/IllegalArgumentException" ["java/lang/RuntimeException", "java/lang/Exception"]).filter goodWord, w ∈ lw_tbl := by decide +kernel
theorem wsL_law_x1 : ∀ w ∈ (vx_atS RX5 84 "java/lang/IllegalStateException" ["java/lang/RuntimeException", "java/lang/Exception"]).filter goodWord, w ∈ lw_tbl := by decide +kernel
theorem wsL_law_x2 : ∀ w ∈ (vx_atS RX5 181 "java/lang/IndexOutOfBoundsException" ["java/lang/RuntimeException", "java/lang/Exception"]).filter goodWord, w ∈ lw_tbl := by decide +kernel
theorem wsL_law_in : ∀ w ∈ wsL_law, w ∈ lw_tbl := fun w h => (List.mem_append.mp h).elim (fun h => (List.mem_append.mp h).elim (fun h => (List.mem_append.mp h).elim (fun h => wsL_law_in0 w h) (fun h => wsL_law_x0 w h)) (fun h => wsL_law_x1 w h)) (fun h => wsL_law_x2 w h)
theorem inlX0 : ∀ w ∈ wsX00, w ∈ wsL_law := fun _ h => List.mem_append_left _ (List.mem_append_left _ (List.mem_append_left _ (List.mem_append_left _ (List.mem_append_left _ (List.mem_append_left _ (List.mem_append_right _ h))))))
theorem inX0 : ∀ w ∈ wsX00, w ∈ lw_tbl := fun w h => wsL_law_in w (inlX0 w h)
theorem inlX1 : ∀ w ∈ wsX10, w ∈ wsL_law := fun _ h => List.mem_append_left _ (List.mem_append_left _ (List.mem_append_left _ (List.mem_append_left _ (List.mem_append_left _ (List.mem_append_left _ (List.mem_append_left _ (List.mem_append_right _ h)))))))
theorem inX1 : ∀ w ∈ wsX10, w ∈ lw_tbl := fun w h => wsL_law_in w (inlX1 w h)
theorem inlX2 : ∀ w ∈ wsX20, w ∈ wsL_law := fun _ h => List.mem_append_left _ (List.mem_append_left _ (List.mem_append_left _ (List.mem_append_left _ (List.mem_append_right _ h))))
theorem inX2 : ∀ w ∈ wsX20, w ∈ lw_tbl := fun w h => wsL_law_in w (inlX2 w h)
theorem inlX3 : ∀ w ∈ wsX30, w ∈ wsL_law := fun _ h => List.mem_append_left _ (List.mem_append_left _ (List.mem_append_left _ (List.mem_append_left _ (List.mem_append_left _ (List.mem_append_left _ (List.mem_append_left _ (List.mem_append_left _ (List.mem_append_right _ h))))))))
theorem inX3 : ∀ w ∈ wsX30, w ∈ lw_tbl := fun w h => wsL_law_in w (inlX3 w h)
theorem inlX4 : ∀ w ∈ wsX40, w ∈ wsL_law := fun _ h => List.mem_append_left _ (List.mem_append_left _ (List.mem_append_left _ (List.mem_append_left _ (List.mem_append_left _ (List.mem_append_right _ h)))))
theorem inX4 : ∀ w ∈ wsX40, w ∈ lw_tbl := fun w h => wsL_law_in w (inlX4 w h)
theorem inlX5 : ∀ w ∈ wsX50, w ∈ wsL_law := fun _ h => List.mem_append_left _ (List.mem_append_left _ (List.mem_append_left _ (List.mem_append_left _ (List.mem_append_left _ (List.mem_append_left _ (List.mem_append_left _ (List.mem_append_left _ (List.mem_append_left _ (List.mem_append_right _ h)))))))))
theorem inX5 : ∀ w ∈ wsX50, w ∈ lw_tbl := fun w h => wsL_law_in w (inlX5 w h)
theorem inX6 : ∀ w ∈ wsX60, w ∈ lw_tbl := by decide +kernel
theorem inX7 : ∀ w ∈ wsX70, w ∈ lw_tbl := by decide +kernel
theorem inX8 : ∀ w ∈ wsX80, w ∈ lw_tbl := by decide +kernel
theorem inX9 : ∀ w ∈ wsX90, w ∈ lw_tbl := by decide +kernel
theorem inX10 : ∀ w ∈ wsX100, w ∈ lw_tbl := by decide +kernel
theorem inX11 : ∀ w ∈ wsX110, w ∈ lw_tbl := by decide +kernel
theorem inJx145de : ∀ w ∈ wsJx145de0, w ∈ lw_tbl := by decide +kernel
theorem inJ6 : ∀ w ∈ wsJ60, w ∈ lw_tbl := by decide +kernel
theorem inJ13 : ∀ w ∈ wsJ130, w ∈ lw_tbl := by decide +kernel
theorem inJ9 : ∀ w ∈ wsJ90, w ∈ lw_tbl := by decide +kernel
theorem inJ0 : ∀ w ∈ wsJ00, w ∈ lw_tbl := by decide +kernel
theorem inJ10 : ∀ w ∈ wsJ100, w ∈ lw_tbl := by decide +kernel
theorem inJ7 : ∀ w ∈ wsJ70, w ∈ lw_tbl := by decide +kernel
theorem dX0_init_0 : decode cX0_init 0 = .ok (.aload_n 0, 1) := by decide +kernel
theorem dX0_init_1 : decode cX0_init 1 = .ok (.invokespecial 3, 3) := by decide +kernel
theorem dX0_init_4 : decode cX0_init 4 = .ok (.aload_n 0, 1) := by decide +kernel
theorem dX0_init_5 : decode cX0_init 5 = .ok (.iconst 0, 1) := by decide +kernel
theorem dX0_init_6 : decode cX0_init 6 = .ok (.putfield 9, 3) := by decide +kernel
theorem dX0_init_9 : decode cX0_init 9 = .ok (.aload_n 0, 1) := by decide +kernel
theorem dX0_init_10 : decode cX0_init 10 = .ok (.iload_n 1, 1) := by decide +kernel
theorem dX0_init_11 : decode cX0_init 11 = .ok (.putfield 15, 3) := by decide +kernel
theorem dX0_init_14 : decode cX0_init 14 = .ok (.aload_n 0, 1) := by decide +kernel
theorem dX0_init_15 : decode cX0_init 15 = .ok (.lload_n 2, 1) := by decide +kernel
theorem dX0_init_16 : decode cX0_init 16 = .ok (.putfield 18, 3) := by decide +kernel
theorem dX0_init_19 : decode cX0_init 19 = .ok (.return_, 1) := by decide +kernel
theorem dX1_init_0 : decode cX1_init 0 = .ok (.aload_n 0, 1) := by decide +kernel
theorem dX1_init_1 : decode cX1_init 1 = .ok (.invokespecial 1, 3) := by decide +kernel
theorem dX1_init_4 : decode cX1_init 4 = .ok (.aload_n 0, 1) := by decide +kernel
theorem dX1_init_5 : decode cX1_init 5 = .ok (.iload_n 1, 1) := by decide +kernel
theorem dX1_init_6 : decode cX1_init 6 = .ok (.putfield 7, 3) := by decide +kernel
theorem dX1_init_9 : decode cX1_init 9 = .ok (.aload_n 0, 1) := by decide +kernel
theorem dX1_init_10 : decode cX1_init 10 = .ok (.iload_n 2, 1) := by decide +kernel
theorem dX1_init_11 : decode cX1_init 11 = .ok (.putfield 13, 3) := by decide +kernel
theorem dX1_init_14 : decode cX1_init 14 = .ok (.aload_n 0, 1) := by decide +kernel
theorem dX1_init_15 : decode cX1_init 15 = .ok (.iload_n 3, 1) := by decide +kernel
theorem dX1_init_16 : decode cX1_init 16 = .ok (.putfield 16, 3) := by decide +kernel
theorem dX1_init_19 : decode cX1_init 19 = .ok (.return_, 1) := by decide +kernel
set_option maxRecDepth 20000 in
theorem ggX2_init_J7_fill_53178 : GoodIn wsX2_init wsJ7_fill_53178 := goodIn_r _ [11] (by decide +kernel) (by decide +kernel)
set_option maxRecDepth 20000 in
theorem gX2_init_J7_fill_53178 : GoodIn wsX2_init (va_wsS RX2 22 yJ7_fill_53178 wsJ7_fill_53178) := goodIn_app (goodIn_of _ (by decide +kernel)) ggX2_init_J7_fill_53178
theorem dX2_init_0 : decode cX2_init 0 = .ok (.aload_n 0, 1) := by decide +kernel
theorem dX2_init_1 : decode cX2_init 1 = .ok (.invokespecial 3, 3) := by decide +kernel
theorem dX2_init_4 : decode cX2_init 4 = .ok (.aload_n 0, 1) := by decide +kernel
theorem dX2_init_5 : decode cX2_init 5 = .ok (.bipush 10, 2) := by decide +kernel
theorem dX2_init_7 : decode cX2_init 7 = .ok (.newarray .int, 2) := by decide +kernel
theorem dX2_init_9 : decode cX2_init 9 = .ok (.putfield 9, 3) := by decide +kernel
theorem dX2_init_12 : decode cX2_init 12 = .ok (.aload_n 0, 1) := by decide +kernel
theorem dX2_init_13 : decode cX2_init 13 = .ok (.iload_n 1, 1) := by decide +kernel
theorem dX2_init_14 : decode cX2_init 14 = .ok (.putfield 15, 3) := by decide +kernel
theorem dX2_init_17 : decode cX2_init 17 = .ok (.aload_n 0, 1) := by decide +kernel
theorem dX2_init_18 : decode cX2_init 18 = .ok (.iload_n 2, 1) := by decide +kernel
theorem dX2_init_19 : decode cX2_init 19 = .ok (.putfield 19, 3) := by decide +kernel
theorem dX2_init_22 : decode cX2_init 22 = .ok (.aload_n 0, 1) := by decide +kernel
theorem dX2_init_23 : decode cX2_init 23 = .ok (.getfield 9, 3) := by decide +kernel
theorem dX2_init_26 : decode cX2_init 26 = .ok (.iconst (-1), 1) := by decide +kernel
theorem dX2_init_27 : decode cX2_init 27 = .ok (.invokestatic 22, 3) := by decide +kernel
theorem dX2_init_30 : decode cX2_init 30 = .ok (.return_, 1) := by decide +kernel
theorem dX3_init_0 : decode cX3_init 0 = .ok (.aload_n 0, 1) := by decide +kernel
theorem dX3_init_1 : decode cX3_init 1 = .ok (.invokespecial 3, 3) := by decide +kernel
theorem dX3_init_4 : decode cX3_init 4 = .ok (.aload_n 0, 1) := by decide +kernel
theorem dX3_init_5 : decode cX3_init 5 = .ok (.bipush 6, 2) := by decide +kernel
theorem dX3_init_7 : decode cX3_init 7 = .ok (.newarray .long, 2) := by decide +kernel
theorem dX3_init_9 : decode cX3_init 9 = .ok (.putfield 9, 3) := by decide +kernel
theorem dX3_init_12 : decode cX3_init 12 = .ok (.aload_n 0, 1) := by decide +kernel
theorem dX3_init_13 : decode cX3_init 13 = .ok (.bipush 6, 2) := by decide +kernel
theorem dX3_init_15 : decode cX3_init 15 = .ok (.newarray .int, 2) := by decide +kernel
theorem dX3_init_17 : decode cX3_init 17 = .ok (.putfield 15, 3) := by decide +kernel
theorem dX3_init_20 : decode cX3_init 20 = .ok (.aload_n 0, 1) := by decide +kernel
theorem dX3_init_21 : decode cX3_init 21 = .ok (.iconst 0, 1) := by decide +kernel
theorem dX3_init_22 : decode cX3_init 22 = .ok (.putfield 19, 3) := by decide +kernel
theorem dX3_init_25 : decode cX3_init 25 = .ok (.aload_n 0, 1) := by decide +kernel
theorem dX3_init_26 : decode cX3_init 26 = .ok (.iconst 0, 1) := by decide +kernel
theorem dX3_init_27 : decode cX3_init 27 = .ok (.putfield 23, 3) := by decide +kernel
theorem dX3_init_30 : decode cX3_init 30 = .ok (.aload_n 0, 1) := by decide +kernel
theorem dX3_init_31 : decode cX3_init 31 = .ok (.iconst (-1), 1) := by decide +kernel
theorem dX3_init_32 : decode cX3_init 32 = .ok (.putfield 27, 3) := by decide +kernel
theorem dX3_init_35 : decode cX3_init 35 = .ok (.aload_n 0, 1) := by decide +kernel
theorem dX3_init_36 : decode cX3_init 36 = .ok (.lconst 0, 1) := by decide +kernel
theorem dX3_init_37 : decode cX3_init 37 = .ok (.putfield 30, 3) := by decide +kernel
theorem dX3_init_40 : decode cX3_init 40 = .ok (.aload_n 0, 1) := by decide +kernel
theorem dX3_init_41 : decode cX3_init 41 = .ok (.iconst 0, 1) := by decide +kernel
theorem dX3_init_42 : decode cX3_init 42 = .ok (.putfield 34, 3) := by decide +kernel
theorem dX3_init_45 : decode cX3_init 45 = .ok (.aload_n 0, 1) := by decide +kernel
theorem dX3_init_46 : decode cX3_init 46 = .ok (.iconst 0, 1) := by decide +kernel
theorem dX3_init_47 : decode cX3_init 47 = .ok (.putfield 37, 3) := by decide +kernel
theorem dX3_init_50 : decode cX3_init 50 = .ok (.aload_n 0, 1) := by decide +kernel
theorem dX3_init_51 : decode cX3_init 51 = .ok (.iconst 0, 1) := by decide +kernel
theorem dX3_init_52 : decode cX3_init 52 = .ok (.putfield 40, 3) := by decide +kernel
theorem dX3_init_55 : decode cX3_init 55 = .ok (.aload_n 0, 1) := by decide +kernel
theorem dX3_init_56 : decode cX3_init 56 = .ok (.iload_n 1, 1) := by decide +kernel
theorem dX3_init_57 : decode cX3_init 57 = .ok (.putfield 43, 3) := by decide +kernel
theorem dX3_init_60 : decode cX3_init 60 = .ok (.aload_n 0, 1) := by decide +kernel
theorem dX3_init_61 : decode cX3_init 61 = .ok (.getfield 9, 3) := by decide +kernel
theorem dX3_init_64 : decode cX3_init 64 = .ok (.iconst 0, 1) := by decide +kernel
theorem dX3_init_65 : decode cX3_init 65 = .ok (.ldc2_w 46, 3) := by decide +kernel
theorem dX3_init_68 : decode cX3_init 68 = .ok (.lastore, 1) := by decide +kernel
theorem dX3_init_69 : decode cX3_init 69 = .ok (.return_, 1) := by decide +kernel
theorem dX3_statusOf_0 : decode cX3_statusOf 0 = .ok (.iload_n 1, 1) := by decide +kernel
theorem dX3_statusOf_1 : decode cX3_statusOf 1 = .ok (.aload_n 0, 1) := by decide +kernel
theorem dX3_statusOf_2 : decode cX3_statusOf 2 = .ok (.getfield 27, 3) := by decide +kernel
theorem dX3_statusOf_5 : decode cX3_statusOf 5 = .ok (.if_icmp .ne 5, 3) := by decide +kernel
theorem dX3_statusOf_8 : decode cX3_statusOf 8 = .ok (.iconst 2, 1) := by decide +kernel
theorem dX3_statusOf_9 : decode cX3_statusOf 9 = .ok (.ireturn, 1) := by decide +kernel
theorem dX3_statusOf_10 : decode cX3_statusOf 10 = .ok (.iload_n 1, 1) := by decide +kernel
theorem dX3_statusOf_11 : decode cX3_statusOf 11 = .ok (.aload_n 0, 1) := by decide +kernel
theorem dX3_statusOf_12 : decode cX3_statusOf 12 = .ok (.getfield 27, 3) := by decide +kernel
theorem dX3_statusOf_15 : decode cX3_statusOf 15 = .ok (.if_icmp .ge 5, 3) := by decide +kernel
theorem dX3_statusOf_18 : decode cX3_statusOf 18 = .ok (.iconst 3, 1) := by decide +kernel
theorem dX3_statusOf_19 : decode cX3_statusOf 19 = .ok (.ireturn, 1) := by decide +kernel
theorem dX3_statusOf_20 : decode cX3_statusOf 20 = .ok (.aload_n 0, 1) := by decide +kernel
theorem dX3_statusOf_21 : decode cX3_statusOf 21 = .ok (.getfield 23, 3) := by decide +kernel
theorem dX3_statusOf_24 : decode cX3_statusOf 24 = .ok (.ifCond .eq 7, 3) := by decide +kernel
theorem dX3_statusOf_27 : decode cX3_statusOf 27 = .ok (.iconst 1, 1) := by decide +kernel
theorem dX3_statusOf_28 : decode cX3_statusOf 28 = .ok (.goto 4, 3) := by decide +kernel
theorem dX3_statusOf_31 : decode cX3_statusOf 31 = .ok (.iconst 0, 1) := by decide +kernel
theorem dX3_statusOf_32 : decode cX3_statusOf 32 = .ok (.ireturn, 1) := by decide +kernel
set_option maxRecDepth 20000 in
theorem ggX3_lastStatus_X3_statusOf : GoodIn wsX3_lastStatus wsX3_statusOf := goodIn_r _ [6, 7, 8, 9, 10, 11, 12, 13, 14, 15, 16, 17, 18] (by decide +kernel) (by decide +kernel)
set_option maxRecDepth 20000 in
theorem gX3_lastStatus_X3_statusOf : GoodIn wsX3_lastStatus (wsV RX3 48 RX3 yX3_statusOf wsX3_statusOf) := goodIn_app (goodIn_of _ (by decide +kernel)) ggX3_lastStatus_X3_statusOf
theorem dX3_lastStatus_0 : decode cX3_lastStatus 0 = .ok (.aload_n 0, 1) := by decide +kernel
theorem dX3_lastStatus_1 : decode cX3_lastStatus 1 = .ok (.aload_n 0, 1) := by decide +kernel
theorem dX3_lastStatus_2 : decode cX3_lastStatus 2 = .ok (.getfield 19, 3) := by decide +kernel
theorem dX3_lastStatus_5 : decode cX3_lastStatus 5 = .ok (.invokevirtual 48, 3) := by decide +kernel
theorem dX3_lastStatus_8 : decode cX3_lastStatus 8 = .ok (.ireturn, 1) := by decide +kernel
theorem dX3_drawLast_0 : decode cX3_drawLast 0 = .ok (.aload_n 0, 1) := by decide +kernel
theorem dX3_drawLast_1 : decode cX3_drawLast 1 = .ok (.getfield 9, 3) := by decide +kernel
theorem dX3_drawLast_4 : decode cX3_drawLast 4 = .ok (.aload_n 0, 1) := by decide +kernel
theorem dX3_drawLast_5 : decode cX3_drawLast 5 = .ok (.getfield 19, 3) := by decide +kernel
theorem dX3_drawLast_8 : decode cX3_drawLast 8 = .ok (.lload_n 1, 1) := by decide +kernel
theorem dX3_drawLast_9 : decode cX3_drawLast 9 = .ok (.lastore, 1) := by decide +kernel
theorem dX3_drawLast_10 : decode cX3_drawLast 10 = .ok (.aload_n 0, 1) := by decide +kernel
theorem dX3_drawLast_11 : decode cX3_drawLast 11 = .ok (.getfield 15, 3) := by decide +kernel
theorem dX3_drawLast_14 : decode cX3_drawLast 14 = .ok (.aload_n 0, 1) := by decide +kernel
theorem dX3_drawLast_15 : decode cX3_drawLast 15 = .ok (.getfield 19, 3) := by decide +kernel
theorem dX3_drawLast_18 : decode cX3_drawLast 18 = .ok (.iload_n 3, 1) := by decide +kernel
theorem dX3_drawLast_19 : decode cX3_drawLast 19 = .ok (.iastore, 1) := by decide +kernel
theorem dX3_drawLast_20 : decode cX3_drawLast 20 = .ok (.return_, 1) := by decide +kernel
theorem dX3_beginRevision_0 : decode cX3_beginRevision 0 = .ok (.aload_n 0, 1) := by decide +kernel
theorem dX3_beginRevision_1 : decode cX3_beginRevision 1 = .ok (.getfield 19, 3) := by decide +kernel
theorem dX3_beginRevision_4 : decode cX3_beginRevision 4 = .ok (.iconst 1, 1) := by decide +kernel
theorem dX3_beginRevision_5 : decode cX3_beginRevision 5 = .ok (.iadd, 1) := by decide +kernel
theorem dX3_beginRevision_6 : decode cX3_beginRevision 6 = .ok (.istore_n 1, 1) := by decide +kernel
theorem dX3_beginRevision_7 : decode cX3_beginRevision 7 = .ok (.iload_n 1, 1) := by decide +kernel
theorem dX3_beginRevision_8 : decode cX3_beginRevision 8 = .ok (.bipush 6, 2) := by decide +kernel
theorem dX3_beginRevision_10 : decode cX3_beginRevision 10 = .ok (.if_icmp .ge 48, 3) := by decide +kernel
theorem dX3_beginRevision_13 : decode cX3_beginRevision 13 = .ok (.aload_n 0, 1) := by decide +kernel
theorem dX3_beginRevision_14 : decode cX3_beginRevision 14 = .ok (.getfield 9, 3) := by decide +kernel
theorem dX3_beginRevision_17 : decode cX3_beginRevision 17 = .ok (.iload_n 1, 1) := by decide +kernel
theorem dX3_beginRevision_18 : decode cX3_beginRevision 18 = .ok (.aload_n 0, 1) := by decide +kernel
theorem dX3_beginRevision_19 : decode cX3_beginRevision 19 = .ok (.getfield 9, 3) := by decide +kernel
theorem dX3_beginRevision_22 : decode cX3_beginRevision 22 = .ok (.aload_n 0, 1) := by decide +kernel
theorem dX3_beginRevision_23 : decode cX3_beginRevision 23 = .ok (.getfield 19, 3) := by decide +kernel
theorem dX3_beginRevision_26 : decode cX3_beginRevision 26 = .ok (.laload, 1) := by decide +kernel
theorem dX3_beginRevision_27 : decode cX3_beginRevision 27 = .ok (.lastore, 1) := by decide +kernel
theorem dX3_beginRevision_28 : decode cX3_beginRevision 28 = .ok (.aload_n 0, 1) := by decide +kernel
theorem dX3_beginRevision_29 : decode cX3_beginRevision 29 = .ok (.getfield 15, 3) := by decide +kernel
theorem dX3_beginRevision_32 : decode cX3_beginRevision 32 = .ok (.iload_n 1, 1) := by decide +kernel
theorem dX3_beginRevision_33 : decode cX3_beginRevision 33 = .ok (.aload_n 0, 1) := by decide +kernel
theorem dX3_beginRevision_34 : decode cX3_beginRevision 34 = .ok (.getfield 15, 3) := by decide +kernel
theorem dX3_beginRevision_37 : decode cX3_beginRevision 37 = .ok (.aload_n 0, 1) := by decide +kernel
theorem dX3_beginRevision_38 : decode cX3_beginRevision 38 = .ok (.getfield 19, 3) := by decide +kernel
theorem dX3_beginRevision_41 : decode cX3_beginRevision 41 = .ok (.iaload, 1) := by decide +kernel
theorem dX3_beginRevision_42 : decode cX3_beginRevision 42 = .ok (.iastore, 1) := by decide +kernel
theorem dX3_beginRevision_43 : decode cX3_beginRevision 43 = .ok (.aload_n 0, 1) := by decide +kernel
theorem dX3_beginRevision_44 : decode cX3_beginRevision 44 = .ok (.iload_n 1, 1) := by decide +kernel
theorem dX3_beginRevision_45 : decode cX3_beginRevision 45 = .ok (.putfield 19, 3) := by decide +kernel
theorem dX3_beginRevision_48 : decode cX3_beginRevision 48 = .ok (.aload_n 0, 1) := by decide +kernel
theorem dX3_beginRevision_49 : decode cX3_beginRevision 49 = .ok (.iconst 0, 1) := by decide +kernel
theorem dX3_beginRevision_50 : decode cX3_beginRevision 50 = .ok (.putfield 23, 3) := by decide +kernel
theorem dX3_beginRevision_53 : decode cX3_beginRevision 53 = .ok (.aload_n 0, 1) := by decide +kernel
theorem dX3_beginRevision_54 : decode cX3_beginRevision 54 = .ok (.iconst 0, 1) := by decide +kernel
theorem dX3_beginRevision_55 : decode cX3_beginRevision 55 = .ok (.putfield 37, 3) := by decide +kernel
theorem dX3_beginRevision_58 : decode cX3_beginRevision 58 = .ok (.return_, 1) := by decide +kernel
theorem dX3_setIssued_0 : decode cX3_setIssued 0 = .ok (.aload_n 0, 1) := by decide +kernel
theorem dX3_setIssued_1 : decode cX3_setIssued 1 = .ok (.iload_n 1, 1) := by decide +kernel
theorem dX3_setIssued_2 : decode cX3_setIssued 2 = .ok (.putfield 27, 3) := by decide +kernel
theorem dX3_setIssued_5 : decode cX3_setIssued 5 = .ok (.aload_n 0, 1) := by decide +kernel
theorem dX3_setIssued_6 : decode cX3_setIssued 6 = .ok (.iload_n 1, 1) := by decide +kernel
theorem dX3_setIssued_7 : decode cX3_setIssued 7 = .ok (.iconst (-1), 1) := by decide +kernel
theorem dX3_setIssued_8 : decode cX3_setIssued 8 = .ok (.if_icmp .ne 7, 3) := by decide +kernel
theorem dX3_setIssued_11 : decode cX3_setIssued 11 = .ok (.lconst 0, 1) := by decide +kernel
theorem dX3_setIssued_12 : decode cX3_setIssued 12 = .ok (.goto 9, 3) := by decide +kernel
theorem dX3_setIssued_15 : decode cX3_setIssued 15 = .ok (.aload_n 0, 1) := by decide +kernel
theorem dX3_setIssued_16 : decode cX3_setIssued 16 = .ok (.getfield 9, 3) := by decide +kernel
theorem dX3_setIssued_19 : decode cX3_setIssued 19 = .ok (.iload_n 1, 1) := by decide +kernel
theorem dX3_setIssued_20 : decode cX3_setIssued 20 = .ok (.laload, 1) := by decide +kernel
theorem dX3_setIssued_21 : decode cX3_setIssued 21 = .ok (.putfield 30, 3) := by decide +kernel
theorem dX3_setIssued_24 : decode cX3_setIssued 24 = .ok (.aload_n 0, 1) := by decide +kernel
theorem dX3_setIssued_25 : decode cX3_setIssued 25 = .ok (.iload_n 1, 1) := by decide +kernel
theorem dX3_setIssued_26 : decode cX3_setIssued 26 = .ok (.iconst (-1), 1) := by decide +kernel
theorem dX3_setIssued_27 : decode cX3_setIssued 27 = .ok (.if_icmp .ne 7, 3) := by decide +kernel
theorem dX3_setIssued_30 : decode cX3_setIssued 30 = .ok (.iconst 0, 1) := by decide +kernel
theorem dX3_setIssued_31 : decode cX3_setIssued 31 = .ok (.goto 9, 3) := by decide +kernel
theorem dX3_setIssued_34 : decode cX3_setIssued 34 = .ok (.aload_n 0, 1) := by decide +kernel
theorem dX3_setIssued_35 : decode cX3_setIssued 35 = .ok (.getfield 15, 3) := by decide +kernel
theorem dX3_setIssued_38 : decode cX3_setIssued 38 = .ok (.iload_n 1, 1) := by decide +kernel
theorem dX3_setIssued_39 : decode cX3_setIssued 39 = .ok (.iaload, 1) := by decide +kernel
theorem dX3_setIssued_40 : decode cX3_setIssued 40 = .ok (.putfield 34, 3) := by decide +kernel
theorem dX3_setIssued_43 : decode cX3_setIssued 43 = .ok (.return_, 1) := by decide +kernel
theorem dX4_init_0 : decode cX4_init 0 = .ok (.aload_n 0, 1) := by decide +kernel
theorem dX4_init_1 : decode cX4_init 1 = .ok (.invokespecial 3, 3) := by decide +kernel
theorem dX4_init_4 : decode cX4_init 4 = .ok (.aload_n 0, 1) := by decide +kernel
theorem dX4_init_5 : decode cX4_init 5 = .ok (.ldc2_w 9, 3) := by decide +kernel
theorem dX4_init_8 : decode cX4_init 8 = .ok (.putfield 11, 3) := by decide +kernel
theorem dX4_init_11 : decode cX4_init 11 = .ok (.aload_n 0, 1) := by decide +kernel
theorem dX4_init_12 : decode cX4_init 12 = .ok (.iconst 0, 1) := by decide +kernel
theorem dX4_init_13 : decode cX4_init 13 = .ok (.putfield 17, 3) := by decide +kernel
theorem dX4_init_16 : decode cX4_init 16 = .ok (.aload_n 0, 1) := by decide +kernel
theorem dX4_init_17 : decode cX4_init 17 = .ok (.iconst 0, 1) := by decide +kernel
theorem dX4_init_18 : decode cX4_init 18 = .ok (.putfield 21, 3) := by decide +kernel
theorem dX4_init_21 : decode cX4_init 21 = .ok (.aload_n 0, 1) := by decide +kernel
theorem dX4_init_22 : decode cX4_init 22 = .ok (.iload_n 1, 1) := by decide +kernel
theorem dX4_init_23 : decode cX4_init 23 = .ok (.putfield 24, 3) := by decide +kernel
theorem dX4_init_26 : decode cX4_init 26 = .ok (.aload_n 0, 1) := by decide +kernel
theorem dX4_init_27 : decode cX4_init 27 = .ok (.iload_n 2, 1) := by decide +kernel
theorem dX4_init_28 : decode cX4_init 28 = .ok (.putfield 27, 3) := by decide +kernel
theorem dX4_init_31 : decode cX4_init 31 = .ok (.aload_n 0, 1) := by decide +kernel
theorem dX4_init_32 : decode cX4_init 32 = .ok (.iload_n 3, 1) := by decide +kernel
theorem dX4_init_33 : decode cX4_init 33 = .ok (.putfield 30, 3) := by decide +kernel
theorem dX4_init_36 : decode cX4_init 36 = .ok (.return_, 1) := by decide +kernel
theorem dX4_isAtRest_0 : decode cX4_isAtRest 0 = .ok (.aload_n 0, 1) := by decide +kernel
theorem dX4_isAtRest_1 : decode cX4_isAtRest 1 = .ok (.getfield 17, 3) := by decide +kernel
theorem dX4_isAtRest_4 : decode cX4_isAtRest 4 = .ok (.ifCond .eq 11, 3) := by decide +kernel
theorem dX4_isAtRest_7 : decode cX4_isAtRest 7 = .ok (.aload_n 0, 1) := by decide +kernel
theorem dX4_isAtRest_8 : decode cX4_isAtRest 8 = .ok (.getfield 17, 3) := by decide +kernel
theorem dX4_isAtRest_11 : decode cX4_isAtRest 11 = .ok (.iconst 2, 1) := by decide +kernel
theorem dX4_isAtRest_12 : decode cX4_isAtRest 12 = .ok (.if_icmp .ne 7, 3) := by decide +kernel
theorem dX4_isAtRest_15 : decode cX4_isAtRest 15 = .ok (.iconst 1, 1) := by decide +kernel
theorem dX4_isAtRest_16 : decode cX4_isAtRest 16 = .ok (.goto 4, 3) := by decide +kernel
theorem dX4_isAtRest_19 : decode cX4_isAtRest 19 = .ok (.iconst 0, 1) := by decide +kernel
theorem dX4_isAtRest_20 : decode cX4_isAtRest 20 = .ok (.ireturn, 1) := by decide +kernel
theorem dX4_workADay_0 : decode cX4_workADay 0 = .ok (.aload_n 0, 1) := by decide +kernel
theorem dX4_workADay_1 : decode cX4_workADay 1 = .ok (.dup, 1) := by decide +kernel
theorem dX4_workADay_2 : decode cX4_workADay 2 = .ok (.getfield 30, 3) := by decide +kernel
theorem dX4_workADay_5 : decode cX4_workADay 5 = .ok (.iconst 1, 1) := by decide +kernel
theorem dX4_workADay_6 : decode cX4_workADay 6 = .ok (.isub, 1) := by decide +kernel
theorem dX4_workADay_7 : decode cX4_workADay 7 = .ok (.putfield 30, 3) := by decide +kernel
theorem dX4_workADay_10 : decode cX4_workADay 10 = .ok (.aload_n 0, 1) := by decide +kernel
theorem dX4_workADay_11 : decode cX4_workADay 11 = .ok (.getfield 30, 3) := by decide +kernel
theorem dX4_workADay_14 : decode cX4_workADay 14 = .ok (.ifCond .gt 8, 3) := by decide +kernel
theorem dX4_workADay_17 : decode cX4_workADay 17 = .ok (.aload_n 0, 1) := by decide +kernel
theorem dX4_workADay_18 : decode cX4_workADay 18 = .ok (.iconst 3, 1) := by decide +kernel
theorem dX4_workADay_19 : decode cX4_workADay 19 = .ok (.putfield 17, 3) := by decide +kernel
theorem dX4_workADay_22 : decode cX4_workADay 22 = .ok (.return_, 1) := by decide +kernel
set_option maxRecDepth 20000 in
theorem ggX5_init_J7_fill_53178 : GoodIn wsX5_init wsJ7_fill_53178 := goodIn_r _ [27] (by decide +kernel) (by decide +kernel)
set_option maxRecDepth 20000 in
theorem gX5_init_J7_fill_53178 : GoodIn wsX5_init (va_wsS RX5 67 yJ7_fill_53178 wsJ7_fill_53178) := goodIn_app (goodIn_of _ (by decide +kernel)) ggX5_init_J7_fill_53178
theorem dX5_init_0 : decode cX5_init 0 = .ok (.aload_n 0, 1) := by decide +kernel
theorem dX5_init_1 : decode cX5_init 1 = .ok (.invokespecial 3, 3) := by decide +kernel
theorem dX5_init_4 : decode cX5_init 4 = .ok (.aload_n 0, 1) := by decide +kernel
theorem dX5_init_5 : decode cX5_init 5 = .ok (.bipush 10, 2) := by decide +kernel
theorem dX5_init_7 : decode cX5_init 7 = .ok (.anewarray 9, 3) := by decide +kernel
theorem dX5_init_10 : decode cX5_init 10 = .ok (.putfield 11, 3) := by decide +kernel
theorem dX5_init_13 : decode cX5_init 13 = .ok (.aload_n 0, 1) := by decide +kernel
theorem dX5_init_14 : decode cX5_init 14 = .ok (.bipush 20, 2) := by decide +kernel
theorem dX5_init_16 : decode cX5_init 16 = .ok (.anewarray 15, 3) := by decide +kernel
theorem dX5_init_19 : decode cX5_init 19 = .ok (.putfield 17, 3) := by decide +kernel
theorem dX5_init_22 : decode cX5_init 22 = .ok (.aload_n 0, 1) := by decide +kernel
theorem dX5_init_23 : decode cX5_init 23 = .ok (.bipush 20, 2) := by decide +kernel
theorem dX5_init_25 : decode cX5_init 25 = .ok (.anewarray 21, 3) := by decide +kernel
theorem dX5_init_28 : decode cX5_init 28 = .ok (.putfield 23, 3) := by decide +kernel
theorem dX5_init_31 : decode cX5_init 31 = .ok (.aload_n 0, 1) := by decide +kernel
theorem dX5_init_32 : decode cX5_init 32 = .ok (.bipush 20, 2) := by decide +kernel
theorem dX5_init_34 : decode cX5_init 34 = .ok (.anewarray 27, 3) := by decide +kernel
theorem dX5_init_37 : decode cX5_init 37 = .ok (.putfield 29, 3) := by decide +kernel
theorem dX5_init_40 : decode cX5_init 40 = .ok (.aload_n 0, 1) := by decide +kernel
theorem dX5_init_41 : decode cX5_init 41 = .ok (.bipush 8, 2) := by decide +kernel
theorem dX5_init_43 : decode cX5_init 43 = .ok (.anewarray 33, 3) := by decide +kernel
theorem dX5_init_46 : decode cX5_init 46 = .ok (.putfield 35, 3) := by decide +kernel
theorem dX5_init_49 : decode cX5_init 49 = .ok (.aload_n 0, 1) := by decide +kernel
theorem dX5_init_50 : decode cX5_init 50 = .ok (.iconst 4, 1) := by decide +kernel
theorem dX5_init_51 : decode cX5_init 51 = .ok (.bipush 10, 2) := by decide +kernel
theorem dX5_init_53 : decode cX5_init 53 = .ok (.multianewarray 39 2, 4) := by decide +kernel
theorem dX5_init_57 : decode cX5_init 57 = .ok (.putfield 41, 3) := by decide +kernel
theorem dX5_init_60 : decode cX5_init 60 = .ok (.aload_n 0, 1) := by decide +kernel
theorem dX5_init_61 : decode cX5_init 61 = .ok (.bipush 10, 2) := by decide +kernel
theorem dX5_init_63 : decode cX5_init 63 = .ok (.newarray .int, 2) := by decide +kernel
theorem dX5_init_65 : decode cX5_init 65 = .ok (.putfield 44, 3) := by decide +kernel
theorem dX5_init_68 : decode cX5_init 68 = .ok (.aload_n 0, 1) := by decide +kernel
theorem dX5_init_69 : decode cX5_init 69 = .ok (.iconst 0, 1) := by decide +kernel
theorem dX5_init_70 : decode cX5_init 70 = .ok (.putfield 48, 3) := by decide +kernel
theorem dX5_init_73 : decode cX5_init 73 = .ok (.aload_n 0, 1) := by decide +kernel
theorem dX5_init_74 : decode cX5_init 74 = .ok (.iconst 0, 1) := by decide +kernel
theorem dX5_init_75 : decode cX5_init 75 = .ok (.putfield 52, 3) := by decide +kernel
theorem dX5_init_78 : decode cX5_init 78 = .ok (.aload_n 0, 1) := by decide +kernel
theorem dX5_init_79 : decode cX5_init 79 = .ok (.iconst 0, 1) := by decide +kernel
theorem dX5_init_80 : decode cX5_init 80 = .ok (.putfield 55, 3) := by decide +kernel
theorem dX5_init_83 : decode cX5_init 83 = .ok (.aload_n 0, 1) := by decide +kernel
theorem dX5_init_84 : decode cX5_init 84 = .ok (.iconst 0, 1) := by decide +kernel
theorem dX5_init_85 : decode cX5_init 85 = .ok (.putfield 58, 3) := by decide +kernel
theorem dX5_init_88 : decode cX5_init 88 = .ok (.aload_n 0, 1) := by decide +kernel
theorem dX5_init_89 : decode cX5_init 89 = .ok (.iconst 0, 1) := by decide +kernel
theorem dX5_init_90 : decode cX5_init 90 = .ok (.putfield 61, 3) := by decide +kernel
theorem dX5_init_93 : decode cX5_init 93 = .ok (.aload_n 0, 1) := by decide +kernel
theorem dX5_init_94 : decode cX5_init 94 = .ok (.iconst 0, 1) := by decide +kernel
theorem dX5_init_95 : decode cX5_init 95 = .ok (.putfield 64, 3) := by decide +kernel
theorem dX5_init_98 : decode cX5_init 98 = .ok (.iconst 0, 1) := by decide +kernel
theorem dX5_init_99 : decode cX5_init 99 = .ok (.istore_n 1, 1) := by decide +kernel
theorem dX5_init_100 : decode cX5_init 100 = .ok (.iload_n 1, 1) := by decide +kernel
theorem dX5_init_101 : decode cX5_init 101 = .ok (.iconst 4, 1) := by decide +kernel
theorem dX5_init_102 : decode cX5_init 102 = .ok (.if_icmp .ge 19, 3) := by decide +kernel
theorem dX5_init_105 : decode cX5_init 105 = .ok (.aload_n 0, 1) := by decide +kernel
theorem dX5_init_106 : decode cX5_init 106 = .ok (.getfield 41, 3) := by decide +kernel
theorem dX5_init_109 : decode cX5_init 109 = .ok (.iload_n 1, 1) := by decide +kernel
theorem dX5_init_110 : decode cX5_init 110 = .ok (.aaload, 1) := by decide +kernel
theorem dX5_init_111 : decode cX5_init 111 = .ok (.iconst (-1), 1) := by decide +kernel
theorem dX5_init_112 : decode cX5_init 112 = .ok (.invokestatic 67, 3) := by decide +kernel
theorem dX5_init_115 : decode cX5_init 115 = .ok (.iinc 1 1, 3) := by decide +kernel
theorem dX5_init_118 : decode cX5_init 118 = .ok (.goto (-18), 3) := by decide +kernel
theorem dX5_init_121 : decode cX5_init 121 = .ok (.return_, 1) := by decide +kernel
set_option maxRecDepth 20000 in
theorem ggX5_sheet_X3_init : GoodIn wsX5_sheet wsX3_init := goodIn_r _ [11, 12, 13, 14, 15, 16, 17, 18, 19, 20, 21, 22, 23, 24, 25, 26, 27, 41, 42, 43, 44, 45, 46, 47, 48, 49, 50] (by decide +kernel) (by decide +kernel)
set_option maxRecDepth 20000 in
theorem gX5_sheet_X3_init_n85 : GoodIn wsX5_sheet (wsX3_init) := ggX5_sheet_X3_init
theorem dX5_sheet_0 : decode cX5_sheet 0 = .ok (.iload_n 1, 1) := by decide +kernel
theorem dX5_sheet_1 : decode cX5_sheet 1 = .ok (.ifCond .lt 8, 3) := by decide +kernel
theorem dX5_sheet_4 : decode cX5_sheet 4 = .ok (.iload_n 1, 1) := by decide +kernel
theorem dX5_sheet_5 : decode cX5_sheet 5 = .ok (.iconst 4, 1) := by decide +kernel
theorem dX5_sheet_6 : decode cX5_sheet 6 = .ok (.if_icmp .lt 13, 3) := by decide +kernel
theorem dX5_sheet_9 : decode cX5_sheet 9 = .ok (.new 73, 3) := by decide +kernel
theorem dX5_sheet_12 : decode cX5_sheet 12 = .ok (.dup, 1) := by decide +kernel
theorem dX5_sheet_13 : decode cX5_sheet 13 = .ok (.ldc 75, 2) := by decide +kernel
theorem dX5_sheet_15 : decode cX5_sheet 15 = .ok (.invokespecial 77, 3) := by decide +kernel
theorem dX5_sheet_18 : decode cX5_sheet 18 = .ok (.athrow, 1) := by decide +kernel
theorem dX5_sheet_19 : decode cX5_sheet 19 = .ok (.aload_n 0, 1) := by decide +kernel
theorem dX5_sheet_20 : decode cX5_sheet 20 = .ok (.getfield 48, 3) := by decide +kernel
theorem dX5_sheet_23 : decode cX5_sheet 23 = .ok (.bipush 10, 2) := by decide +kernel
theorem dX5_sheet_25 : decode cX5_sheet 25 = .ok (.if_icmp .lt 13, 3) := by decide +kernel
theorem dX5_sheet_28 : decode cX5_sheet 28 = .ok (.new 80, 3) := by decide +kernel
theorem dX5_sheet_31 : decode cX5_sheet 31 = .ok (.dup, 1) := by decide +kernel
theorem dX5_sheet_32 : decode cX5_sheet 32 = .ok (.ldc 82, 2) := by decide +kernel
theorem dX5_sheet_34 : decode cX5_sheet 34 = .ok (.invokespecial 84, 3) := by decide +kernel
theorem dX5_sheet_37 : decode cX5_sheet 37 = .ok (.athrow, 1) := by decide +kernel
theorem dX5_sheet_38 : decode cX5_sheet 38 = .ok (.aload_n 0, 1) := by decide +kernel
theorem dX5_sheet_39 : decode cX5_sheet 39 = .ok (.getfield 48, 3) := by decide +kernel
theorem dX5_sheet_42 : decode cX5_sheet 42 = .ok (.istore_n 2, 1) := by decide +kernel
theorem dX5_sheet_43 : decode cX5_sheet 43 = .ok (.aload_n 0, 1) := by decide +kernel
theorem dX5_sheet_44 : decode cX5_sheet 44 = .ok (.getfield 11, 3) := by decide +kernel
theorem dX5_sheet_47 : decode cX5_sheet 47 = .ok (.iload_n 2, 1) := by decide +kernel
theorem dX5_sheet_48 : decode cX5_sheet 48 = .ok (.new 9, 3) := by decide +kernel
theorem dX5_sheet_51 : decode cX5_sheet 51 = .ok (.dup, 1) := by decide +kernel
theorem dX5_sheet_52 : decode cX5_sheet 52 = .ok (.iload_n 1, 1) := by decide +kernel
theorem dX5_sheet_53 : decode cX5_sheet 53 = .ok (.invokespecial 85, 3) := by decide +kernel
theorem dX5_sheet_56 : decode cX5_sheet 56 = .ok (.aastore, 1) := by decide +kernel
theorem dX5_sheet_57 : decode cX5_sheet 57 = .ok (.aload_n 0, 1) := by decide +kernel
theorem dX5_sheet_58 : decode cX5_sheet 58 = .ok (.dup, 1) := by decide +kernel
theorem dX5_sheet_59 : decode cX5_sheet 59 = .ok (.getfield 48, 3) := by decide +kernel
theorem dX5_sheet_62 : decode cX5_sheet 62 = .ok (.iconst 1, 1) := by decide +kernel
theorem dX5_sheet_63 : decode cX5_sheet 63 = .ok (.iadd, 1) := by decide +kernel
theorem dX5_sheet_64 : decode cX5_sheet 64 = .ok (.putfield 48, 3) := by decide +kernel
theorem dX5_sheet_67 : decode cX5_sheet 67 = .ok (.iload_n 2, 1) := by decide +kernel
theorem dX5_sheet_68 : decode cX5_sheet 68 = .ok (.ireturn, 1) := by decide +kernel
set_option maxRecDepth 20000 in
theorem ggX5_draw_X5_requireSheet : GoodIn wsX5_draw wsX5_requireSheet := goodIn_ca (goodIn_r _ [10, 11, 12, 13, 52, 53, 54, 55, 56, 57, 58, 59, 60, 61, 62, 63, 64] (by decide +kernel) (by decide +kernel)) (goodIn_sub (fun _ h => List.mem_cons_of_mem _ (List.mem_append_right _ h)) (by decide +kernel))
set_option maxRecDepth 20000 in
theorem gX5_draw_X5_requireSheet : GoodIn wsX5_draw (wsV RX5 88 RX5 yX5_requireSheet wsX5_requireSheet) := goodIn_app (goodIn_of _ (by decide +kernel)) ggX5_draw_X5_requireSheet
set_option maxRecDepth 20000 in
theorem ggX5_draw_X5_requireRegion : GoodIn wsX5_draw wsX5_requireRegion := goodIn_ca (goodIn_r _ [16, 1, 2] (by decide +kernel) (by decide +kernel)) (goodIn_sub (fun _ h => List.mem_cons_of_mem _ (List.mem_append_left _ (List.mem_append_left _ (List.mem_append_right _ h)))) (by decide +kernel))
set_option maxRecDepth 20000 in
theorem gX5_draw_X5_requireRegion : GoodIn wsX5_draw (va_wsS RX5 91 yX5_requireRegion wsX5_requireRegion) := goodIn_app (goodIn_of _ (by decide +kernel)) ggX5_draw_X5_requireRegion
set_option maxRecDepth 20000 in
theorem ggX5_draw_X3_lastStatus : GoodIn wsX5_draw wsX3_lastStatus := goodIn_r _ [20, 21, 22, 23, 24, 18, 25, 26, 27, 65, 66, 67, 68, 69, 70, 71, 72, 73, 74] (by decide +kernel) (by decide +kernel)
set_option maxRecDepth 20000 in
theorem gX5_draw_X3_lastStatus_n97 : GoodIn wsX5_draw (wsX3_lastStatus) := ggX5_draw_X3_lastStatus
set_option maxRecDepth 20000 in
theorem ggX5_draw_X5_regionOf : GoodIn wsX5_draw wsX5_regionOf := goodIn_r _ [30, 31, 32, 9, 33, 34] (by decide +kernel) (by decide +kernel)
set_option maxRecDepth 20000 in
theorem gX5_draw_X5_regionOf : GoodIn wsX5_draw (va_wsS RX5 103 yX5_regionOf wsX5_regionOf) := goodIn_app (goodIn_of _ (by decide +kernel)) ggX5_draw_X5_regionOf
set_option maxRecDepth 20000 in
theorem ggX5_draw_X3_drawLast : GoodIn wsX5_draw wsX3_drawLast := goodIn_r _ [37, 38, 21, 39, 65, 66, 67, 68, 69, 70, 71, 72, 73, 74] (by decide +kernel) (by decide +kernel)
set_option maxRecDepth 20000 in
theorem gX5_draw_X3_drawLast_n107 : GoodIn wsX5_draw (wsX3_drawLast) := ggX5_draw_X3_drawLast
set_option maxRecDepth 20000 in
theorem ggX5_draw_X5_fieldsOf : GoodIn wsX5_draw wsX5_fieldsOf := goodIn_r _ [42, 43, 44, 45, 46, 47, 48, 49, 50, 51] (by decide +kernel) (by decide +kernel)
set_option maxRecDepth 20000 in
theorem gX5_draw_X5_fieldsOf : GoodIn wsX5_draw (va_wsS RX5 111 yX5_fieldsOf wsX5_fieldsOf) := goodIn_app (goodIn_of _ (by decide +kernel)) ggX5_draw_X5_fieldsOf
theorem dX5_draw_0 : decode cX5_draw 0 = .ok (.aload_n 0, 1) := by decide +kernel
theorem dX5_draw_1 : decode cX5_draw 1 = .ok (.iload_n 1, 1) := by decide +kernel
theorem dX5_draw_2 : decode cX5_draw 2 = .ok (.invokevirtual 88, 3) := by decide +kernel
theorem dX5_draw_5 : decode cX5_draw 5 = .ok (.iload_n 2, 1) := by decide +kernel
theorem dX5_draw_6 : decode cX5_draw 6 = .ok (.iload_n 3, 1) := by decide +kernel
theorem dX5_draw_7 : decode cX5_draw 7 = .ok (.iload 4, 2) := by decide +kernel
theorem dX5_draw_9 : decode cX5_draw 9 = .ok (.iload 5, 2) := by decide +kernel
theorem dX5_draw_11 : decode cX5_draw 11 = .ok (.invokestatic 91, 3) := by decide +kernel
theorem dX5_draw_14 : decode cX5_draw 14 = .ok (.iload 6, 2) := by decide +kernel
theorem dX5_draw_16 : decode cX5_draw 16 = .ok (.ifCond .lt 11, 3) := by decide +kernel
theorem dX5_draw_19 : decode cX5_draw 19 = .ok (.iload 6, 2) := by decide +kernel
theorem dX5_draw_21 : decode cX5_draw 21 = .ok (.sipush 255, 3) := by decide +kernel
theorem dX5_draw_24 : decode cX5_draw 24 = .ok (.if_icmp .le 13, 3) := by decide +kernel
theorem dX5_draw_27 : decode cX5_draw 27 = .ok (.new 73, 3) := by decide +kernel
theorem dX5_draw_30 : decode cX5_draw 30 = .ok (.dup, 1) := by decide +kernel
theorem dX5_draw_31 : decode cX5_draw 31 = .ok (.ldc 95, 2) := by decide +kernel
theorem dX5_draw_33 : decode cX5_draw 33 = .ok (.invokespecial 77, 3) := by decide +kernel
theorem dX5_draw_36 : decode cX5_draw 36 = .ok (.athrow, 1) := by decide +kernel
theorem dX5_draw_37 : decode cX5_draw 37 = .ok (.aload_n 0, 1) := by decide +kernel
theorem dX5_draw_38 : decode cX5_draw 38 = .ok (.getfield 11, 3) := by decide +kernel
theorem dX5_draw_41 : decode cX5_draw 41 = .ok (.iload_n 1, 1) := by decide +kernel
theorem dX5_draw_42 : decode cX5_draw 42 = .ok (.aaload, 1) := by decide +kernel
theorem dX5_draw_43 : decode cX5_draw 43 = .ok (.astore 7, 2) := by decide +kernel
theorem dX5_draw_45 : decode cX5_draw 45 = .ok (.aload 7, 2) := by decide +kernel
theorem dX5_draw_47 : decode cX5_draw 47 = .ok (.invokevirtual 97, 3) := by decide +kernel
theorem dX5_draw_50 : decode cX5_draw 50 = .ok (.ifCond .eq 13, 3) := by decide +kernel
theorem dX5_draw_53 : decode cX5_draw 53 = .ok (.new 80, 3) := by decide +kernel
theorem dX5_draw_56 : decode cX5_draw 56 = .ok (.dup, 1) := by decide +kernel
theorem dX5_draw_57 : decode cX5_draw 57 = .ok (.ldc 101, 2) := by decide +kernel
theorem dX5_draw_59 : decode cX5_draw 59 = .ok (.invokespecial 84, 3) := by decide +kernel
theorem dX5_draw_62 : decode cX5_draw 62 = .ok (.athrow, 1) := by decide +kernel
theorem dX5_draw_63 : decode cX5_draw 63 = .ok (.iload_n 2, 1) := by decide +kernel
theorem dX5_draw_64 : decode cX5_draw 64 = .ok (.iload_n 3, 1) := by decide +kernel
theorem dX5_draw_65 : decode cX5_draw 65 = .ok (.iload 4, 2) := by decide +kernel
theorem dX5_draw_67 : decode cX5_draw 67 = .ok (.iload 5, 2) := by decide +kernel
theorem dX5_draw_69 : decode cX5_draw 69 = .ok (.invokestatic 103, 3) := by decide +kernel
theorem dX5_draw_72 : decode cX5_draw 72 = .ok (.lstore 8, 2) := by decide +kernel
theorem dX5_draw_74 : decode cX5_draw 74 = .ok (.aload 7, 2) := by decide +kernel
theorem dX5_draw_76 : decode cX5_draw 76 = .ok (.lload 8, 2) := by decide +kernel
theorem dX5_draw_78 : decode cX5_draw 78 = .ok (.iload 6, 2) := by decide +kernel
theorem dX5_draw_80 : decode cX5_draw 80 = .ok (.invokevirtual 107, 3) := by decide +kernel
theorem dX5_draw_83 : decode cX5_draw 83 = .ok (.lload 8, 2) := by decide +kernel
theorem dX5_draw_85 : decode cX5_draw 85 = .ok (.invokestatic 111, 3) := by decide +kernel
theorem dX5_draw_88 : decode cX5_draw 88 = .ok (.ireturn, 1) := by decide +kernel
set_option maxRecDepth 20000 in
theorem ggX5_revise_X5_requireSheet : GoodIn wsX5_revise wsX5_requireSheet := goodIn_ca (goodIn_r _ [8, 9, 10, 11, 29, 30, 31, 32, 33, 34, 35, 36, 37, 38, 39, 40, 41] (by decide +kernel) (by decide +kernel)) (goodIn_sub (fun _ h => List.mem_cons_of_mem _ (List.mem_append_right _ h)) (by decide +kernel))
set_option maxRecDepth 20000 in
theorem gX5_revise_X5_requireSheet : GoodIn wsX5_revise (wsV RX5 88 RX5 yX5_requireSheet wsX5_requireSheet) := goodIn_app (goodIn_of _ (by decide +kernel)) ggX5_revise_X5_requireSheet
set_option maxRecDepth 20000 in
theorem ggX5_revise_X3_lastStatus : GoodIn wsX5_revise wsX3_lastStatus := goodIn_r _ [15, 16, 17, 18, 19, 13, 20, 21, 22, 42, 43, 44, 45, 46, 47, 48, 49, 50, 51] (by decide +kernel) (by decide +kernel)
set_option maxRecDepth 20000 in
theorem gX5_revise_X3_lastStatus_n97 : GoodIn wsX5_revise (wsX3_lastStatus) := ggX5_revise_X3_lastStatus
set_option maxRecDepth 20000 in
theorem ggX5_revise_X3_beginRevision : GoodIn wsX5_revise wsX3_beginRevision := goodIn_r _ [25, 16, 26, 27, 22, 28, 42, 43, 44, 45, 46, 47, 48, 49, 50, 51] (by decide +kernel) (by decide +kernel)
set_option maxRecDepth 20000 in
theorem gX5_revise_X3_beginRevision_n120 : GoodIn wsX5_revise (wsX3_beginRevision) := ggX5_revise_X3_beginRevision
theorem dX5_revise_0 : decode cX5_revise 0 = .ok (.aload_n 0, 1) := by decide +kernel
theorem dX5_revise_1 : decode cX5_revise 1 = .ok (.iload_n 1, 1) := by decide +kernel
theorem dX5_revise_2 : decode cX5_revise 2 = .ok (.invokevirtual 88, 3) := by decide +kernel
theorem dX5_revise_5 : decode cX5_revise 5 = .ok (.aload_n 0, 1) := by decide +kernel
theorem dX5_revise_6 : decode cX5_revise 6 = .ok (.getfield 11, 3) := by decide +kernel
theorem dX5_revise_9 : decode cX5_revise 9 = .ok (.iload_n 1, 1) := by decide +kernel
theorem dX5_revise_10 : decode cX5_revise 10 = .ok (.aaload, 1) := by decide +kernel
theorem dX5_revise_11 : decode cX5_revise 11 = .ok (.astore_n 2, 1) := by decide +kernel
theorem dX5_revise_12 : decode cX5_revise 12 = .ok (.aload_n 2, 1) := by decide +kernel
theorem dX5_revise_13 : decode cX5_revise 13 = .ok (.invokevirtual 97, 3) := by decide +kernel
theorem dX5_revise_16 : decode cX5_revise 16 = .ok (.iconst 2, 1) := by decide +kernel
theorem dX5_revise_17 : decode cX5_revise 17 = .ok (.if_icmp .ne 14, 3) := by decide +kernel
theorem dX5_revise_20 : decode cX5_revise 20 = .ok (.aload_n 2, 1) := by decide +kernel
theorem dX5_revise_21 : decode cX5_revise 21 = .ok (.getfield 115, 3) := by decide +kernel
theorem dX5_revise_24 : decode cX5_revise 24 = .ok (.iconst 1, 1) := by decide +kernel
theorem dX5_revise_25 : decode cX5_revise 25 = .ok (.iadd, 1) := by decide +kernel
theorem dX5_revise_26 : decode cX5_revise 26 = .ok (.bipush 6, 2) := by decide +kernel
theorem dX5_revise_28 : decode cX5_revise 28 = .ok (.if_icmp .lt 13, 3) := by decide +kernel
theorem dX5_revise_31 : decode cX5_revise 31 = .ok (.new 80, 3) := by decide +kernel
theorem dX5_revise_34 : decode cX5_revise 34 = .ok (.dup, 1) := by decide +kernel
theorem dX5_revise_35 : decode cX5_revise 35 = .ok (.ldc 118, 2) := by decide +kernel
theorem dX5_revise_37 : decode cX5_revise 37 = .ok (.invokespecial 84, 3) := by decide +kernel
theorem dX5_revise_40 : decode cX5_revise 40 = .ok (.athrow, 1) := by decide +kernel
theorem dX5_revise_41 : decode cX5_revise 41 = .ok (.aload_n 2, 1) := by decide +kernel
theorem dX5_revise_42 : decode cX5_revise 42 = .ok (.invokevirtual 120, 3) := by decide +kernel
theorem dX5_revise_45 : decode cX5_revise 45 = .ok (.aload_n 2, 1) := by decide +kernel
theorem dX5_revise_46 : decode cX5_revise 46 = .ok (.getfield 115, 3) := by decide +kernel
theorem dX5_revise_49 : decode cX5_revise 49 = .ok (.ireturn, 1) := by decide +kernel
set_option maxRecDepth 20000 in
theorem ggX5_check_X5_requireSheet : GoodIn wsX5_check wsX5_requireSheet := goodIn_ca (goodIn_r _ [8, 9, 10, 11, 36, 37, 38, 39, 40, 41, 42, 43, 44, 45, 46, 47, 48] (by decide +kernel) (by decide +kernel)) (goodIn_sub (fun _ h => List.mem_cons_of_mem _ (List.mem_append_right _ h)) (by decide +kernel))
set_option maxRecDepth 20000 in
theorem gX5_check_X5_requireSheet : GoodIn wsX5_check (wsV RX5 88 RX5 yX5_requireSheet wsX5_requireSheet) := goodIn_app (goodIn_of _ (by decide +kernel)) ggX5_check_X5_requireSheet
set_option maxRecDepth 20000 in
theorem ggX5_check_X3_lastStatus : GoodIn wsX5_check wsX3_lastStatus := goodIn_r _ [15, 16, 17, 18, 19, 13, 20, 21, 22, 49, 50, 51, 52, 53, 54, 55, 56, 57, 58] (by decide +kernel) (by decide +kernel)
set_option maxRecDepth 20000 in
theorem gX5_check_X3_lastStatus_n97 : GoodIn wsX5_check (wsX3_lastStatus) := ggX5_check_X3_lastStatus
set_option maxRecDepth 20000 in
theorem ggX5_check_X5_brokenFrom : GoodIn wsX5_check wsX5_brokenFrom := goodIn_r _ [26, 27, 28, 29, 30, 31, 7, 32, 3, 33, 34, 35, 36, 37, 38, 39, 40, 41, 42, 43, 44, 45, 46, 47, 48, 59, 60, 61, 49, 50, 51, 52, 53, 54, 55, 56, 57, 58] (by decide +kernel) (by decide +kernel)
set_option maxRecDepth 20000 in
theorem gX5_check_X5_brokenFrom : GoodIn wsX5_check (wsV RX5 127 RX5 yX5_brokenFrom wsX5_brokenFrom) := goodIn_app (goodIn_of _ (by decide +kernel)) ggX5_check_X5_brokenFrom
theorem dX5_check_0 : decode cX5_check 0 = .ok (.aload_n 0, 1) := by decide +kernel
theorem dX5_check_1 : decode cX5_check 1 = .ok (.iload_n 1, 1) := by decide +kernel
theorem dX5_check_2 : decode cX5_check 2 = .ok (.invokevirtual 88, 3) := by decide +kernel
theorem dX5_check_5 : decode cX5_check 5 = .ok (.aload_n 0, 1) := by decide +kernel
theorem dX5_check_6 : decode cX5_check 6 = .ok (.getfield 11, 3) := by decide +kernel
theorem dX5_check_9 : decode cX5_check 9 = .ok (.iload_n 1, 1) := by decide +kernel
theorem dX5_check_10 : decode cX5_check 10 = .ok (.aaload, 1) := by decide +kernel
theorem dX5_check_11 : decode cX5_check 11 = .ok (.astore_n 2, 1) := by decide +kernel
theorem dX5_check_12 : decode cX5_check 12 = .ok (.aload_n 2, 1) := by decide +kernel
theorem dX5_check_13 : decode cX5_check 13 = .ok (.invokevirtual 97, 3) := by decide +kernel
theorem dX5_check_16 : decode cX5_check 16 = .ok (.ifCond .eq 13, 3) := by decide +kernel
theorem dX5_check_19 : decode cX5_check 19 = .ok (.new 80, 3) := by decide +kernel
theorem dX5_check_22 : decode cX5_check 22 = .ok (.dup, 1) := by decide +kernel
theorem dX5_check_23 : decode cX5_check 23 = .ok (.ldc 101, 2) := by decide +kernel
theorem dX5_check_25 : decode cX5_check 25 = .ok (.invokespecial 84, 3) := by decide +kernel
theorem dX5_check_28 : decode cX5_check 28 = .ok (.athrow, 1) := by decide +kernel
theorem dX5_check_29 : decode cX5_check 29 = .ok (.aload_n 2, 1) := by decide +kernel
theorem dX5_check_30 : decode cX5_check 30 = .ok (.iconst 1, 1) := by decide +kernel
theorem dX5_check_31 : decode cX5_check 31 = .ok (.putfield 123, 3) := by decide +kernel
theorem dX5_check_34 : decode cX5_check 34 = .ok (.aload_n 0, 1) := by decide +kernel
theorem dX5_check_35 : decode cX5_check 35 = .ok (.iload_n 1, 1) := by decide +kernel
theorem dX5_check_36 : decode cX5_check 36 = .ok (.invokevirtual 127, 3) := by decide +kernel
theorem dX5_check_39 : decode cX5_check 39 = .ok (.ireturn, 1) := by decide +kernel
set_option maxRecDepth 20000 in
theorem ggX5_issue_X5_requireSheet : GoodIn wsX5_issue wsX5_requireSheet := goodIn_ca (goodIn_r _ [8, 9, 10, 11, 92, 93, 94, 95, 96, 97, 98, 99, 100, 101, 102, 103, 104] (by decide +kernel) (by decide +kernel)) (goodIn_sub (fun _ h => List.mem_cons_of_mem _ (List.mem_append_right _ h)) (by decide +kernel))
set_option maxRecDepth 20000 in
theorem gX5_issue_X5_requireSheet : GoodIn wsX5_issue (wsV RX5 88 RX5 yX5_requireSheet wsX5_requireSheet) := goodIn_app (goodIn_of _ (by decide +kernel)) ggX5_issue_X5_requireSheet
set_option maxRecDepth 20000 in
theorem ggX5_issue_X5_isReadyToIssue : GoodIn wsX5_issue wsX5_isReadyToIssue := goodIn_r _ [15, 3, 16, 17, 18, 19, 20, 21, 22, 23, 24, 25, 26, 27, 28, 29, 7, 30, 31, 32, 33, 34, 35, 36, 37, 38, 39, 92, 93, 94, 95, 96, 97, 98, 99, 100, 101, 102, 103, 104, 105, 106, 107, 108, 109, 110, 111, 112, 113, 114, 115, 116, 117] (by decide +kernel) (by decide +kernel)
set_option maxRecDepth 20000 in
theorem gX5_issue_X5_isReadyToIssue : GoodIn wsX5_issue (wsV RX5 131 RX5 yX5_isReadyToIssue wsX5_isReadyToIssue) := goodIn_app (goodIn_of _ (by decide +kernel)) ggX5_issue_X5_isReadyToIssue
set_option maxRecDepth 20000 in
theorem ggX5_issue_X3_setIssued : GoodIn wsX5_issue wsX3_setIssued := goodIn_r _ [42, 25, 43, 44, 45, 46, 105, 106, 107, 108, 109, 110, 111, 112, 113, 114] (by decide +kernel) (by decide +kernel)
set_option maxRecDepth 20000 in
theorem gX5_issue_X3_setIssued_n137 : GoodIn wsX5_issue (wsX3_setIssued) := ggX5_issue_X3_setIssued
set_option maxRecDepth 20000 in
theorem ggX5_issue_X5_closePromised : GoodIn wsX5_issue wsX5_closePromised := goodIn_r _ [50, 51, 52, 92, 93, 94, 95, 96, 97, 98, 99, 100, 101, 102, 103, 104, 118, 119, 120] (by decide +kernel) (by decide +kernel)
set_option maxRecDepth 20000 in
theorem gX5_issue_X5_closePromised : GoodIn wsX5_issue (wsV RX5 140 RX5 yX5_closePromised wsX5_closePromised) := goodIn_app (goodIn_of _ (by decide +kernel)) ggX5_issue_X5_closePromised
set_option maxRecDepth 20000 in
theorem ggX5_issue_X5_stopUnfit : GoodIn wsX5_issue wsX5_stopUnfit := goodIn_r _ [56, 57, 58, 59, 60, 61, 7, 62, 63, 64, 65, 66, 67, 11, 37, 38, 39, 68, 69, 70, 71, 3, 27, 28, 29, 30, 31, 32, 33, 34, 35, 36, 72, 73, 74, 75, 51, 52, 76, 77, 78, 79, 80, 81, 82, 83, 84, 85, 86, 87, 88, 89, 90, 91, 92, 93, 94, 95, 96, 97, 98, 99, 100, 101, 102, 103, 104, 121, 122, 123, 124, 125, 126, 105, 106, 107, 108, 109, 110, 111, 112, 113, 114, 115, 116, 117, 118, 119, 120] (by decide +kernel) (by decide +kernel)
set_option maxRecDepth 20000 in
theorem gX5_issue_X5_stopUnfit : GoodIn wsX5_issue (wsV RX5 143 RX5 yX5_stopUnfit wsX5_stopUnfit) := goodIn_app (goodIn_of _ (by decide +kernel)) ggX5_issue_X5_stopUnfit
theorem dX5_issue_0 : decode cX5_issue 0 = .ok (.aload_n 0, 1) := by decide +kernel
theorem dX5_issue_1 : decode cX5_issue 1 = .ok (.iload_n 1, 1) := by decide +kernel
theorem dX5_issue_2 : decode cX5_issue 2 = .ok (.invokevirtual 88, 3) := by decide +kernel
theorem dX5_issue_5 : decode cX5_issue 5 = .ok (.aload_n 0, 1) := by decide +kernel
theorem dX5_issue_6 : decode cX5_issue 6 = .ok (.iload_n 1, 1) := by decide +kernel
theorem dX5_issue_7 : decode cX5_issue 7 = .ok (.invokevirtual 131, 3) := by decide +kernel
theorem dX5_issue_10 : decode cX5_issue 10 = .ok (.ifCond .ne 13, 3) := by decide +kernel
theorem dX5_issue_13 : decode cX5_issue 13 = .ok (.new 80, 3) := by decide +kernel
theorem dX5_issue_16 : decode cX5_issue 16 = .ok (.dup, 1) := by decide +kernel
theorem dX5_issue_17 : decode cX5_issue 17 = .ok (.ldc 135, 2) := by decide +kernel
theorem dX5_issue_19 : decode cX5_issue 19 = .ok (.invokespecial 84, 3) := by decide +kernel
theorem dX5_issue_22 : decode cX5_issue 22 = .ok (.athrow, 1) := by decide +kernel
theorem dX5_issue_23 : decode cX5_issue 23 = .ok (.aload_n 0, 1) := by decide +kernel
theorem dX5_issue_24 : decode cX5_issue 24 = .ok (.getfield 11, 3) := by decide +kernel
theorem dX5_issue_27 : decode cX5_issue 27 = .ok (.iload_n 1, 1) := by decide +kernel
theorem dX5_issue_28 : decode cX5_issue 28 = .ok (.aaload, 1) := by decide +kernel
theorem dX5_issue_29 : decode cX5_issue 29 = .ok (.astore_n 2, 1) := by decide +kernel
theorem dX5_issue_30 : decode cX5_issue 30 = .ok (.aload_n 2, 1) := by decide +kernel
theorem dX5_issue_31 : decode cX5_issue 31 = .ok (.aload_n 2, 1) := by decide +kernel
theorem dX5_issue_32 : decode cX5_issue 32 = .ok (.getfield 115, 3) := by decide +kernel
theorem dX5_issue_35 : decode cX5_issue 35 = .ok (.invokevirtual 137, 3) := by decide +kernel
theorem dX5_issue_38 : decode cX5_issue 38 = .ok (.aload_n 0, 1) := by decide +kernel
theorem dX5_issue_39 : decode cX5_issue 39 = .ok (.iload_n 1, 1) := by decide +kernel
theorem dX5_issue_40 : decode cX5_issue 40 = .ok (.invokevirtual 140, 3) := by decide +kernel
theorem dX5_issue_43 : decode cX5_issue 43 = .ok (.aload_n 0, 1) := by decide +kernel
theorem dX5_issue_44 : decode cX5_issue 44 = .ok (.invokevirtual 143, 3) := by decide +kernel
theorem dX5_issue_47 : decode cX5_issue 47 = .ok (.ireturn, 1) := by decide +kernel
set_option maxRecDepth 20000 in
theorem ggX5_refer_X5_requireSheet : GoodIn wsX5_refer wsX5_requireSheet := goodIn_ca (goodIn_r _ [15, 16, 17, 18, 90, 91, 92, 93, 94, 95, 96, 97, 98, 99, 100, 101, 102] (by decide +kernel) (by decide +kernel)) (goodIn_sub (fun _ h => List.mem_cons_of_mem _ (List.mem_append_right _ h)) (by decide +kernel))
set_option maxRecDepth 20000 in
theorem gX5_refer_X5_requireSheet : GoodIn wsX5_refer (wsV RX5 88 RX5 yX5_requireSheet wsX5_requireSheet) := goodIn_app (goodIn_of _ (by decide +kernel)) ggX5_refer_X5_requireSheet
set_option maxRecDepth 20000 in
theorem ggX5_refer_X3_lastStatus : GoodIn wsX5_refer wsX3_lastStatus := goodIn_r _ [22, 23, 24, 25, 26, 20, 27, 28, 29, 106, 107, 108, 109, 110, 111, 112, 113, 114, 115] (by decide +kernel) (by decide +kernel)
set_option maxRecDepth 20000 in
theorem gX5_refer_X3_lastStatus_n97 : GoodIn wsX5_refer (wsX3_lastStatus) := ggX5_refer_X3_lastStatus
set_option maxRecDepth 20000 in
theorem ggX5_refer_X1_init : GoodIn wsX5_refer wsX1_init := goodIn_r _ [31, 32, 33, 34, 35, 36, 37, 103, 104, 105] (by decide +kernel) (by decide +kernel)
set_option maxRecDepth 20000 in
theorem gX5_refer_X1_init_n150 : GoodIn wsX5_refer (wsX1_init) := ggX5_refer_X1_init
set_option maxRecDepth 20000 in
theorem ggX5_refer_X5_stopUnfit : GoodIn wsX5_refer wsX5_stopUnfit := goodIn_r _ [41, 42, 43, 44, 45, 46, 14, 47, 48, 49, 50, 51, 52, 18, 53, 54, 55, 56, 57, 58, 59, 6, 60, 61, 62, 63, 5, 7, 64, 65, 66, 67, 68, 69, 70, 71, 72, 73, 74, 75, 76, 77, 78, 79, 80, 81, 82, 83, 84, 85, 86, 87, 88, 89, 90, 91, 92, 93, 94, 95, 96, 97, 98, 99, 100, 101, 102, 116, 117, 118, 119, 120, 121, 106, 107, 108, 109, 110, 111, 112, 113, 114, 115, 103, 104, 105, 122, 123, 124] (by decide +kernel) (by decide +kernel)
set_option maxRecDepth 20000 in
theorem gX5_refer_X5_stopUnfit : GoodIn wsX5_refer (wsV RX5 143 RX5 yX5_stopUnfit wsX5_stopUnfit) := goodIn_app (goodIn_of _ (by decide +kernel)) ggX5_refer_X5_stopUnfit
theorem dX5_refer_0 : decode cX5_refer 0 = .ok (.aload_n 0, 1) := by decide +kernel
theorem dX5_refer_1 : decode cX5_refer 1 = .ok (.iload_n 1, 1) := by decide +kernel
theorem dX5_refer_2 : decode cX5_refer 2 = .ok (.invokevirtual 88, 3) := by decide +kernel
theorem dX5_refer_5 : decode cX5_refer 5 = .ok (.aload_n 0, 1) := by decide +kernel
theorem dX5_refer_6 : decode cX5_refer 6 = .ok (.iload_n 2, 1) := by decide +kernel
theorem dX5_refer_7 : decode cX5_refer 7 = .ok (.invokevirtual 88, 3) := by decide +kernel
theorem dX5_refer_10 : decode cX5_refer 10 = .ok (.iload_n 1, 1) := by decide +kernel
theorem dX5_refer_11 : decode cX5_refer 11 = .ok (.iload_n 2, 1) := by decide +kernel
theorem dX5_refer_12 : decode cX5_refer 12 = .ok (.if_icmp .eq 13, 3) := by decide +kernel
theorem dX5_refer_15 : decode cX5_refer 15 = .ok (.iload_n 3, 1) := by decide +kernel
theorem dX5_refer_16 : decode cX5_refer 16 = .ok (.ifCond .lt 9, 3) := by decide +kernel
theorem dX5_refer_19 : decode cX5_refer 19 = .ok (.iload_n 3, 1) := by decide +kernel
theorem dX5_refer_20 : decode cX5_refer 20 = .ok (.bipush 8, 2) := by decide +kernel
theorem dX5_refer_22 : decode cX5_refer 22 = .ok (.if_icmp .lt 13, 3) := by decide +kernel
theorem dX5_refer_25 : decode cX5_refer 25 = .ok (.new 73, 3) := by decide +kernel
theorem dX5_refer_28 : decode cX5_refer 28 = .ok (.dup, 1) := by decide +kernel
theorem dX5_refer_29 : decode cX5_refer 29 = .ok (.ldc 146, 2) := by decide +kernel
theorem dX5_refer_31 : decode cX5_refer 31 = .ok (.invokespecial 77, 3) := by decide +kernel
theorem dX5_refer_34 : decode cX5_refer 34 = .ok (.athrow, 1) := by decide +kernel
theorem dX5_refer_35 : decode cX5_refer 35 = .ok (.aload_n 0, 1) := by decide +kernel
theorem dX5_refer_36 : decode cX5_refer 36 = .ok (.getfield 52, 3) := by decide +kernel
theorem dX5_refer_39 : decode cX5_refer 39 = .ok (.bipush 20, 2) := by decide +kernel
theorem dX5_refer_41 : decode cX5_refer 41 = .ok (.if_icmp .ge 15, 3) := by decide +kernel
theorem dX5_refer_44 : decode cX5_refer 44 = .ok (.aload_n 0, 1) := by decide +kernel
theorem dX5_refer_45 : decode cX5_refer 45 = .ok (.getfield 11, 3) := by decide +kernel
theorem dX5_refer_48 : decode cX5_refer 48 = .ok (.iload_n 1, 1) := by decide +kernel
theorem dX5_refer_49 : decode cX5_refer 49 = .ok (.aaload, 1) := by decide +kernel
theorem dX5_refer_50 : decode cX5_refer 50 = .ok (.invokevirtual 97, 3) := by decide +kernel
theorem dX5_refer_53 : decode cX5_refer 53 = .ok (.ifCond .eq 13, 3) := by decide +kernel
theorem dX5_refer_56 : decode cX5_refer 56 = .ok (.new 80, 3) := by decide +kernel
theorem dX5_refer_59 : decode cX5_refer 59 = .ok (.dup, 1) := by decide +kernel
theorem dX5_refer_60 : decode cX5_refer 60 = .ok (.ldc 148, 2) := by decide +kernel
theorem dX5_refer_62 : decode cX5_refer 62 = .ok (.invokespecial 84, 3) := by decide +kernel
theorem dX5_refer_65 : decode cX5_refer 65 = .ok (.athrow, 1) := by decide +kernel
theorem dX5_refer_66 : decode cX5_refer 66 = .ok (.aload_n 0, 1) := by decide +kernel
theorem dX5_refer_67 : decode cX5_refer 67 = .ok (.getfield 52, 3) := by decide +kernel
theorem dX5_refer_70 : decode cX5_refer 70 = .ok (.istore 4, 2) := by decide +kernel
theorem dX5_refer_72 : decode cX5_refer 72 = .ok (.aload_n 0, 1) := by decide +kernel
theorem dX5_refer_73 : decode cX5_refer 73 = .ok (.getfield 17, 3) := by decide +kernel
theorem dX5_refer_76 : decode cX5_refer 76 = .ok (.iload 4, 2) := by decide +kernel
theorem dX5_refer_78 : decode cX5_refer 78 = .ok (.new 15, 3) := by decide +kernel
theorem dX5_refer_81 : decode cX5_refer 81 = .ok (.dup, 1) := by decide +kernel
theorem dX5_refer_82 : decode cX5_refer 82 = .ok (.iload_n 1, 1) := by decide +kernel
theorem dX5_refer_83 : decode cX5_refer 83 = .ok (.iload_n 2, 1) := by decide +kernel
theorem dX5_refer_84 : decode cX5_refer 84 = .ok (.iload_n 3, 1) := by decide +kernel
theorem dX5_refer_85 : decode cX5_refer 85 = .ok (.invokespecial 150, 3) := by decide +kernel
theorem dX5_refer_88 : decode cX5_refer 88 = .ok (.aastore, 1) := by decide +kernel
theorem dX5_refer_89 : decode cX5_refer 89 = .ok (.aload_n 0, 1) := by decide +kernel
theorem dX5_refer_90 : decode cX5_refer 90 = .ok (.dup, 1) := by decide +kernel
theorem dX5_refer_91 : decode cX5_refer 91 = .ok (.getfield 52, 3) := by decide +kernel
theorem dX5_refer_94 : decode cX5_refer 94 = .ok (.iconst 1, 1) := by decide +kernel
theorem dX5_refer_95 : decode cX5_refer 95 = .ok (.iadd, 1) := by decide +kernel
theorem dX5_refer_96 : decode cX5_refer 96 = .ok (.putfield 52, 3) := by decide +kernel
theorem dX5_refer_99 : decode cX5_refer 99 = .ok (.aload_n 0, 1) := by decide +kernel
theorem dX5_refer_100 : decode cX5_refer 100 = .ok (.invokevirtual 143, 3) := by decide +kernel
theorem dX5_refer_103 : decode cX5_refer 103 = .ok (.pop, 1) := by decide +kernel
theorem dX5_refer_104 : decode cX5_refer 104 = .ok (.iload 4, 2) := by decide +kernel
theorem dX5_refer_106 : decode cX5_refer 106 = .ok (.ireturn, 1) := by decide +kernel
set_option maxRecDepth 20000 in
theorem ggX5_ofSheet_X5_requireSheet : GoodIn wsX5_ofSheet wsX5_requireSheet := goodIn_ca (goodIn_r _ [8, 9, 10, 11, 63, 64, 65, 66, 67, 68, 69, 70, 71, 72, 73, 74, 75] (by decide +kernel) (by decide +kernel)) (goodIn_sub (fun _ h => List.mem_cons_of_mem _ (List.mem_append_right _ h)) (by decide +kernel))
set_option maxRecDepth 20000 in
theorem gX5_ofSheet_X5_requireSheet : GoodIn wsX5_ofSheet (wsV RX5 88 RX5 yX5_requireSheet wsX5_requireSheet) := goodIn_app (goodIn_of _ (by decide +kernel)) ggX5_ofSheet_X5_requireSheet
set_option maxRecDepth 20000 in
theorem ggX5_ofSheet_X3_lastStatus : GoodIn wsX5_ofSheet wsX3_lastStatus := goodIn_r _ [15, 16, 17, 18, 19, 13, 20, 21, 22, 76, 77, 78, 79, 80, 81, 82, 83, 84, 85] (by decide +kernel) (by decide +kernel)
set_option maxRecDepth 20000 in
theorem gX5_ofSheet_X3_lastStatus_n97 : GoodIn wsX5_ofSheet (wsX3_lastStatus) := ggX5_ofSheet_X3_lastStatus
set_option maxRecDepth 20000 in
theorem ggX5_ofSheet_X5_fieldsOf : GoodIn wsX5_ofSheet wsX5_fieldsOf := goodIn_r _ [25, 26, 27, 28, 29, 30, 31, 32, 33, 34] (by decide +kernel) (by decide +kernel)
set_option maxRecDepth 20000 in
theorem gX5_ofSheet_X5_fieldsOf : GoodIn wsX5_ofSheet (va_wsS RX5 111 yX5_fieldsOf wsX5_fieldsOf) := goodIn_app (goodIn_of _ (by decide +kernel)) ggX5_ofSheet_X5_fieldsOf
set_option maxRecDepth 20000 in
theorem ggX5_ofSheet_X5_brokenFrom : GoodIn wsX5_ofSheet wsX5_brokenFrom := goodIn_r _ [38, 39, 40, 41, 42, 43, 7, 44, 3, 45, 46, 47, 63, 64, 65, 66, 67, 68, 69, 70, 71, 72, 73, 74, 75, 86, 87, 88, 76, 77, 78, 79, 80, 81, 82, 83, 84, 85] (by decide +kernel) (by decide +kernel)
set_option maxRecDepth 20000 in
theorem gX5_ofSheet_X5_brokenFrom : GoodIn wsX5_ofSheet (wsV RX5 127 RX5 yX5_brokenFrom wsX5_brokenFrom) := goodIn_app (goodIn_of _ (by decide +kernel)) ggX5_ofSheet_X5_brokenFrom
set_option maxRecDepth 20000 in
theorem ggX5_ofSheet_X5_brokenTo : GoodIn wsX5_ofSheet wsX5_brokenTo := goodIn_r _ [51, 39, 40, 41, 42, 43, 7, 44, 3, 45, 46, 47, 63, 64, 65, 66, 67, 68, 69, 70, 71, 72, 73, 74, 75, 86, 87, 88, 76, 77, 78, 79, 80, 81, 82, 83, 84, 85] (by decide +kernel) (by decide +kernel)
set_option maxRecDepth 20000 in
theorem gX5_ofSheet_X5_brokenTo : GoodIn wsX5_ofSheet (wsV RX5 169 RX5 yX5_brokenTo wsX5_brokenTo) := goodIn_app (goodIn_of _ (by decide +kernel)) ggX5_ofSheet_X5_brokenTo
set_option maxRecDepth 20000 in
theorem ggX5_ofSheet_X5_clashesOf : GoodIn wsX5_ofSheet wsX5_clashesOf := goodIn_r _ [55, 11, 56, 57, 58, 7, 59, 3, 45, 46, 47, 60, 61, 62, 26, 27, 63, 64, 65, 66, 67, 68, 69, 70, 71, 72, 73, 74, 75, 76, 77, 78, 79, 80, 81, 82, 83, 84, 85] (by decide +kernel) (by decide +kernel)
set_option maxRecDepth 20000 in
theorem gX5_ofSheet_X5_clashesOf : GoodIn wsX5_ofSheet (wsV RX5 172 RX5 yX5_clashesOf wsX5_clashesOf) := goodIn_app (goodIn_of _ (by decide +kernel)) ggX5_ofSheet_X5_clashesOf
theorem dX5_ofSheet_0 : decode cX5_ofSheet 0 = .ok (.aload_n 0, 1) := by decide +kernel
theorem dX5_ofSheet_1 : decode cX5_ofSheet 1 = .ok (.iload_n 1, 1) := by decide +kernel
theorem dX5_ofSheet_2 : decode cX5_ofSheet 2 = .ok (.invokevirtual 88, 3) := by decide +kernel
theorem dX5_ofSheet_5 : decode cX5_ofSheet 5 = .ok (.aload_n 0, 1) := by decide +kernel
theorem dX5_ofSheet_6 : decode cX5_ofSheet 6 = .ok (.getfield 11, 3) := by decide +kernel
theorem dX5_ofSheet_9 : decode cX5_ofSheet 9 = .ok (.iload_n 1, 1) := by decide +kernel
theorem dX5_ofSheet_10 : decode cX5_ofSheet 10 = .ok (.aaload, 1) := by decide +kernel
theorem dX5_ofSheet_11 : decode cX5_ofSheet 11 = .ok (.astore_n 3, 1) := by decide +kernel
theorem dX5_ofSheet_12 : decode cX5_ofSheet 12 = .ok (.iload_n 2, 1) := by decide +kernel
theorem dX5_ofSheet_13 : decode cX5_ofSheet 13 = .ok (.tableswitch 113 0 9 #[55, 60, 67, 72, 77, 85, 90, 95, 101, 107], 55) := by decide +kernel
theorem dX5_ofSheet_68 : decode cX5_ofSheet 68 = .ok (.aload_n 3, 1) := by decide +kernel
theorem dX5_ofSheet_69 : decode cX5_ofSheet 69 = .ok (.getfield 153, 3) := by decide +kernel
theorem dX5_ofSheet_72 : decode cX5_ofSheet 72 = .ok (.ireturn, 1) := by decide +kernel
theorem dX5_ofSheet_73 : decode cX5_ofSheet 73 = .ok (.aload_n 3, 1) := by decide +kernel
theorem dX5_ofSheet_74 : decode cX5_ofSheet 74 = .ok (.getfield 115, 3) := by decide +kernel
theorem dX5_ofSheet_77 : decode cX5_ofSheet 77 = .ok (.iconst 1, 1) := by decide +kernel
theorem dX5_ofSheet_78 : decode cX5_ofSheet 78 = .ok (.iadd, 1) := by decide +kernel
theorem dX5_ofSheet_79 : decode cX5_ofSheet 79 = .ok (.ireturn, 1) := by decide +kernel
theorem dX5_ofSheet_80 : decode cX5_ofSheet 80 = .ok (.aload_n 3, 1) := by decide +kernel
theorem dX5_ofSheet_81 : decode cX5_ofSheet 81 = .ok (.getfield 156, 3) := by decide +kernel
theorem dX5_ofSheet_84 : decode cX5_ofSheet 84 = .ok (.ireturn, 1) := by decide +kernel
theorem dX5_ofSheet_85 : decode cX5_ofSheet 85 = .ok (.aload_n 3, 1) := by decide +kernel
theorem dX5_ofSheet_86 : decode cX5_ofSheet 86 = .ok (.invokevirtual 97, 3) := by decide +kernel
theorem dX5_ofSheet_89 : decode cX5_ofSheet 89 = .ok (.ireturn, 1) := by decide +kernel
theorem dX5_ofSheet_90 : decode cX5_ofSheet 90 = .ok (.aload_n 3, 1) := by decide +kernel
theorem dX5_ofSheet_91 : decode cX5_ofSheet 91 = .ok (.getfield 159, 3) := by decide +kernel
theorem dX5_ofSheet_94 : decode cX5_ofSheet 94 = .ok (.invokestatic 111, 3) := by decide +kernel
theorem dX5_ofSheet_97 : decode cX5_ofSheet 97 = .ok (.ireturn, 1) := by decide +kernel
theorem dX5_ofSheet_98 : decode cX5_ofSheet 98 = .ok (.aload_n 3, 1) := by decide +kernel
theorem dX5_ofSheet_99 : decode cX5_ofSheet 99 = .ok (.getfield 163, 3) := by decide +kernel
theorem dX5_ofSheet_102 : decode cX5_ofSheet 102 = .ok (.ireturn, 1) := by decide +kernel
theorem dX5_ofSheet_103 : decode cX5_ofSheet 103 = .ok (.aload_n 3, 1) := by decide +kernel
theorem dX5_ofSheet_104 : decode cX5_ofSheet 104 = .ok (.getfield 166, 3) := by decide +kernel
theorem dX5_ofSheet_107 : decode cX5_ofSheet 107 = .ok (.ireturn, 1) := by decide +kernel
theorem dX5_ofSheet_108 : decode cX5_ofSheet 108 = .ok (.aload_n 0, 1) := by decide +kernel
theorem dX5_ofSheet_109 : decode cX5_ofSheet 109 = .ok (.iload_n 1, 1) := by decide +kernel
theorem dX5_ofSheet_110 : decode cX5_ofSheet 110 = .ok (.invokevirtual 127, 3) := by decide +kernel
theorem dX5_ofSheet_113 : decode cX5_ofSheet 113 = .ok (.ireturn, 1) := by decide +kernel
theorem dX5_ofSheet_114 : decode cX5_ofSheet 114 = .ok (.aload_n 0, 1) := by decide +kernel
theorem dX5_ofSheet_115 : decode cX5_ofSheet 115 = .ok (.iload_n 1, 1) := by decide +kernel
theorem dX5_ofSheet_116 : decode cX5_ofSheet 116 = .ok (.invokevirtual 169, 3) := by decide +kernel
theorem dX5_ofSheet_119 : decode cX5_ofSheet 119 = .ok (.ireturn, 1) := by decide +kernel
theorem dX5_ofSheet_120 : decode cX5_ofSheet 120 = .ok (.aload_n 0, 1) := by decide +kernel
theorem dX5_ofSheet_121 : decode cX5_ofSheet 121 = .ok (.iload_n 1, 1) := by decide +kernel
theorem dX5_ofSheet_122 : decode cX5_ofSheet 122 = .ok (.invokevirtual 172, 3) := by decide +kernel
theorem dX5_ofSheet_125 : decode cX5_ofSheet 125 = .ok (.ireturn, 1) := by decide +kernel
theorem dX5_ofSheet_126 : decode cX5_ofSheet 126 = .ok (.new 73, 3) := by decide +kernel
theorem dX5_ofSheet_129 : decode cX5_ofSheet 129 = .ok (.dup, 1) := by decide +kernel
theorem dX5_ofSheet_130 : decode cX5_ofSheet 130 = .ok (.ldc 175, 2) := by decide +kernel
theorem dX5_ofSheet_132 : decode cX5_ofSheet 132 = .ok (.invokespecial 77, 3) := by decide +kernel
theorem dX5_ofSheet_135 : decode cX5_ofSheet 135 = .ok (.athrow, 1) := by decide +kernel
set_option maxRecDepth 20000 in
theorem ggX5_status_X5_requireSheet : GoodIn wsX5_status wsX5_requireSheet := goodIn_ca (goodIn_r _ [8, 1, 2, 9, 16, 17, 18, 19, 20, 21, 22, 23, 24, 25, 26, 27, 28] (by decide +kernel) (by decide +kernel)) (goodIn_sub (fun _ h => List.mem_cons_of_mem _ (List.mem_append_right _ h)) (by decide +kernel))
set_option maxRecDepth 20000 in
theorem gX5_status_X5_requireSheet : GoodIn wsX5_status (wsV RX5 88 RX5 yX5_requireSheet wsX5_requireSheet) := goodIn_app (goodIn_of _ (by decide +kernel)) ggX5_status_X5_requireSheet
set_option maxRecDepth 20000 in
theorem ggX5_status_X3_statusOf : GoodIn wsX5_status wsX3_statusOf := goodIn_r _ [13, 14, 15, 29, 30, 31, 32, 33, 34, 35, 36, 37, 38] (by decide +kernel) (by decide +kernel)
set_option maxRecDepth 20000 in
theorem gX5_status_X3_statusOf_n182 : GoodIn wsX5_status (wsX3_statusOf) := ggX5_status_X3_statusOf
theorem dX5_status_0 : decode cX5_status 0 = .ok (.aload_n 0, 1) := by decide +kernel
theorem dX5_status_1 : decode cX5_status 1 = .ok (.iload_n 1, 1) := by decide +kernel
theorem dX5_status_2 : decode cX5_status 2 = .ok (.invokevirtual 88, 3) := by decide +kernel
theorem dX5_status_5 : decode cX5_status 5 = .ok (.aload_n 0, 1) := by decide +kernel
theorem dX5_status_6 : decode cX5_status 6 = .ok (.getfield 11, 3) := by decide +kernel
theorem dX5_status_9 : decode cX5_status 9 = .ok (.iload_n 1, 1) := by decide +kernel
theorem dX5_status_10 : decode cX5_status 10 = .ok (.aaload, 1) := by decide +kernel
theorem dX5_status_11 : decode cX5_status 11 = .ok (.astore_n 3, 1) := by decide +kernel
theorem dX5_status_12 : decode cX5_status 12 = .ok (.iload_n 2, 1) := by decide +kernel
theorem dX5_status_13 : decode cX5_status 13 = .ok (.ifCond .lt 11, 3) := by decide +kernel
theorem dX5_status_16 : decode cX5_status 16 = .ok (.iload_n 2, 1) := by decide +kernel
theorem dX5_status_17 : decode cX5_status 17 = .ok (.aload_n 3, 1) := by decide +kernel
theorem dX5_status_18 : decode cX5_status 18 = .ok (.getfield 115, 3) := by decide +kernel
theorem dX5_status_21 : decode cX5_status 21 = .ok (.if_icmp .le 13, 3) := by decide +kernel
theorem dX5_status_24 : decode cX5_status 24 = .ok (.new 177, 3) := by decide +kernel
theorem dX5_status_27 : decode cX5_status 27 = .ok (.dup, 1) := by decide +kernel
theorem dX5_status_28 : decode cX5_status 28 = .ok (.ldc 179, 2) := by decide +kernel
theorem dX5_status_30 : decode cX5_status 30 = .ok (.invokespecial 181, 3) := by decide +kernel
theorem dX5_status_33 : decode cX5_status 33 = .ok (.athrow, 1) := by decide +kernel
theorem dX5_status_34 : decode cX5_status 34 = .ok (.aload_n 3, 1) := by decide +kernel
theorem dX5_status_35 : decode cX5_status 35 = .ok (.iload_n 2, 1) := by decide +kernel
theorem dX5_status_36 : decode cX5_status 36 = .ok (.invokevirtual 182, 3) := by decide +kernel
theorem dX5_status_39 : decode cX5_status 39 = .ok (.ireturn, 1) := by decide +kernel
set_option maxRecDepth 20000 in
theorem ggX5_send_X5_isSetOfSheets : GoodIn wsX5_send wsX5_isSetOfSheets := goodIn_r _ [15, 16, 42, 43, 44, 45, 46, 47, 48, 49, 50, 51, 52, 53, 54] (by decide +kernel) (by decide +kernel)
set_option maxRecDepth 20000 in
theorem gX5_send_X5_isSetOfSheets : GoodIn wsX5_send (wsV RX5 191 RX5 yX5_isSetOfSheets wsX5_isSetOfSheets) := goodIn_app (goodIn_of _ (by decide +kernel)) ggX5_send_X5_isSetOfSheets
set_option maxRecDepth 20000 in
theorem ggX5_send_X5_areAllIssued : GoodIn wsX5_send wsX5_areAllIssued := goodIn_r _ [20, 16, 21, 22, 23, 14, 24, 42, 43, 44, 45, 46, 47, 48, 49, 50, 51, 52, 53, 54, 58, 59, 60, 61, 62, 63, 64, 65, 66, 67] (by decide +kernel) (by decide +kernel)
set_option maxRecDepth 20000 in
theorem gX5_send_X5_areAllIssued : GoodIn wsX5_send (wsV RX5 196 RX5 yX5_areAllIssued wsX5_areAllIssued) := goodIn_app (goodIn_of _ (by decide +kernel)) ggX5_send_X5_areAllIssued
set_option maxRecDepth 20000 in
theorem ggX5_send_X2_init : GoodIn wsX5_send wsX2_init := goodIn_r _ [26, 27, 28, 29, 30, 31, 32, 33, 34, 35, 36, 37, 55, 56, 57] (by decide +kernel) (by decide +kernel)
set_option maxRecDepth 20000 in
theorem gX5_send_X2_init_n201 : GoodIn wsX5_send (wsX2_init) := ggX5_send_X2_init
set_option maxRecDepth 20000 in
theorem ggX5_send_X5_packSheets : GoodIn wsX5_send wsX5_packSheets := goodIn_r _ [41, 16, 21, 22, 23, 14, 24, 42, 43, 44, 45, 46, 47, 48, 49, 50, 51, 52, 53, 54, 55, 56, 57, 58, 59, 60, 61, 62, 63, 64, 65, 66, 67] (by decide +kernel) (by decide +kernel)
set_option maxRecDepth 20000 in
theorem gX5_send_X5_packSheets : GoodIn wsX5_send (wsV RX5 204 RX5 yX5_packSheets wsX5_packSheets) := goodIn_app (goodIn_of _ (by decide +kernel)) ggX5_send_X5_packSheets
theorem dX5_send_0 : decode cX5_send 0 = .ok (.iload_n 1, 1) := by decide +kernel
theorem dX5_send_1 : decode cX5_send 1 = .ok (.iconst 1, 1) := by decide +kernel
theorem dX5_send_2 : decode cX5_send 2 = .ok (.if_icmp .lt 17, 3) := by decide +kernel
theorem dX5_send_5 : decode cX5_send 5 = .ok (.iload_n 1, 1) := by decide +kernel
theorem dX5_send_6 : decode cX5_send 6 = .ok (.bipush 15, 2) := by decide +kernel
theorem dX5_send_8 : decode cX5_send 8 = .ok (.if_icmp .gt 11, 3) := by decide +kernel
theorem dX5_send_11 : decode cX5_send 11 = .ok (.aload_n 0, 1) := by decide +kernel
theorem dX5_send_12 : decode cX5_send 12 = .ok (.iload_n 2, 1) := by decide +kernel
theorem dX5_send_13 : decode cX5_send 13 = .ok (.invokevirtual 191, 3) := by decide +kernel
theorem dX5_send_16 : decode cX5_send 16 = .ok (.ifCond .ne 13, 3) := by decide +kernel
theorem dX5_send_19 : decode cX5_send 19 = .ok (.new 73, 3) := by decide +kernel
theorem dX5_send_22 : decode cX5_send 22 = .ok (.dup, 1) := by decide +kernel
theorem dX5_send_23 : decode cX5_send 23 = .ok (.ldc 194, 2) := by decide +kernel
theorem dX5_send_25 : decode cX5_send 25 = .ok (.invokespecial 77, 3) := by decide +kernel
theorem dX5_send_28 : decode cX5_send 28 = .ok (.athrow, 1) := by decide +kernel
theorem dX5_send_29 : decode cX5_send 29 = .ok (.aload_n 0, 1) := by decide +kernel
theorem dX5_send_30 : decode cX5_send 30 = .ok (.getfield 55, 3) := by decide +kernel
theorem dX5_send_33 : decode cX5_send 33 = .ok (.bipush 20, 2) := by decide +kernel
theorem dX5_send_35 : decode cX5_send 35 = .ok (.if_icmp .ge 11, 3) := by decide +kernel
theorem dX5_send_38 : decode cX5_send 38 = .ok (.aload_n 0, 1) := by decide +kernel
theorem dX5_send_39 : decode cX5_send 39 = .ok (.iload_n 2, 1) := by decide +kernel
theorem dX5_send_40 : decode cX5_send 40 = .ok (.invokevirtual 196, 3) := by decide +kernel
theorem dX5_send_43 : decode cX5_send 43 = .ok (.ifCond .ne 13, 3) := by decide +kernel
theorem dX5_send_46 : decode cX5_send 46 = .ok (.new 80, 3) := by decide +kernel
theorem dX5_send_49 : decode cX5_send 49 = .ok (.dup, 1) := by decide +kernel
theorem dX5_send_50 : decode cX5_send 50 = .ok (.ldc 199, 2) := by decide +kernel
theorem dX5_send_52 : decode cX5_send 52 = .ok (.invokespecial 84, 3) := by decide +kernel
theorem dX5_send_55 : decode cX5_send 55 = .ok (.athrow, 1) := by decide +kernel
theorem dX5_send_56 : decode cX5_send 56 = .ok (.aload_n 0, 1) := by decide +kernel
theorem dX5_send_57 : decode cX5_send 57 = .ok (.getfield 55, 3) := by decide +kernel
theorem dX5_send_60 : decode cX5_send 60 = .ok (.istore_n 3, 1) := by decide +kernel
theorem dX5_send_61 : decode cX5_send 61 = .ok (.new 21, 3) := by decide +kernel
theorem dX5_send_64 : decode cX5_send 64 = .ok (.dup, 1) := by decide +kernel
theorem dX5_send_65 : decode cX5_send 65 = .ok (.iload_n 1, 1) := by decide +kernel
theorem dX5_send_66 : decode cX5_send 66 = .ok (.aload_n 0, 1) := by decide +kernel
theorem dX5_send_67 : decode cX5_send 67 = .ok (.getfield 64, 3) := by decide +kernel
theorem dX5_send_70 : decode cX5_send 70 = .ok (.invokespecial 201, 3) := by decide +kernel
theorem dX5_send_73 : decode cX5_send 73 = .ok (.astore 4, 2) := by decide +kernel
theorem dX5_send_75 : decode cX5_send 75 = .ok (.aload_n 0, 1) := by decide +kernel
theorem dX5_send_76 : decode cX5_send 76 = .ok (.aload 4, 2) := by decide +kernel
theorem dX5_send_78 : decode cX5_send 78 = .ok (.iload_n 2, 1) := by decide +kernel
theorem dX5_send_79 : decode cX5_send 79 = .ok (.invokevirtual 204, 3) := by decide +kernel
theorem dX5_send_82 : decode cX5_send 82 = .ok (.aload_n 0, 1) := by decide +kernel
theorem dX5_send_83 : decode cX5_send 83 = .ok (.getfield 23, 3) := by decide +kernel
theorem dX5_send_86 : decode cX5_send 86 = .ok (.iload_n 3, 1) := by decide +kernel
theorem dX5_send_87 : decode cX5_send 87 = .ok (.aload 4, 2) := by decide +kernel
theorem dX5_send_89 : decode cX5_send 89 = .ok (.aastore, 1) := by decide +kernel
theorem dX5_send_90 : decode cX5_send 90 = .ok (.aload_n 0, 1) := by decide +kernel
theorem dX5_send_91 : decode cX5_send 91 = .ok (.dup, 1) := by decide +kernel
theorem dX5_send_92 : decode cX5_send 92 = .ok (.getfield 55, 3) := by decide +kernel
theorem dX5_send_95 : decode cX5_send 95 = .ok (.iconst 1, 1) := by decide +kernel
theorem dX5_send_96 : decode cX5_send 96 = .ok (.iadd, 1) := by decide +kernel
theorem dX5_send_97 : decode cX5_send 97 = .ok (.putfield 55, 3) := by decide +kernel
theorem dX5_send_100 : decode cX5_send 100 = .ok (.iload_n 3, 1) := by decide +kernel
theorem dX5_send_101 : decode cX5_send 101 = .ok (.ireturn, 1) := by decide +kernel
set_option maxRecDepth 20000 in
theorem ggX5_receive_X5_requireCrew : GoodIn wsX5_receive wsX5_requireCrew := goodIn_ca (goodIn_r _ [11, 1, 2] (by decide +kernel) (by decide +kernel)) (goodIn_sub (fun _ h => List.mem_cons_of_mem _ (List.mem_append_left _ (List.mem_append_right _ h))) (by decide +kernel))
set_option maxRecDepth 20000 in
theorem gX5_receive_X5_requireCrew : GoodIn wsX5_receive (va_wsS RX5 210 yX5_requireCrew wsX5_requireCrew) := goodIn_app (goodIn_of _ (by decide +kernel)) ggX5_receive_X5_requireCrew
set_option maxRecDepth 20000 in
theorem ggX5_receive_X5_isIn : GoodIn wsX5_receive wsX5_isIn := goodIn_r _ [14] (by decide +kernel) (by decide +kernel)
set_option maxRecDepth 20000 in
theorem gX5_receive_X5_isIn : GoodIn wsX5_receive (va_wsS RX5 216 yX5_isIn wsX5_isIn) := goodIn_app (goodIn_of _ (by decide +kernel)) ggX5_receive_X5_isIn
set_option maxRecDepth 20000 in
theorem ggX5_receive_X5_takeLater : GoodIn wsX5_receive wsX5_takeLater := goodIn_r _ [17, 31, 32, 33] (by decide +kernel) (by decide +kernel)
set_option maxRecDepth 20000 in
theorem gX5_receive_X5_takeLater : GoodIn wsX5_receive (va_wsS RX5 222 yX5_takeLater wsX5_takeLater) := goodIn_app (goodIn_of _ (by decide +kernel)) ggX5_receive_X5_takeLater
theorem dX5_receive_0 : decode cX5_receive 0 = .ok (.iload_n 1, 1) := by decide +kernel
theorem dX5_receive_1 : decode cX5_receive 1 = .ok (.ifCond .lt 11, 3) := by decide +kernel
theorem dX5_receive_4 : decode cX5_receive 4 = .ok (.iload_n 1, 1) := by decide +kernel
theorem dX5_receive_5 : decode cX5_receive 5 = .ok (.aload_n 0, 1) := by decide +kernel
theorem dX5_receive_6 : decode cX5_receive 6 = .ok (.getfield 55, 3) := by decide +kernel
theorem dX5_receive_9 : decode cX5_receive 9 = .ok (.if_icmp .lt 13, 3) := by decide +kernel
theorem dX5_receive_12 : decode cX5_receive 12 = .ok (.new 177, 3) := by decide +kernel
theorem dX5_receive_15 : decode cX5_receive 15 = .ok (.dup, 1) := by decide +kernel
theorem dX5_receive_16 : decode cX5_receive 16 = .ok (.ldc 208, 2) := by decide +kernel
theorem dX5_receive_18 : decode cX5_receive 18 = .ok (.invokespecial 181, 3) := by decide +kernel
theorem dX5_receive_21 : decode cX5_receive 21 = .ok (.athrow, 1) := by decide +kernel
theorem dX5_receive_22 : decode cX5_receive 22 = .ok (.iload_n 2, 1) := by decide +kernel
theorem dX5_receive_23 : decode cX5_receive 23 = .ok (.invokestatic 210, 3) := by decide +kernel
theorem dX5_receive_26 : decode cX5_receive 26 = .ok (.aload_n 0, 1) := by decide +kernel
theorem dX5_receive_27 : decode cX5_receive 27 = .ok (.getfield 23, 3) := by decide +kernel
theorem dX5_receive_30 : decode cX5_receive 30 = .ok (.iload_n 1, 1) := by decide +kernel
theorem dX5_receive_31 : decode cX5_receive 31 = .ok (.aaload, 1) := by decide +kernel
theorem dX5_receive_32 : decode cX5_receive 32 = .ok (.astore_n 3, 1) := by decide +kernel
theorem dX5_receive_33 : decode cX5_receive 33 = .ok (.aload_n 3, 1) := by decide +kernel
theorem dX5_receive_34 : decode cX5_receive 34 = .ok (.getfield 213, 3) := by decide +kernel
theorem dX5_receive_37 : decode cX5_receive 37 = .ok (.iload_n 2, 1) := by decide +kernel
theorem dX5_receive_38 : decode cX5_receive 38 = .ok (.invokestatic 216, 3) := by decide +kernel
theorem dX5_receive_41 : decode cX5_receive 41 = .ok (.ifCond .ne 13, 3) := by decide +kernel
theorem dX5_receive_44 : decode cX5_receive 44 = .ok (.new 80, 3) := by decide +kernel
theorem dX5_receive_47 : decode cX5_receive 47 = .ok (.dup, 1) := by decide +kernel
theorem dX5_receive_48 : decode cX5_receive 48 = .ok (.ldc 220, 2) := by decide +kernel
theorem dX5_receive_50 : decode cX5_receive 50 = .ok (.invokespecial 84, 3) := by decide +kernel
theorem dX5_receive_53 : decode cX5_receive 53 = .ok (.athrow, 1) := by decide +kernel
theorem dX5_receive_54 : decode cX5_receive 54 = .ok (.aload_n 3, 1) := by decide +kernel
theorem dX5_receive_55 : decode cX5_receive 55 = .ok (.dup, 1) := by decide +kernel
theorem dX5_receive_56 : decode cX5_receive 56 = .ok (.getfield 213, 3) := by decide +kernel
theorem dX5_receive_59 : decode cX5_receive 59 = .ok (.iconst 1, 1) := by decide +kernel
theorem dX5_receive_60 : decode cX5_receive 60 = .ok (.iload_n 2, 1) := by decide +kernel
theorem dX5_receive_61 : decode cX5_receive 61 = .ok (.ishl, 1) := by decide +kernel
theorem dX5_receive_62 : decode cX5_receive 62 = .ok (.iconst (-1), 1) := by decide +kernel
theorem dX5_receive_63 : decode cX5_receive 63 = .ok (.ixor, 1) := by decide +kernel
theorem dX5_receive_64 : decode cX5_receive 64 = .ok (.iand, 1) := by decide +kernel
theorem dX5_receive_65 : decode cX5_receive 65 = .ok (.putfield 213, 3) := by decide +kernel
theorem dX5_receive_68 : decode cX5_receive 68 = .ok (.aload_n 3, 1) := by decide +kernel
theorem dX5_receive_69 : decode cX5_receive 69 = .ok (.aload_n 0, 1) := by decide +kernel
theorem dX5_receive_70 : decode cX5_receive 70 = .ok (.getfield 41, 3) := by decide +kernel
theorem dX5_receive_73 : decode cX5_receive 73 = .ok (.iload_n 2, 1) := by decide +kernel
theorem dX5_receive_74 : decode cX5_receive 74 = .ok (.aaload, 1) := by decide +kernel
theorem dX5_receive_75 : decode cX5_receive 75 = .ok (.invokestatic 222, 3) := by decide +kernel
theorem dX5_receive_78 : decode cX5_receive 78 = .ok (.ireturn, 1) := by decide +kernel
set_option maxRecDepth 20000 in
theorem ggX5_has_X5_requireCrew : GoodIn wsX5_has wsX5_requireCrew := goodIn_ca (goodIn_r _ [5, 6, 7] (by decide +kernel) (by decide +kernel)) (goodIn_sub (fun _ h => List.mem_cons_of_mem _ (List.mem_append_right _ h)) (by decide +kernel))
set_option maxRecDepth 20000 in
theorem gX5_has_X5_requireCrew : GoodIn wsX5_has (va_wsS RX5 210 yX5_requireCrew wsX5_requireCrew) := goodIn_app (goodIn_of _ (by decide +kernel)) ggX5_has_X5_requireCrew
set_option maxRecDepth 20000 in
theorem ggX5_has_X5_requireSheet : GoodIn wsX5_has wsX5_requireSheet := goodIn_ca (goodIn_r _ [11, 6, 7, 12, 13, 14, 15, 16, 17, 18, 19, 20, 21, 22, 23, 24, 25] (by decide +kernel) (by decide +kernel)) (goodIn_sub (fun _ h => List.mem_cons_of_mem _ (List.mem_append_right _ h)) (by decide +kernel))
set_option maxRecDepth 20000 in
theorem gX5_has_X5_requireSheet : GoodIn wsX5_has (wsV RX5 88 RX5 yX5_requireSheet wsX5_requireSheet) := goodIn_app (goodIn_of _ (by decide +kernel)) ggX5_has_X5_requireSheet
theorem dX5_has_0 : decode cX5_has 0 = .ok (.iload_n 1, 1) := by decide +kernel
theorem dX5_has_1 : decode cX5_has 1 = .ok (.invokestatic 210, 3) := by decide +kernel
theorem dX5_has_4 : decode cX5_has 4 = .ok (.aload_n 0, 1) := by decide +kernel
theorem dX5_has_5 : decode cX5_has 5 = .ok (.iload_n 2, 1) := by decide +kernel
theorem dX5_has_6 : decode cX5_has 6 = .ok (.invokevirtual 88, 3) := by decide +kernel
theorem dX5_has_9 : decode cX5_has 9 = .ok (.aload_n 0, 1) := by decide +kernel
theorem dX5_has_10 : decode cX5_has 10 = .ok (.getfield 41, 3) := by decide +kernel
theorem dX5_has_13 : decode cX5_has 13 = .ok (.iload_n 1, 1) := by decide +kernel
theorem dX5_has_14 : decode cX5_has 14 = .ok (.aaload, 1) := by decide +kernel
theorem dX5_has_15 : decode cX5_has 15 = .ok (.iload_n 2, 1) := by decide +kernel
theorem dX5_has_16 : decode cX5_has 16 = .ok (.iaload, 1) := by decide +kernel
theorem dX5_has_17 : decode cX5_has 17 = .ok (.ireturn, 1) := by decide +kernel
set_option maxRecDepth 20000 in
theorem ggX5_owes_X5_requireCrew : GoodIn wsX5_owes wsX5_requireCrew := goodIn_ca (goodIn_r _ [7, 8, 9] (by decide +kernel) (by decide +kernel)) (goodIn_sub (fun _ h => List.mem_cons_of_mem _ (List.mem_append_right _ h)) (by decide +kernel))
set_option maxRecDepth 20000 in
theorem gX5_owes_X5_requireCrew : GoodIn wsX5_owes (va_wsS RX5 210 yX5_requireCrew wsX5_requireCrew) := goodIn_app (goodIn_of _ (by decide +kernel)) ggX5_owes_X5_requireCrew
set_option maxRecDepth 20000 in
theorem ggX5_owes_X5_isIn : GoodIn wsX5_owes wsX5_isIn := goodIn_r _ [12] (by decide +kernel) (by decide +kernel)
set_option maxRecDepth 20000 in
theorem gX5_owes_X5_isIn : GoodIn wsX5_owes (va_wsS RX5 216 yX5_isIn wsX5_isIn) := goodIn_app (goodIn_of _ (by decide +kernel)) ggX5_owes_X5_isIn
theorem dX5_owes_0 : decode cX5_owes 0 = .ok (.iload_n 1, 1) := by decide +kernel
theorem dX5_owes_1 : decode cX5_owes 1 = .ok (.invokestatic 210, 3) := by decide +kernel
theorem dX5_owes_4 : decode cX5_owes 4 = .ok (.iconst 0, 1) := by decide +kernel
theorem dX5_owes_5 : decode cX5_owes 5 = .ok (.istore_n 2, 1) := by decide +kernel
theorem dX5_owes_6 : decode cX5_owes 6 = .ok (.iconst 0, 1) := by decide +kernel
theorem dX5_owes_7 : decode cX5_owes 7 = .ok (.istore_n 3, 1) := by decide +kernel
theorem dX5_owes_8 : decode cX5_owes 8 = .ok (.iload_n 3, 1) := by decide +kernel
theorem dX5_owes_9 : decode cX5_owes 9 = .ok (.aload_n 0, 1) := by decide +kernel
theorem dX5_owes_10 : decode cX5_owes 10 = .ok (.getfield 55, 3) := by decide +kernel
theorem dX5_owes_13 : decode cX5_owes 13 = .ok (.if_icmp .ge 46, 3) := by decide +kernel
theorem dX5_owes_16 : decode cX5_owes 16 = .ok (.aload_n 0, 1) := by decide +kernel
theorem dX5_owes_17 : decode cX5_owes 17 = .ok (.getfield 23, 3) := by decide +kernel
theorem dX5_owes_20 : decode cX5_owes 20 = .ok (.iload_n 3, 1) := by decide +kernel
theorem dX5_owes_21 : decode cX5_owes 21 = .ok (.aaload, 1) := by decide +kernel
theorem dX5_owes_22 : decode cX5_owes 22 = .ok (.astore 4, 2) := by decide +kernel
theorem dX5_owes_24 : decode cX5_owes 24 = .ok (.aload 4, 2) := by decide +kernel
theorem dX5_owes_26 : decode cX5_owes 26 = .ok (.getfield 213, 3) := by decide +kernel
theorem dX5_owes_29 : decode cX5_owes 29 = .ok (.iload_n 1, 1) := by decide +kernel
theorem dX5_owes_30 : decode cX5_owes 30 = .ok (.invokestatic 216, 3) := by decide +kernel
theorem dX5_owes_33 : decode cX5_owes 33 = .ok (.ifCond .eq 20, 3) := by decide +kernel
theorem dX5_owes_36 : decode cX5_owes 36 = .ok (.aload_n 0, 1) := by decide +kernel
theorem dX5_owes_37 : decode cX5_owes 37 = .ok (.getfield 64, 3) := by decide +kernel
theorem dX5_owes_40 : decode cX5_owes 40 = .ok (.aload 4, 2) := by decide +kernel
theorem dX5_owes_42 : decode cX5_owes 42 = .ok (.getfield 226, 3) := by decide +kernel
theorem dX5_owes_45 : decode cX5_owes 45 = .ok (.isub, 1) := by decide +kernel
theorem dX5_owes_46 : decode cX5_owes 46 = .ok (.iconst 5, 1) := by decide +kernel
theorem dX5_owes_47 : decode cX5_owes 47 = .ok (.if_icmp .le 6, 3) := by decide +kernel
theorem dX5_owes_50 : decode cX5_owes 50 = .ok (.iinc 2 1, 3) := by decide +kernel
theorem dX5_owes_53 : decode cX5_owes 53 = .ok (.iinc 3 1, 3) := by decide +kernel
theorem dX5_owes_56 : decode cX5_owes 56 = .ok (.goto (-48), 3) := by decide +kernel
theorem dX5_owes_59 : decode cX5_owes 59 = .ok (.iload_n 2, 1) := by decide +kernel
theorem dX5_owes_60 : decode cX5_owes 60 = .ok (.ireturn, 1) := by decide +kernel
set_option maxRecDepth 20000 in
theorem ggX5_query_X5_requireSheet : GoodIn wsX5_query wsX5_requireSheet := goodIn_ca (goodIn_r _ [13, 14, 15, 16, 89, 90, 91, 92, 93, 94, 95, 96, 97, 98, 99, 100, 101] (by decide +kernel) (by decide +kernel)) (goodIn_sub (fun _ h => List.mem_cons_of_mem _ (List.mem_append_left _ (List.mem_append_right _ h))) (by decide +kernel))
set_option maxRecDepth 20000 in
theorem gX5_query_X5_requireSheet : GoodIn wsX5_query (wsV RX5 88 RX5 yX5_requireSheet wsX5_requireSheet) := goodIn_app (goodIn_of _ (by decide +kernel)) ggX5_query_X5_requireSheet
set_option maxRecDepth 20000 in
theorem ggX5_query_X5_requireRegion : GoodIn wsX5_query wsX5_requireRegion := goodIn_ca (goodIn_r _ [19, 20, 21] (by decide +kernel) (by decide +kernel)) (goodIn_sub (fun _ h => List.mem_cons_of_mem _ (List.mem_append_right _ h)) (by decide +kernel))
set_option maxRecDepth 20000 in
theorem gX5_query_X5_requireRegion : GoodIn wsX5_query (va_wsS RX5 91 yX5_requireRegion wsX5_requireRegion) := goodIn_app (goodIn_of _ (by decide +kernel)) ggX5_query_X5_requireRegion
set_option maxRecDepth 20000 in
theorem ggX5_query_X5_regionOf : GoodIn wsX5_query wsX5_regionOf := goodIn_r _ [24, 25, 26, 12, 27, 28] (by decide +kernel) (by decide +kernel)
set_option maxRecDepth 20000 in
theorem gX5_query_X5_regionOf : GoodIn wsX5_query (va_wsS RX5 103 yX5_regionOf wsX5_regionOf) := goodIn_app (goodIn_of _ (by decide +kernel)) ggX5_query_X5_regionOf
set_option maxRecDepth 20000 in
theorem ggX5_query_X0_init : GoodIn wsX5_query wsX0_init := goodIn_r _ [30, 31, 32, 33, 34, 35, 36, 112, 113, 114] (by decide +kernel) (by decide +kernel)
set_option maxRecDepth 20000 in
theorem gX5_query_X0_init_n231 : GoodIn wsX5_query (wsX0_init) := ggX5_query_X0_init
set_option maxRecDepth 20000 in
theorem ggX5_query_X5_stopUnfit : GoodIn wsX5_query wsX5_stopUnfit := goodIn_r _ [40, 41, 42, 43, 44, 45, 12, 46, 47, 48, 49, 50, 51, 16, 52, 53, 54, 55, 56, 57, 58, 4, 59, 60, 61, 62, 63, 64, 65, 66, 67, 68, 69, 70, 71, 72, 3, 5, 73, 74, 75, 76, 77, 78, 79, 80, 81, 82, 83, 84, 85, 86, 87, 88, 89, 90, 91, 92, 93, 94, 95, 96, 97, 98, 99, 100, 101, 115, 116, 117, 118, 119, 120, 102, 103, 104, 105, 106, 107, 108, 109, 110, 111, 121, 122, 123, 112, 113, 114] (by decide +kernel) (by decide +kernel)
set_option maxRecDepth 20000 in
theorem gX5_query_X5_stopUnfit : GoodIn wsX5_query (wsV RX5 143 RX5 yX5_stopUnfit wsX5_stopUnfit) := goodIn_app (goodIn_of _ (by decide +kernel)) ggX5_query_X5_stopUnfit
theorem dX5_query_0 : decode cX5_query 0 = .ok (.aload_n 0, 1) := by decide +kernel
theorem dX5_query_1 : decode cX5_query 1 = .ok (.iload_n 1, 1) := by decide +kernel
theorem dX5_query_2 : decode cX5_query 2 = .ok (.invokevirtual 88, 3) := by decide +kernel
theorem dX5_query_5 : decode cX5_query 5 = .ok (.iload_n 2, 1) := by decide +kernel
theorem dX5_query_6 : decode cX5_query 6 = .ok (.iload_n 3, 1) := by decide +kernel
theorem dX5_query_7 : decode cX5_query 7 = .ok (.iload 4, 2) := by decide +kernel
theorem dX5_query_9 : decode cX5_query 9 = .ok (.iload 5, 2) := by decide +kernel
theorem dX5_query_11 : decode cX5_query 11 = .ok (.invokestatic 91, 3) := by decide +kernel
theorem dX5_query_14 : decode cX5_query 14 = .ok (.aload_n 0, 1) := by decide +kernel
theorem dX5_query_15 : decode cX5_query 15 = .ok (.getfield 58, 3) := by decide +kernel
theorem dX5_query_18 : decode cX5_query 18 = .ok (.bipush 20, 2) := by decide +kernel
theorem dX5_query_20 : decode cX5_query 20 = .ok (.if_icmp .ge 16, 3) := by decide +kernel
theorem dX5_query_23 : decode cX5_query 23 = .ok (.aload_n 0, 1) := by decide +kernel
theorem dX5_query_24 : decode cX5_query 24 = .ok (.getfield 11, 3) := by decide +kernel
theorem dX5_query_27 : decode cX5_query 27 = .ok (.iload_n 1, 1) := by decide +kernel
theorem dX5_query_28 : decode cX5_query 28 = .ok (.aaload, 1) := by decide +kernel
theorem dX5_query_29 : decode cX5_query 29 = .ok (.getfield 156, 3) := by decide +kernel
theorem dX5_query_32 : decode cX5_query 32 = .ok (.iconst (-1), 1) := by decide +kernel
theorem dX5_query_33 : decode cX5_query 33 = .ok (.if_icmp .ne 13, 3) := by decide +kernel
theorem dX5_query_36 : decode cX5_query 36 = .ok (.new 80, 3) := by decide +kernel
theorem dX5_query_39 : decode cX5_query 39 = .ok (.dup, 1) := by decide +kernel
theorem dX5_query_40 : decode cX5_query 40 = .ok (.ldc 229, 2) := by decide +kernel
theorem dX5_query_42 : decode cX5_query 42 = .ok (.invokespecial 84, 3) := by decide +kernel
theorem dX5_query_45 : decode cX5_query 45 = .ok (.athrow, 1) := by decide +kernel
theorem dX5_query_46 : decode cX5_query 46 = .ok (.aload_n 0, 1) := by decide +kernel
theorem dX5_query_47 : decode cX5_query 47 = .ok (.getfield 58, 3) := by decide +kernel
theorem dX5_query_50 : decode cX5_query 50 = .ok (.istore 6, 2) := by decide +kernel
theorem dX5_query_52 : decode cX5_query 52 = .ok (.aload_n 0, 1) := by decide +kernel
theorem dX5_query_53 : decode cX5_query 53 = .ok (.getfield 29, 3) := by decide +kernel
theorem dX5_query_56 : decode cX5_query 56 = .ok (.iload 6, 2) := by decide +kernel
theorem dX5_query_58 : decode cX5_query 58 = .ok (.new 27, 3) := by decide +kernel
theorem dX5_query_61 : decode cX5_query 61 = .ok (.dup, 1) := by decide +kernel
theorem dX5_query_62 : decode cX5_query 62 = .ok (.iload_n 1, 1) := by decide +kernel
theorem dX5_query_63 : decode cX5_query 63 = .ok (.iload_n 2, 1) := by decide +kernel
theorem dX5_query_64 : decode cX5_query 64 = .ok (.iload_n 3, 1) := by decide +kernel
theorem dX5_query_65 : decode cX5_query 65 = .ok (.iload 4, 2) := by decide +kernel
theorem dX5_query_67 : decode cX5_query 67 = .ok (.iload 5, 2) := by decide +kernel
theorem dX5_query_69 : decode cX5_query 69 = .ok (.invokestatic 103, 3) := by decide +kernel
theorem dX5_query_72 : decode cX5_query 72 = .ok (.invokespecial 231, 3) := by decide +kernel
theorem dX5_query_75 : decode cX5_query 75 = .ok (.aastore, 1) := by decide +kernel
theorem dX5_query_76 : decode cX5_query 76 = .ok (.aload_n 0, 1) := by decide +kernel
theorem dX5_query_77 : decode cX5_query 77 = .ok (.dup, 1) := by decide +kernel
theorem dX5_query_78 : decode cX5_query 78 = .ok (.getfield 58, 3) := by decide +kernel
theorem dX5_query_81 : decode cX5_query 81 = .ok (.iconst 1, 1) := by decide +kernel
theorem dX5_query_82 : decode cX5_query 82 = .ok (.iadd, 1) := by decide +kernel
theorem dX5_query_83 : decode cX5_query 83 = .ok (.putfield 58, 3) := by decide +kernel
theorem dX5_query_86 : decode cX5_query 86 = .ok (.aload_n 0, 1) := by decide +kernel
theorem dX5_query_87 : decode cX5_query 87 = .ok (.invokevirtual 143, 3) := by decide +kernel
theorem dX5_query_90 : decode cX5_query 90 = .ok (.pop, 1) := by decide +kernel
theorem dX5_query_91 : decode cX5_query 91 = .ok (.iload 6, 2) := by decide +kernel
theorem dX5_query_93 : decode cX5_query 93 = .ok (.ireturn, 1) := by decide +kernel
set_option maxRecDepth 20000 in
theorem ggX5_ofQuery_X5_requireQuery : GoodIn wsX5_ofQuery wsX5_requireQuery := goodIn_ca (goodIn_r _ [6, 7, 8, 9, 10, 11, 12, 13, 14, 15, 16, 17, 18, 19, 20, 21, 22] (by decide +kernel) (by decide +kernel)) (goodIn_sub (fun _ h => List.mem_cons_of_mem _ (List.mem_append_right _ h)) (by decide +kernel))
set_option maxRecDepth 20000 in
theorem gX5_ofQuery_X5_requireQuery : GoodIn wsX5_ofQuery (wsV RX5 234 RX5 yX5_requireQuery wsX5_requireQuery) := goodIn_app (goodIn_of _ (by decide +kernel)) ggX5_ofQuery_X5_requireQuery
theorem dX5_ofQuery_0 : decode cX5_ofQuery 0 = .ok (.aload_n 0, 1) := by decide +kernel
theorem dX5_ofQuery_1 : decode cX5_ofQuery 1 = .ok (.iload_n 1, 1) := by decide +kernel
theorem dX5_ofQuery_2 : decode cX5_ofQuery 2 = .ok (.invokevirtual 234, 3) := by decide +kernel
theorem dX5_ofQuery_5 : decode cX5_ofQuery 5 = .ok (.aload_n 0, 1) := by decide +kernel
theorem dX5_ofQuery_6 : decode cX5_ofQuery 6 = .ok (.getfield 29, 3) := by decide +kernel
theorem dX5_ofQuery_9 : decode cX5_ofQuery 9 = .ok (.iload_n 1, 1) := by decide +kernel
theorem dX5_ofQuery_10 : decode cX5_ofQuery 10 = .ok (.aaload, 1) := by decide +kernel
theorem dX5_ofQuery_11 : decode cX5_ofQuery 11 = .ok (.getfield 237, 3) := by decide +kernel
theorem dX5_ofQuery_14 : decode cX5_ofQuery 14 = .ok (.ireturn, 1) := by decide +kernel
set_option maxRecDepth 20000 in
theorem ggX5_clash_X5_requireTwoSheets : GoodIn wsX5_clash wsX5_requireTwoSheets := goodIn_ca (goodIn_ca (goodIn_r _ [5, 6, 7, 8, 9, 10, 4, 11, 12, 13, 14, 35, 36, 37, 38, 39, 40, 41, 42, 43, 44, 45, 46, 47] (by decide +kernel) (by decide +kernel)) (goodIn_sub (fun _ h => List.mem_cons_of_mem _ (List.mem_append_left _ (List.mem_append_right _ h))) (by decide +kernel))) (goodIn_sub (fun _ h => List.mem_cons_of_mem _ (List.mem_append_right _ h)) (by decide +kernel))
set_option maxRecDepth 20000 in
theorem gX5_clash_X5_requireTwoSheets : GoodIn wsX5_clash (wsV RX5 242 RX5 yX5_requireTwoSheets wsX5_requireTwoSheets) := goodIn_app (goodIn_of _ (by decide +kernel)) ggX5_clash_X5_requireTwoSheets
set_option maxRecDepth 20000 in
theorem ggX5_clash_X5_clashRegion : GoodIn wsX5_clash wsX5_clashRegion := goodIn_r _ [18, 19, 20, 21, 4, 22, 35, 36, 37, 38, 39, 40, 41, 42, 43, 44, 45, 46, 47, 48, 49, 50, 51, 52, 53, 54, 55, 56, 57] (by decide +kernel) (by decide +kernel)
set_option maxRecDepth 20000 in
theorem gX5_clash_X5_clashRegion : GoodIn wsX5_clash (wsV RX5 245 RX5 yX5_clashRegion wsX5_clashRegion) := goodIn_app (goodIn_of _ (by decide +kernel)) ggX5_clash_X5_clashRegion
set_option maxRecDepth 20000 in
theorem ggX5_clash_X5_fieldsOf : GoodIn wsX5_clash wsX5_fieldsOf := goodIn_r _ [25, 26, 27, 28, 29, 30, 31, 32, 33, 34] (by decide +kernel) (by decide +kernel)
set_option maxRecDepth 20000 in
theorem gX5_clash_X5_fieldsOf : GoodIn wsX5_clash (va_wsS RX5 111 yX5_fieldsOf wsX5_fieldsOf) := goodIn_app (goodIn_of _ (by decide +kernel)) ggX5_clash_X5_fieldsOf
theorem dX5_clash_0 : decode cX5_clash 0 = .ok (.aload_n 0, 1) := by decide +kernel
theorem dX5_clash_1 : decode cX5_clash 1 = .ok (.iload_n 1, 1) := by decide +kernel
theorem dX5_clash_2 : decode cX5_clash 2 = .ok (.iload_n 2, 1) := by decide +kernel
theorem dX5_clash_3 : decode cX5_clash 3 = .ok (.invokevirtual 242, 3) := by decide +kernel
theorem dX5_clash_6 : decode cX5_clash 6 = .ok (.aload_n 0, 1) := by decide +kernel
theorem dX5_clash_7 : decode cX5_clash 7 = .ok (.iload_n 1, 1) := by decide +kernel
theorem dX5_clash_8 : decode cX5_clash 8 = .ok (.iload_n 2, 1) := by decide +kernel
theorem dX5_clash_9 : decode cX5_clash 9 = .ok (.invokevirtual 245, 3) := by decide +kernel
theorem dX5_clash_12 : decode cX5_clash 12 = .ok (.invokestatic 111, 3) := by decide +kernel
theorem dX5_clash_15 : decode cX5_clash 15 = .ok (.ireturn, 1) := by decide +kernel
set_option maxRecDepth 20000 in
theorem ggX5_clouds_X5_requireSheet : GoodIn wsX5_clouds wsX5_requireSheet := goodIn_ca (goodIn_r _ [5, 6, 7, 8, 40, 41, 42, 43, 44, 45, 46, 47, 48, 49, 50, 51, 52] (by decide +kernel) (by decide +kernel)) (goodIn_sub (fun _ h => List.mem_cons_of_mem _ (List.mem_append_left _ (List.mem_append_right _ h))) (by decide +kernel))
set_option maxRecDepth 20000 in
theorem gX5_clouds_X5_requireSheet : GoodIn wsX5_clouds (wsV RX5 88 RX5 yX5_requireSheet wsX5_requireSheet) := goodIn_app (goodIn_of _ (by decide +kernel)) ggX5_clouds_X5_requireSheet
set_option maxRecDepth 20000 in
theorem ggX5_clouds_X5_requireRegion : GoodIn wsX5_clouds wsX5_requireRegion := goodIn_ca (goodIn_r _ [11, 12, 13] (by decide +kernel) (by decide +kernel)) (goodIn_sub (fun _ h => List.mem_cons_of_mem _ (List.mem_append_right _ h)) (by decide +kernel))
set_option maxRecDepth 20000 in
theorem gX5_clouds_X5_requireRegion : GoodIn wsX5_clouds (va_wsS RX5 91 yX5_requireRegion wsX5_requireRegion) := goodIn_app (goodIn_of _ (by decide +kernel)) ggX5_clouds_X5_requireRegion
set_option maxRecDepth 20000 in
theorem ggX5_clouds_X5_regionOf : GoodIn wsX5_clouds wsX5_regionOf := goodIn_r _ [16, 17, 18, 4, 19, 20] (by decide +kernel) (by decide +kernel)
set_option maxRecDepth 20000 in
theorem gX5_clouds_X5_regionOf : GoodIn wsX5_clouds (va_wsS RX5 103 yX5_regionOf wsX5_regionOf) := goodIn_app (goodIn_of _ (by decide +kernel)) ggX5_clouds_X5_regionOf
set_option maxRecDepth 20000 in
theorem ggX5_clouds_X5_cloudsOver : GoodIn wsX5_clouds wsX5_cloudsOver := goodIn_r _ [24, 25, 26, 8, 27, 28, 4, 29, 30, 31, 32, 33, 34, 35, 36, 37, 38, 39, 40, 41, 42, 43, 44, 45, 46, 47, 48, 49, 50, 51, 52, 53, 54, 55, 56, 57, 58, 59, 60, 61, 62, 63, 64, 65] (by decide +kernel) (by decide +kernel)
set_option maxRecDepth 20000 in
theorem gX5_clouds_X5_cloudsOver : GoodIn wsX5_clouds (wsV RX5 252 RX5 yX5_cloudsOver wsX5_cloudsOver) := goodIn_app (goodIn_of _ (by decide +kernel)) ggX5_clouds_X5_cloudsOver
theorem dX5_clouds_0 : decode cX5_clouds 0 = .ok (.aload_n 0, 1) := by decide +kernel
theorem dX5_clouds_1 : decode cX5_clouds 1 = .ok (.iload_n 1, 1) := by decide +kernel
theorem dX5_clouds_2 : decode cX5_clouds 2 = .ok (.invokevirtual 88, 3) := by decide +kernel
theorem dX5_clouds_5 : decode cX5_clouds 5 = .ok (.iload_n 2, 1) := by decide +kernel
theorem dX5_clouds_6 : decode cX5_clouds 6 = .ok (.iload_n 3, 1) := by decide +kernel
theorem dX5_clouds_7 : decode cX5_clouds 7 = .ok (.iload_n 2, 1) := by decide +kernel
theorem dX5_clouds_8 : decode cX5_clouds 8 = .ok (.iload_n 3, 1) := by decide +kernel
theorem dX5_clouds_9 : decode cX5_clouds 9 = .ok (.invokestatic 91, 3) := by decide +kernel
theorem dX5_clouds_12 : decode cX5_clouds 12 = .ok (.aload_n 0, 1) := by decide +kernel
theorem dX5_clouds_13 : decode cX5_clouds 13 = .ok (.iload_n 1, 1) := by decide +kernel
theorem dX5_clouds_14 : decode cX5_clouds 14 = .ok (.iload_n 2, 1) := by decide +kernel
theorem dX5_clouds_15 : decode cX5_clouds 15 = .ok (.iload_n 3, 1) := by decide +kernel
theorem dX5_clouds_16 : decode cX5_clouds 16 = .ok (.iload_n 2, 1) := by decide +kernel
theorem dX5_clouds_17 : decode cX5_clouds 17 = .ok (.iload_n 3, 1) := by decide +kernel
theorem dX5_clouds_18 : decode cX5_clouds 18 = .ok (.invokestatic 103, 3) := by decide +kernel
theorem dX5_clouds_21 : decode cX5_clouds 21 = .ok (.invokevirtual 252, 3) := by decide +kernel
theorem dX5_clouds_24 : decode cX5_clouds 24 = .ok (.ireturn, 1) := by decide +kernel
set_option maxRecDepth 20000 in
theorem ggX5_pack_X5_requireCrew : GoodIn wsX5_pack wsX5_requireCrew := goodIn_ca (goodIn_r _ [13, 14, 15] (by decide +kernel) (by decide +kernel)) (goodIn_sub (fun _ h => List.mem_cons_of_mem _ (List.mem_append_right _ h)) (by decide +kernel))
set_option maxRecDepth 20000 in
theorem gX5_pack_X5_requireCrew : GoodIn wsX5_pack (va_wsS RX5 210 yX5_requireCrew wsX5_requireCrew) := goodIn_app (goodIn_of _ (by decide +kernel)) ggX5_pack_X5_requireCrew
set_option maxRecDepth 20000 in
theorem ggX5_pack_X5_isSetOfSheets : GoodIn wsX5_pack wsX5_isSetOfSheets := goodIn_r _ [19, 20, 33, 34, 35, 36, 37, 38, 39, 40, 41, 42, 43, 44, 45] (by decide +kernel) (by decide +kernel)
set_option maxRecDepth 20000 in
theorem gX5_pack_X5_isSetOfSheets : GoodIn wsX5_pack (wsV RX5 191 RX5 yX5_isSetOfSheets wsX5_isSetOfSheets) := goodIn_app (goodIn_of _ (by decide +kernel)) ggX5_pack_X5_isSetOfSheets
set_option maxRecDepth 20000 in
theorem ggX5_pack_X4_init : GoodIn wsX5_pack wsX4_init := goodIn_r _ [22, 23, 24, 25, 26, 27, 28, 29, 30, 31, 32, 46, 47, 48, 49, 50, 51] (by decide +kernel) (by decide +kernel)
set_option maxRecDepth 20000 in
theorem gX5_pack_X4_init_n260 : GoodIn wsX5_pack (wsX4_init) := ggX5_pack_X4_init
theorem dX5_pack_0 : decode cX5_pack 0 = .ok (.iload_n 1, 1) := by decide +kernel
theorem dX5_pack_1 : decode cX5_pack 1 = .ok (.invokestatic 210, 3) := by decide +kernel
theorem dX5_pack_4 : decode cX5_pack 4 = .ok (.aload_n 0, 1) := by decide +kernel
theorem dX5_pack_5 : decode cX5_pack 5 = .ok (.iload_n 2, 1) := by decide +kernel
theorem dX5_pack_6 : decode cX5_pack 6 = .ok (.invokevirtual 191, 3) := by decide +kernel
theorem dX5_pack_9 : decode cX5_pack 9 = .ok (.ifCond .eq 14, 3) := by decide +kernel
theorem dX5_pack_12 : decode cX5_pack 12 = .ok (.iload_n 3, 1) := by decide +kernel
theorem dX5_pack_13 : decode cX5_pack 13 = .ok (.iconst 1, 1) := by decide +kernel
theorem dX5_pack_14 : decode cX5_pack 14 = .ok (.if_icmp .lt 9, 3) := by decide +kernel
theorem dX5_pack_17 : decode cX5_pack 17 = .ok (.iload_n 3, 1) := by decide +kernel
theorem dX5_pack_18 : decode cX5_pack 18 = .ok (.bipush 9, 2) := by decide +kernel
theorem dX5_pack_20 : decode cX5_pack 20 = .ok (.if_icmp .le 14, 3) := by decide +kernel
theorem dX5_pack_23 : decode cX5_pack 23 = .ok (.new 73, 3) := by decide +kernel
theorem dX5_pack_26 : decode cX5_pack 26 = .ok (.dup, 1) := by decide +kernel
theorem dX5_pack_27 : decode cX5_pack 27 = .ok (.ldc_w 256, 3) := by decide +kernel
theorem dX5_pack_30 : decode cX5_pack 30 = .ok (.invokespecial 77, 3) := by decide +kernel
theorem dX5_pack_33 : decode cX5_pack 33 = .ok (.athrow, 1) := by decide +kernel
theorem dX5_pack_34 : decode cX5_pack 34 = .ok (.aload_n 0, 1) := by decide +kernel
theorem dX5_pack_35 : decode cX5_pack 35 = .ok (.getfield 61, 3) := by decide +kernel
theorem dX5_pack_38 : decode cX5_pack 38 = .ok (.bipush 8, 2) := by decide +kernel
theorem dX5_pack_40 : decode cX5_pack 40 = .ok (.if_icmp .lt 14, 3) := by decide +kernel
theorem dX5_pack_43 : decode cX5_pack 43 = .ok (.new 80, 3) := by decide +kernel
theorem dX5_pack_46 : decode cX5_pack 46 = .ok (.dup, 1) := by decide +kernel
theorem dX5_pack_47 : decode cX5_pack 47 = .ok (.ldc_w 258, 3) := by decide +kernel
theorem dX5_pack_50 : decode cX5_pack 50 = .ok (.invokespecial 84, 3) := by decide +kernel
theorem dX5_pack_53 : decode cX5_pack 53 = .ok (.athrow, 1) := by decide +kernel
theorem dX5_pack_54 : decode cX5_pack 54 = .ok (.aload_n 0, 1) := by decide +kernel
theorem dX5_pack_55 : decode cX5_pack 55 = .ok (.getfield 61, 3) := by decide +kernel
theorem dX5_pack_58 : decode cX5_pack 58 = .ok (.istore 4, 2) := by decide +kernel
theorem dX5_pack_60 : decode cX5_pack 60 = .ok (.aload_n 0, 1) := by decide +kernel
theorem dX5_pack_61 : decode cX5_pack 61 = .ok (.getfield 35, 3) := by decide +kernel
theorem dX5_pack_64 : decode cX5_pack 64 = .ok (.iload 4, 2) := by decide +kernel
theorem dX5_pack_66 : decode cX5_pack 66 = .ok (.new 33, 3) := by decide +kernel
theorem dX5_pack_69 : decode cX5_pack 69 = .ok (.dup, 1) := by decide +kernel
theorem dX5_pack_70 : decode cX5_pack 70 = .ok (.iload_n 1, 1) := by decide +kernel
theorem dX5_pack_71 : decode cX5_pack 71 = .ok (.iload_n 2, 1) := by decide +kernel
theorem dX5_pack_72 : decode cX5_pack 72 = .ok (.iload_n 3, 1) := by decide +kernel
theorem dX5_pack_73 : decode cX5_pack 73 = .ok (.invokespecial 260, 3) := by decide +kernel
theorem dX5_pack_76 : decode cX5_pack 76 = .ok (.aastore, 1) := by decide +kernel
theorem dX5_pack_77 : decode cX5_pack 77 = .ok (.aload_n 0, 1) := by decide +kernel
theorem dX5_pack_78 : decode cX5_pack 78 = .ok (.dup, 1) := by decide +kernel
theorem dX5_pack_79 : decode cX5_pack 79 = .ok (.getfield 61, 3) := by decide +kernel
theorem dX5_pack_82 : decode cX5_pack 82 = .ok (.iconst 1, 1) := by decide +kernel
theorem dX5_pack_83 : decode cX5_pack 83 = .ok (.iadd, 1) := by decide +kernel
theorem dX5_pack_84 : decode cX5_pack 84 = .ok (.putfield 61, 3) := by decide +kernel
theorem dX5_pack_87 : decode cX5_pack 87 = .ok (.iload 4, 2) := by decide +kernel
theorem dX5_pack_89 : decode cX5_pack 89 = .ok (.ireturn, 1) := by decide +kernel
set_option maxRecDepth 20000 in
theorem ggX5_place_X5_requirePackage : GoodIn wsX5_place wsX5_requirePackage := goodIn_ca (goodIn_r _ [8, 9, 10, 11, 88, 89, 90, 91, 92, 93, 94, 95, 96, 97, 98, 99, 100] (by decide +kernel) (by decide +kernel)) (goodIn_sub (fun _ h => List.mem_cons_of_mem _ (List.mem_append_left _ (List.mem_append_right _ h))) (by decide +kernel))
set_option maxRecDepth 20000 in
theorem gX5_place_X5_requirePackage : GoodIn wsX5_place (wsV RX5 261 RX5 yX5_requirePackage wsX5_requirePackage) := goodIn_app (goodIn_of _ (by decide +kernel)) ggX5_place_X5_requirePackage
set_option maxRecDepth 20000 in
theorem ggX5_place_X5_requireRegion : GoodIn wsX5_place wsX5_requireRegion := goodIn_ca (goodIn_r _ [14, 15, 16] (by decide +kernel) (by decide +kernel)) (goodIn_sub (fun _ h => List.mem_cons_of_mem _ (List.mem_append_right _ h)) (by decide +kernel))
set_option maxRecDepth 20000 in
theorem gX5_place_X5_requireRegion : GoodIn wsX5_place (va_wsS RX5 91 yX5_requireRegion wsX5_requireRegion) := goodIn_app (goodIn_of _ (by decide +kernel)) ggX5_place_X5_requireRegion
set_option maxRecDepth 20000 in
theorem ggX5_place_X5_regionOf : GoodIn wsX5_place wsX5_regionOf := goodIn_r _ [19, 20, 21, 7, 22, 23] (by decide +kernel) (by decide +kernel)
set_option maxRecDepth 20000 in
theorem gX5_place_X5_regionOf : GoodIn wsX5_place (va_wsS RX5 103 yX5_regionOf wsX5_regionOf) := goodIn_app (goodIn_of _ (by decide +kernel)) ggX5_place_X5_regionOf
set_option maxRecDepth 20000 in
theorem ggX5_place_X5_stopUnfit : GoodIn wsX5_place wsX5_stopUnfit := goodIn_r _ [27, 11, 3, 28, 29, 30, 7, 31, 32, 33, 34, 35, 36, 37, 38, 39, 40, 41, 42, 43, 44, 45, 46, 47, 48, 49, 50, 51, 52, 53, 54, 55, 56, 57, 58, 59, 60, 61, 62, 63, 64, 65, 66, 67, 68, 69, 70, 71, 72, 73, 74, 75, 76, 77, 88, 89, 90, 91, 92, 93, 94, 95, 96, 97, 98, 99, 100, 101, 102, 103, 104, 105, 106, 107, 108, 109, 110, 111, 112, 113, 114, 115, 116, 117, 118, 119, 120, 121, 122] (by decide +kernel) (by decide +kernel)
set_option maxRecDepth 20000 in
theorem gX5_place_X5_stopUnfit : GoodIn wsX5_place (wsV RX5 143 RX5 yX5_stopUnfit wsX5_stopUnfit) := goodIn_app (goodIn_of _ (by decide +kernel)) ggX5_place_X5_stopUnfit
set_option maxRecDepth 20000 in
theorem ggX5_place_X5_fieldsOf : GoodIn wsX5_place wsX5_fieldsOf := goodIn_r _ [80, 65, 66, 81, 82, 83, 84, 85, 86, 87] (by decide +kernel) (by decide +kernel)
set_option maxRecDepth 20000 in
theorem gX5_place_X5_fieldsOf : GoodIn wsX5_place (va_wsS RX5 111 yX5_fieldsOf wsX5_fieldsOf) := goodIn_app (goodIn_of _ (by decide +kernel)) ggX5_place_X5_fieldsOf
theorem dX5_place_0 : decode cX5_place 0 = .ok (.aload_n 0, 1) := by decide +kernel
theorem dX5_place_1 : decode cX5_place 1 = .ok (.iload_n 1, 1) := by decide +kernel
theorem dX5_place_2 : decode cX5_place 2 = .ok (.invokevirtual 261, 3) := by decide +kernel
theorem dX5_place_5 : decode cX5_place 5 = .ok (.iload_n 2, 1) := by decide +kernel
theorem dX5_place_6 : decode cX5_place 6 = .ok (.iload_n 3, 1) := by decide +kernel
theorem dX5_place_7 : decode cX5_place 7 = .ok (.iload 4, 2) := by decide +kernel
theorem dX5_place_9 : decode cX5_place 9 = .ok (.iload 5, 2) := by decide +kernel
theorem dX5_place_11 : decode cX5_place 11 = .ok (.invokestatic 91, 3) := by decide +kernel
theorem dX5_place_14 : decode cX5_place 14 = .ok (.aload_n 0, 1) := by decide +kernel
theorem dX5_place_15 : decode cX5_place 15 = .ok (.getfield 35, 3) := by decide +kernel
theorem dX5_place_18 : decode cX5_place 18 = .ok (.iload_n 1, 1) := by decide +kernel
theorem dX5_place_19 : decode cX5_place 19 = .ok (.aaload, 1) := by decide +kernel
theorem dX5_place_20 : decode cX5_place 20 = .ok (.astore 6, 2) := by decide +kernel
theorem dX5_place_22 : decode cX5_place 22 = .ok (.aload 6, 2) := by decide +kernel
theorem dX5_place_24 : decode cX5_place 24 = .ok (.getfield 264, 3) := by decide +kernel
theorem dX5_place_27 : decode cX5_place 27 = .ok (.iconst 3, 1) := by decide +kernel
theorem dX5_place_28 : decode cX5_place 28 = .ok (.if_icmp .ne 14, 3) := by decide +kernel
theorem dX5_place_31 : decode cX5_place 31 = .ok (.new 80, 3) := by decide +kernel
theorem dX5_place_34 : decode cX5_place 34 = .ok (.dup, 1) := by decide +kernel
theorem dX5_place_35 : decode cX5_place 35 = .ok (.ldc_w 265, 3) := by decide +kernel
theorem dX5_place_38 : decode cX5_place 38 = .ok (.invokespecial 84, 3) := by decide +kernel
theorem dX5_place_41 : decode cX5_place 41 = .ok (.athrow, 1) := by decide +kernel
theorem dX5_place_42 : decode cX5_place 42 = .ok (.aload 6, 2) := by decide +kernel
theorem dX5_place_44 : decode cX5_place 44 = .ok (.iload_n 2, 1) := by decide +kernel
theorem dX5_place_45 : decode cX5_place 45 = .ok (.iload_n 3, 1) := by decide +kernel
theorem dX5_place_46 : decode cX5_place 46 = .ok (.iload 4, 2) := by decide +kernel
theorem dX5_place_48 : decode cX5_place 48 = .ok (.iload 5, 2) := by decide +kernel
theorem dX5_place_50 : decode cX5_place 50 = .ok (.invokestatic 103, 3) := by decide +kernel
theorem dX5_place_53 : decode cX5_place 53 = .ok (.putfield 267, 3) := by decide +kernel
theorem dX5_place_56 : decode cX5_place 56 = .ok (.aload_n 0, 1) := by decide +kernel
theorem dX5_place_57 : decode cX5_place 57 = .ok (.invokevirtual 143, 3) := by decide +kernel
theorem dX5_place_60 : decode cX5_place 60 = .ok (.pop, 1) := by decide +kernel
theorem dX5_place_61 : decode cX5_place 61 = .ok (.aload 6, 2) := by decide +kernel
theorem dX5_place_63 : decode cX5_place 63 = .ok (.getfield 267, 3) := by decide +kernel
theorem dX5_place_66 : decode cX5_place 66 = .ok (.invokestatic 111, 3) := by decide +kernel
theorem dX5_place_69 : decode cX5_place 69 = .ok (.ireturn, 1) := by decide +kernel
set_option maxRecDepth 20000 in
theorem ggX5_start_X5_requirePackage : GoodIn wsX5_start wsX5_requirePackage := goodIn_ca (goodIn_r _ [9, 10, 11, 12, 56, 57, 58, 59, 60, 61, 62, 63, 64, 65, 66, 67, 68] (by decide +kernel) (by decide +kernel)) (goodIn_sub (fun _ h => List.mem_cons_of_mem _ (List.mem_append_right _ h)) (by decide +kernel))
set_option maxRecDepth 20000 in
theorem gX5_start_X5_requirePackage : GoodIn wsX5_start (wsV RX5 261 RX5 yX5_requirePackage wsX5_requirePackage) := goodIn_app (goodIn_of _ (by decide +kernel)) ggX5_start_X5_requirePackage
set_option maxRecDepth 20000 in
theorem ggX5_start_X4_isAtRest : GoodIn wsX5_start wsX4_isAtRest := goodIn_r _ [16, 17, 69, 70, 71, 72, 73, 74] (by decide +kernel) (by decide +kernel)
set_option maxRecDepth 20000 in
theorem gX5_start_X4_isAtRest_n270 : GoodIn wsX5_start (wsX4_isAtRest) := ggX5_start_X4_isAtRest
set_option maxRecDepth 20000 in
theorem ggX5_start_X5_firstUnfit : GoodIn wsX5_start wsX5_firstUnfit := goodIn_r _ [21, 22, 23, 24, 8, 25, 26, 27, 28, 29, 30, 31, 32, 33, 34, 35, 36, 37, 38, 39, 40, 41, 42, 43, 44, 45, 46, 47, 48, 49, 50, 51, 52, 53, 54, 55, 56, 57, 58, 59, 60, 61, 62, 63, 64, 65, 66, 67, 68, 69, 70, 71, 72, 73, 74, 75, 76, 77, 78, 79, 80, 81, 82, 83, 84, 85, 86, 87, 88, 89, 90] (by decide +kernel) (by decide +kernel)
set_option maxRecDepth 20000 in
theorem gX5_start_X5_firstUnfit : GoodIn wsX5_start (wsV RX5 277 RX5 yX5_firstUnfit wsX5_firstUnfit) := goodIn_app (goodIn_of _ (by decide +kernel)) ggX5_start_X5_firstUnfit
theorem dX5_start_0 : decode cX5_start 0 = .ok (.aload_n 0, 1) := by decide +kernel
theorem dX5_start_1 : decode cX5_start 1 = .ok (.iload_n 1, 1) := by decide +kernel
theorem dX5_start_2 : decode cX5_start 2 = .ok (.invokevirtual 261, 3) := by decide +kernel
theorem dX5_start_5 : decode cX5_start 5 = .ok (.aload_n 0, 1) := by decide +kernel
theorem dX5_start_6 : decode cX5_start 6 = .ok (.getfield 35, 3) := by decide +kernel
theorem dX5_start_9 : decode cX5_start 9 = .ok (.iload_n 1, 1) := by decide +kernel
theorem dX5_start_10 : decode cX5_start 10 = .ok (.aaload, 1) := by decide +kernel
theorem dX5_start_11 : decode cX5_start 11 = .ok (.astore_n 2, 1) := by decide +kernel
theorem dX5_start_12 : decode cX5_start 12 = .ok (.aload_n 2, 1) := by decide +kernel
theorem dX5_start_13 : decode cX5_start 13 = .ok (.invokevirtual 270, 3) := by decide +kernel
theorem dX5_start_16 : decode cX5_start 16 = .ok (.ifCond .eq 21, 3) := by decide +kernel
theorem dX5_start_19 : decode cX5_start 19 = .ok (.aload_n 0, 1) := by decide +kernel
theorem dX5_start_20 : decode cX5_start 20 = .ok (.aload_n 2, 1) := by decide +kernel
theorem dX5_start_21 : decode cX5_start 21 = .ok (.aload_n 0, 1) := by decide +kernel
theorem dX5_start_22 : decode cX5_start 22 = .ok (.getfield 41, 3) := by decide +kernel
theorem dX5_start_25 : decode cX5_start 25 = .ok (.aload_n 2, 1) := by decide +kernel
theorem dX5_start_26 : decode cX5_start 26 = .ok (.getfield 274, 3) := by decide +kernel
theorem dX5_start_29 : decode cX5_start 29 = .ok (.aaload, 1) := by decide +kernel
theorem dX5_start_30 : decode cX5_start 30 = .ok (.invokevirtual 277, 3) := by decide +kernel
theorem dX5_start_33 : decode cX5_start 33 = .ok (.iconst (-1), 1) := by decide +kernel
theorem dX5_start_34 : decode cX5_start 34 = .ok (.if_icmp .eq 14, 3) := by decide +kernel
theorem dX5_start_37 : decode cX5_start 37 = .ok (.new 80, 3) := by decide +kernel
theorem dX5_start_40 : decode cX5_start 40 = .ok (.dup, 1) := by decide +kernel
theorem dX5_start_41 : decode cX5_start 41 = .ok (.ldc_w 281, 3) := by decide +kernel
theorem dX5_start_44 : decode cX5_start 44 = .ok (.invokespecial 84, 3) := by decide +kernel
theorem dX5_start_47 : decode cX5_start 47 = .ok (.athrow, 1) := by decide +kernel
theorem dX5_start_48 : decode cX5_start 48 = .ok (.aload_n 2, 1) := by decide +kernel
theorem dX5_start_49 : decode cX5_start 49 = .ok (.iconst 1, 1) := by decide +kernel
theorem dX5_start_50 : decode cX5_start 50 = .ok (.putfield 264, 3) := by decide +kernel
theorem dX5_start_53 : decode cX5_start 53 = .ok (.aload_n 2, 1) := by decide +kernel
theorem dX5_start_54 : decode cX5_start 54 = .ok (.getfield 283, 3) := by decide +kernel
theorem dX5_start_57 : decode cX5_start 57 = .ok (.ireturn, 1) := by decide +kernel
set_option maxRecDepth 20000 in
theorem ggX5_day_X4_workADay : GoodIn wsX5_day wsX4_workADay := goodIn_r _ [7, 8, 9, 82, 83, 84, 85, 86, 87] (by decide +kernel) (by decide +kernel)
set_option maxRecDepth 20000 in
theorem gX5_day_X4_workADay_n286 : GoodIn wsX5_day (wsX4_workADay) := ggX5_day_X4_workADay
set_option maxRecDepth 20000 in
theorem ggX5_day_X5_mark : GoodIn wsX5_day wsX5_mark := goodIn_r _ [14, 15, 16, 17, 18, 13, 19, 69, 70, 71, 72, 73, 74, 75, 76, 77, 78, 79, 80, 81, 88, 89, 90, 91, 92, 93, 94, 95, 96, 97] (by decide +kernel) (by decide +kernel)
set_option maxRecDepth 20000 in
theorem gX5_day_X5_mark : GoodIn wsX5_day (wsV RX5 291 RX5 yX5_mark wsX5_mark) := goodIn_app (goodIn_of _ (by decide +kernel)) ggX5_day_X5_mark
set_option maxRecDepth 20000 in
theorem ggX5_day_X5_stopUnfit : GoodIn wsX5_day wsX5_stopUnfit := goodIn_r _ [23, 2, 3, 24, 25, 26, 13, 27, 28, 29, 30, 31, 32, 15, 17, 18, 19, 33, 34, 35, 36, 16, 37, 38, 39, 40, 41, 42, 43, 44, 45, 46, 47, 48, 49, 50, 51, 52, 53, 54, 55, 56, 57, 58, 59, 60, 61, 62, 63, 64, 65, 66, 67, 68, 69, 70, 71, 72, 73, 74, 75, 76, 77, 78, 79, 80, 81, 82, 83, 84, 85, 86, 87, 88, 89, 90, 91, 92, 93, 94, 95, 96, 97, 98, 99, 100, 101, 102, 103] (by decide +kernel) (by decide +kernel)
set_option maxRecDepth 20000 in
theorem gX5_day_X5_stopUnfit : GoodIn wsX5_day (wsV RX5 143 RX5 yX5_stopUnfit wsX5_stopUnfit) := goodIn_app (goodIn_of _ (by decide +kernel)) ggX5_day_X5_stopUnfit
theorem dX5_day_0 : decode cX5_day 0 = .ok (.aload_n 0, 1) := by decide +kernel
theorem dX5_day_1 : decode cX5_day 1 = .ok (.dup, 1) := by decide +kernel
theorem dX5_day_2 : decode cX5_day 2 = .ok (.getfield 64, 3) := by decide +kernel
theorem dX5_day_5 : decode cX5_day 5 = .ok (.iconst 1, 1) := by decide +kernel
theorem dX5_day_6 : decode cX5_day 6 = .ok (.iadd, 1) := by decide +kernel
theorem dX5_day_7 : decode cX5_day 7 = .ok (.putfield 64, 3) := by decide +kernel
theorem dX5_day_10 : decode cX5_day 10 = .ok (.iconst 0, 1) := by decide +kernel
theorem dX5_day_11 : decode cX5_day 11 = .ok (.istore_n 1, 1) := by decide +kernel
theorem dX5_day_12 : decode cX5_day 12 = .ok (.iconst 0, 1) := by decide +kernel
theorem dX5_day_13 : decode cX5_day 13 = .ok (.istore_n 2, 1) := by decide +kernel
theorem dX5_day_14 : decode cX5_day 14 = .ok (.iload_n 2, 1) := by decide +kernel
theorem dX5_day_15 : decode cX5_day 15 = .ok (.aload_n 0, 1) := by decide +kernel
theorem dX5_day_16 : decode cX5_day 16 = .ok (.getfield 61, 3) := by decide +kernel
theorem dX5_day_19 : decode cX5_day 19 = .ok (.if_icmp .ge 50, 3) := by decide +kernel
theorem dX5_day_22 : decode cX5_day 22 = .ok (.aload_n 0, 1) := by decide +kernel
theorem dX5_day_23 : decode cX5_day 23 = .ok (.getfield 35, 3) := by decide +kernel
theorem dX5_day_26 : decode cX5_day 26 = .ok (.iload_n 2, 1) := by decide +kernel
theorem dX5_day_27 : decode cX5_day 27 = .ok (.aaload, 1) := by decide +kernel
theorem dX5_day_28 : decode cX5_day 28 = .ok (.astore_n 3, 1) := by decide +kernel
theorem dX5_day_29 : decode cX5_day 29 = .ok (.aload_n 3, 1) := by decide +kernel
theorem dX5_day_30 : decode cX5_day 30 = .ok (.getfield 264, 3) := by decide +kernel
theorem dX5_day_33 : decode cX5_day 33 = .ok (.iconst 1, 1) := by decide +kernel
theorem dX5_day_34 : decode cX5_day 34 = .ok (.if_icmp .eq 6, 3) := by decide +kernel
theorem dX5_day_37 : decode cX5_day 37 = .ok (.goto 26, 3) := by decide +kernel
theorem dX5_day_40 : decode cX5_day 40 = .ok (.aload_n 3, 1) := by decide +kernel
theorem dX5_day_41 : decode cX5_day 41 = .ok (.invokevirtual 286, 3) := by decide +kernel
theorem dX5_day_44 : decode cX5_day 44 = .ok (.aload_n 3, 1) := by decide +kernel
theorem dX5_day_45 : decode cX5_day 45 = .ok (.getfield 264, 3) := by decide +kernel
theorem dX5_day_48 : decode cX5_day 48 = .ok (.iconst 3, 1) := by decide +kernel
theorem dX5_day_49 : decode cX5_day 49 = .ok (.if_icmp .ne 14, 3) := by decide +kernel
theorem dX5_day_52 : decode cX5_day 52 = .ok (.iinc 1 1, 3) := by decide +kernel
theorem dX5_day_55 : decode cX5_day 55 = .ok (.aload_n 0, 1) := by decide +kernel
theorem dX5_day_56 : decode cX5_day 56 = .ok (.aload_n 3, 1) := by decide +kernel
theorem dX5_day_57 : decode cX5_day 57 = .ok (.getfield 289, 3) := by decide +kernel
theorem dX5_day_60 : decode cX5_day 60 = .ok (.invokevirtual 291, 3) := by decide +kernel
theorem dX5_day_63 : decode cX5_day 63 = .ok (.iinc 2 1, 3) := by decide +kernel
theorem dX5_day_66 : decode cX5_day 66 = .ok (.goto (-52), 3) := by decide +kernel
theorem dX5_day_69 : decode cX5_day 69 = .ok (.aload_n 0, 1) := by decide +kernel
theorem dX5_day_70 : decode cX5_day 70 = .ok (.invokevirtual 143, 3) := by decide +kernel
theorem dX5_day_73 : decode cX5_day 73 = .ok (.pop, 1) := by decide +kernel
theorem dX5_day_74 : decode cX5_day 74 = .ok (.iload_n 1, 1) := by decide +kernel
theorem dX5_day_75 : decode cX5_day 75 = .ok (.ireturn, 1) := by decide +kernel
set_option maxRecDepth 20000 in
theorem ggX5_ofPack_X5_requirePackage : GoodIn wsX5_ofPack wsX5_requirePackage := goodIn_ca (goodIn_r _ [9, 10, 11, 12, 55, 56, 57, 58, 59, 60, 61, 62, 63, 64, 65, 66, 67] (by decide +kernel) (by decide +kernel)) (goodIn_sub (fun _ h => List.mem_cons_of_mem _ (List.mem_append_right _ h)) (by decide +kernel))
set_option maxRecDepth 20000 in
theorem gX5_ofPack_X5_requirePackage : GoodIn wsX5_ofPack (wsV RX5 261 RX5 yX5_requirePackage wsX5_requirePackage) := goodIn_app (goodIn_of _ (by decide +kernel)) ggX5_ofPack_X5_requirePackage
set_option maxRecDepth 20000 in
theorem ggX5_ofPack_X5_firstUnfit : GoodIn wsX5_ofPack wsX5_firstUnfit := goodIn_r _ [16, 17, 18, 19, 8, 20, 21, 22, 23, 24, 25, 26, 27, 28, 29, 30, 31, 32, 33, 34, 35, 36, 37, 38, 39, 40, 41, 42, 43, 44, 45, 46, 47, 48, 49, 50, 55, 56, 57, 58, 59, 60, 61, 62, 63, 64, 65, 66, 67, 68, 69, 70, 71, 72, 73, 74, 75, 76, 77, 78, 79, 80, 81, 82, 83, 84, 85, 86, 87, 88, 89] (by decide +kernel) (by decide +kernel)
set_option maxRecDepth 20000 in
theorem gX5_ofPack_X5_firstUnfit : GoodIn wsX5_ofPack (wsV RX5 277 RX5 yX5_firstUnfit wsX5_firstUnfit) := goodIn_app (goodIn_of _ (by decide +kernel)) ggX5_ofPack_X5_firstUnfit
set_option maxRecDepth 20000 in
theorem ggX5_ofPack_X5_wrongWithFirst : GoodIn wsX5_ofPack wsX5_wrongWithFirst := goodIn_r _ [54, 4, 13, 14, 15, 8, 16, 17, 18, 19, 20, 21, 22, 23, 24, 25, 26, 27, 28, 29, 30, 31, 32, 33, 34, 35, 36, 37, 38, 39, 40, 41, 42, 43, 44, 45, 46, 47, 48, 49, 50, 55, 56, 57, 58, 59, 60, 61, 62, 63, 64, 65, 66, 67, 68, 69, 70, 71, 72, 73, 74, 75, 76, 77, 78, 79, 80, 81, 82, 83, 84, 85, 86, 87, 88, 89] (by decide +kernel) (by decide +kernel)
set_option maxRecDepth 20000 in
theorem gX5_ofPack_X5_wrongWithFirst : GoodIn wsX5_ofPack (wsV RX5 294 RX5 yX5_wrongWithFirst wsX5_wrongWithFirst) := goodIn_app (goodIn_of _ (by decide +kernel)) ggX5_ofPack_X5_wrongWithFirst
theorem dX5_ofPack_0 : decode cX5_ofPack 0 = .ok (.aload_n 0, 1) := by decide +kernel
theorem dX5_ofPack_1 : decode cX5_ofPack 1 = .ok (.iload_n 1, 1) := by decide +kernel
theorem dX5_ofPack_2 : decode cX5_ofPack 2 = .ok (.invokevirtual 261, 3) := by decide +kernel
theorem dX5_ofPack_5 : decode cX5_ofPack 5 = .ok (.aload_n 0, 1) := by decide +kernel
theorem dX5_ofPack_6 : decode cX5_ofPack 6 = .ok (.getfield 35, 3) := by decide +kernel
theorem dX5_ofPack_9 : decode cX5_ofPack 9 = .ok (.iload_n 1, 1) := by decide +kernel
theorem dX5_ofPack_10 : decode cX5_ofPack 10 = .ok (.aaload, 1) := by decide +kernel
theorem dX5_ofPack_11 : decode cX5_ofPack 11 = .ok (.astore_n 3, 1) := by decide +kernel
theorem dX5_ofPack_12 : decode cX5_ofPack 12 = .ok (.iload_n 2, 1) := by decide +kernel
theorem dX5_ofPack_13 : decode cX5_ofPack 13 = .ok (.tableswitch 89 0 6 #[43, 48, 53, 58, 63, 78, 84], 43) := by decide +kernel
theorem dX5_ofPack_56 : decode cX5_ofPack 56 = .ok (.aload_n 3, 1) := by decide +kernel
theorem dX5_ofPack_57 : decode cX5_ofPack 57 = .ok (.getfield 274, 3) := by decide +kernel
theorem dX5_ofPack_60 : decode cX5_ofPack 60 = .ok (.ireturn, 1) := by decide +kernel
theorem dX5_ofPack_61 : decode cX5_ofPack 61 = .ok (.aload_n 3, 1) := by decide +kernel
theorem dX5_ofPack_62 : decode cX5_ofPack 62 = .ok (.getfield 289, 3) := by decide +kernel
theorem dX5_ofPack_65 : decode cX5_ofPack 65 = .ok (.ireturn, 1) := by decide +kernel
theorem dX5_ofPack_66 : decode cX5_ofPack 66 = .ok (.aload_n 3, 1) := by decide +kernel
theorem dX5_ofPack_67 : decode cX5_ofPack 67 = .ok (.getfield 264, 3) := by decide +kernel
theorem dX5_ofPack_70 : decode cX5_ofPack 70 = .ok (.ireturn, 1) := by decide +kernel
theorem dX5_ofPack_71 : decode cX5_ofPack 71 = .ok (.aload_n 3, 1) := by decide +kernel
theorem dX5_ofPack_72 : decode cX5_ofPack 72 = .ok (.getfield 283, 3) := by decide +kernel
theorem dX5_ofPack_75 : decode cX5_ofPack 75 = .ok (.ireturn, 1) := by decide +kernel
theorem dX5_ofPack_76 : decode cX5_ofPack 76 = .ok (.aload_n 0, 1) := by decide +kernel
theorem dX5_ofPack_77 : decode cX5_ofPack 77 = .ok (.aload_n 3, 1) := by decide +kernel
theorem dX5_ofPack_78 : decode cX5_ofPack 78 = .ok (.aload_n 0, 1) := by decide +kernel
theorem dX5_ofPack_79 : decode cX5_ofPack 79 = .ok (.getfield 41, 3) := by decide +kernel
theorem dX5_ofPack_82 : decode cX5_ofPack 82 = .ok (.aload_n 3, 1) := by decide +kernel
theorem dX5_ofPack_83 : decode cX5_ofPack 83 = .ok (.getfield 274, 3) := by decide +kernel
theorem dX5_ofPack_86 : decode cX5_ofPack 86 = .ok (.aaload, 1) := by decide +kernel
theorem dX5_ofPack_87 : decode cX5_ofPack 87 = .ok (.invokevirtual 277, 3) := by decide +kernel
theorem dX5_ofPack_90 : decode cX5_ofPack 90 = .ok (.ireturn, 1) := by decide +kernel
theorem dX5_ofPack_91 : decode cX5_ofPack 91 = .ok (.aload_n 0, 1) := by decide +kernel
theorem dX5_ofPack_92 : decode cX5_ofPack 92 = .ok (.aload_n 3, 1) := by decide +kernel
theorem dX5_ofPack_93 : decode cX5_ofPack 93 = .ok (.invokevirtual 294, 3) := by decide +kernel
theorem dX5_ofPack_96 : decode cX5_ofPack 96 = .ok (.ireturn, 1) := by decide +kernel
theorem dX5_ofPack_97 : decode cX5_ofPack 97 = .ok (.aload_n 3, 1) := by decide +kernel
theorem dX5_ofPack_98 : decode cX5_ofPack 98 = .ok (.getfield 298, 3) := by decide +kernel
theorem dX5_ofPack_101 : decode cX5_ofPack 101 = .ok (.ireturn, 1) := by decide +kernel
theorem dX5_ofPack_102 : decode cX5_ofPack 102 = .ok (.new 73, 3) := by decide +kernel
theorem dX5_ofPack_105 : decode cX5_ofPack 105 = .ok (.dup, 1) := by decide +kernel
theorem dX5_ofPack_106 : decode cX5_ofPack 106 = .ok (.ldc_w 301, 3) := by decide +kernel
theorem dX5_ofPack_109 : decode cX5_ofPack 109 = .ok (.invokespecial 77, 3) := by decide +kernel
theorem dX5_ofPack_112 : decode cX5_ofPack 112 = .ok (.athrow, 1) := by decide +kernel
set_option maxRecDepth 20000 in
theorem ggX5_many_X5_brokenOfAll : GoodIn wsX5_many wsX5_brokenOfAll := goodIn_r _ [13, 4, 14, 15, 16, 17, 12, 18, 19, 20, 21, 22, 46, 47, 48, 49, 50, 51, 52, 53, 54, 55, 56, 57, 58, 59, 60, 61, 62, 63, 64, 65, 66, 67, 68, 69, 70, 71] (by decide +kernel) (by decide +kernel)
set_option maxRecDepth 20000 in
theorem gX5_many_X5_brokenOfAll : GoodIn wsX5_many (wsV RX5 303 RX5 yX5_brokenOfAll wsX5_brokenOfAll) := goodIn_app (goodIn_of _ (by decide +kernel)) ggX5_many_X5_brokenOfAll
set_option maxRecDepth 20000 in
theorem ggX5_many_X5_queriesNotClosed : GoodIn wsX5_many wsX5_queriesNotClosed := goodIn_r _ [26, 6, 27, 46, 47, 48, 49, 50, 51, 52, 53, 54, 55, 56, 57, 58, 72, 73, 74] (by decide +kernel) (by decide +kernel)
set_option maxRecDepth 20000 in
theorem gX5_many_X5_queriesNotClosed : GoodIn wsX5_many (wsV RX5 306 RX5 yX5_queriesNotClosed wsX5_queriesNotClosed) := goodIn_app (goodIn_of _ (by decide +kernel)) ggX5_many_X5_queriesNotClosed
set_option maxRecDepth 20000 in
theorem ggX5_many_X5_clashingPairs : GoodIn wsX5_many wsX5_clashingPairs := goodIn_r _ [31, 3, 32, 33, 34, 12, 35, 19, 20, 21, 22, 36, 37, 38, 39, 40, 46, 47, 48, 49, 50, 51, 52, 53, 54, 55, 56, 57, 58, 62, 63, 64, 65, 66, 67, 68, 69, 70, 71] (by decide +kernel) (by decide +kernel)
set_option maxRecDepth 20000 in
theorem gX5_many_X5_clashingPairs : GoodIn wsX5_many (wsV RX5 309 RX5 yX5_clashingPairs wsX5_clashingPairs) := goodIn_app (goodIn_of _ (by decide +kernel)) ggX5_many_X5_clashingPairs
set_option maxRecDepth 20000 in
theorem ggX5_many_X5_packagesThatAre : GoodIn wsX5_many wsX5_packagesThatAre := goodIn_r _ [44, 7, 45, 46, 47, 48, 49, 50, 51, 52, 53, 54, 55, 56, 57, 58, 75, 76, 77, 78, 79, 80] (by decide +kernel) (by decide +kernel)
set_option maxRecDepth 20000 in
theorem gX5_many_X5_packagesThatAre : GoodIn wsX5_many (wsV RX5 312 RX5 yX5_packagesThatAre wsX5_packagesThatAre) := goodIn_app (goodIn_of _ (by decide +kernel)) ggX5_many_X5_packagesThatAre
theorem dX5_many_0 : decode cX5_many 0 = .ok (.iload_n 1, 1) := by decide +kernel
theorem dX5_many_1 : decode cX5_many 1 = .ok (.tableswitch 136 0 12 #[67, 72, 77, 82, 87, 92, 97, 102, 107, 113, 119, 125, 131], 67) := by decide +kernel
theorem dX5_many_68 : decode cX5_many 68 = .ok (.aload_n 0, 1) := by decide +kernel
theorem dX5_many_69 : decode cX5_many 69 = .ok (.getfield 48, 3) := by decide +kernel
theorem dX5_many_72 : decode cX5_many 72 = .ok (.ireturn, 1) := by decide +kernel
theorem dX5_many_73 : decode cX5_many 73 = .ok (.aload_n 0, 1) := by decide +kernel
theorem dX5_many_74 : decode cX5_many 74 = .ok (.getfield 52, 3) := by decide +kernel
theorem dX5_many_77 : decode cX5_many 77 = .ok (.ireturn, 1) := by decide +kernel
theorem dX5_many_78 : decode cX5_many 78 = .ok (.aload_n 0, 1) := by decide +kernel
theorem dX5_many_79 : decode cX5_many 79 = .ok (.invokevirtual 303, 3) := by decide +kernel
theorem dX5_many_82 : decode cX5_many 82 = .ok (.ireturn, 1) := by decide +kernel
theorem dX5_many_83 : decode cX5_many 83 = .ok (.aload_n 0, 1) := by decide +kernel
theorem dX5_many_84 : decode cX5_many 84 = .ok (.getfield 55, 3) := by decide +kernel
theorem dX5_many_87 : decode cX5_many 87 = .ok (.ireturn, 1) := by decide +kernel
theorem dX5_many_88 : decode cX5_many 88 = .ok (.aload_n 0, 1) := by decide +kernel
theorem dX5_many_89 : decode cX5_many 89 = .ok (.getfield 58, 3) := by decide +kernel
theorem dX5_many_92 : decode cX5_many 92 = .ok (.ireturn, 1) := by decide +kernel
theorem dX5_many_93 : decode cX5_many 93 = .ok (.aload_n 0, 1) := by decide +kernel
theorem dX5_many_94 : decode cX5_many 94 = .ok (.invokevirtual 306, 3) := by decide +kernel
theorem dX5_many_97 : decode cX5_many 97 = .ok (.ireturn, 1) := by decide +kernel
theorem dX5_many_98 : decode cX5_many 98 = .ok (.aload_n 0, 1) := by decide +kernel
theorem dX5_many_99 : decode cX5_many 99 = .ok (.invokevirtual 309, 3) := by decide +kernel
theorem dX5_many_102 : decode cX5_many 102 = .ok (.ireturn, 1) := by decide +kernel
theorem dX5_many_103 : decode cX5_many 103 = .ok (.aload_n 0, 1) := by decide +kernel
theorem dX5_many_104 : decode cX5_many 104 = .ok (.getfield 61, 3) := by decide +kernel
theorem dX5_many_107 : decode cX5_many 107 = .ok (.ireturn, 1) := by decide +kernel
theorem dX5_many_108 : decode cX5_many 108 = .ok (.aload_n 0, 1) := by decide +kernel
theorem dX5_many_109 : decode cX5_many 109 = .ok (.iconst 0, 1) := by decide +kernel
theorem dX5_many_110 : decode cX5_many 110 = .ok (.invokevirtual 312, 3) := by decide +kernel
theorem dX5_many_113 : decode cX5_many 113 = .ok (.ireturn, 1) := by decide +kernel
theorem dX5_many_114 : decode cX5_many 114 = .ok (.aload_n 0, 1) := by decide +kernel
theorem dX5_many_115 : decode cX5_many 115 = .ok (.iconst 1, 1) := by decide +kernel
theorem dX5_many_116 : decode cX5_many 116 = .ok (.invokevirtual 312, 3) := by decide +kernel
theorem dX5_many_119 : decode cX5_many 119 = .ok (.ireturn, 1) := by decide +kernel
theorem dX5_many_120 : decode cX5_many 120 = .ok (.aload_n 0, 1) := by decide +kernel
theorem dX5_many_121 : decode cX5_many 121 = .ok (.iconst 2, 1) := by decide +kernel
theorem dX5_many_122 : decode cX5_many 122 = .ok (.invokevirtual 312, 3) := by decide +kernel
theorem dX5_many_125 : decode cX5_many 125 = .ok (.ireturn, 1) := by decide +kernel
theorem dX5_many_126 : decode cX5_many 126 = .ok (.aload_n 0, 1) := by decide +kernel
theorem dX5_many_127 : decode cX5_many 127 = .ok (.iconst 3, 1) := by decide +kernel
theorem dX5_many_128 : decode cX5_many 128 = .ok (.invokevirtual 312, 3) := by decide +kernel
theorem dX5_many_131 : decode cX5_many 131 = .ok (.ireturn, 1) := by decide +kernel
theorem dX5_many_132 : decode cX5_many 132 = .ok (.aload_n 0, 1) := by decide +kernel
theorem dX5_many_133 : decode cX5_many 133 = .ok (.getfield 64, 3) := by decide +kernel
theorem dX5_many_136 : decode cX5_many 136 = .ok (.ireturn, 1) := by decide +kernel
theorem dX5_many_137 : decode cX5_many 137 = .ok (.new 73, 3) := by decide +kernel
theorem dX5_many_140 : decode cX5_many 140 = .ok (.dup, 1) := by decide +kernel
theorem dX5_many_141 : decode cX5_many 141 = .ok (.ldc_w 315, 3) := by decide +kernel
theorem dX5_many_144 : decode cX5_many 144 = .ok (.invokespecial 77, 3) := by decide +kernel
theorem dX5_many_147 : decode cX5_many 147 = .ok (.athrow, 1) := by decide +kernel
set_option maxRecDepth 20000 in
theorem ggX5_stoppedBy_X5_requireSheet : GoodIn wsX5_stoppedBy wsX5_requireSheet := goodIn_ca (goodIn_r _ [6, 7, 8, 9, 82, 83, 84, 85, 86, 87, 88, 89, 90, 91, 92, 93, 94] (by decide +kernel) (by decide +kernel)) (goodIn_sub (fun _ h => List.mem_cons_of_mem _ (List.mem_append_right _ h)) (by decide +kernel))
set_option maxRecDepth 20000 in
theorem gX5_stoppedBy_X5_requireSheet : GoodIn wsX5_stoppedBy (wsV RX5 88 RX5 yX5_requireSheet wsX5_requireSheet) := goodIn_app (goodIn_of _ (by decide +kernel)) ggX5_stoppedBy_X5_requireSheet
set_option maxRecDepth 20000 in
theorem ggX5_stoppedBy_X5_isReadyToIssue : GoodIn wsX5_stoppedBy wsX5_isReadyToIssue := goodIn_r _ [13, 1, 14, 15, 16, 17, 18, 19, 20, 21, 22, 23, 24, 25, 26, 27, 5, 28, 29, 30, 31, 32, 33, 34, 35, 36, 37, 82, 83, 84, 85, 86, 87, 88, 89, 90, 91, 92, 93, 94, 95, 96, 97, 98, 99, 100, 101, 102, 103, 104, 105, 106, 107] (by decide +kernel) (by decide +kernel)
set_option maxRecDepth 20000 in
theorem gX5_stoppedBy_X5_isReadyToIssue : GoodIn wsX5_stoppedBy (wsV RX5 131 RX5 yX5_isReadyToIssue wsX5_isReadyToIssue) := goodIn_app (goodIn_of _ (by decide +kernel)) ggX5_stoppedBy_X5_isReadyToIssue
set_option maxRecDepth 20000 in
theorem ggX5_stoppedBy_X3_setIssued : GoodIn wsX5_stoppedBy wsX3_setIssued := goodIn_r _ [40, 23, 41, 42, 43, 44, 95, 96, 97, 98, 99, 100, 101, 102, 103, 104] (by decide +kernel) (by decide +kernel)
set_option maxRecDepth 20000 in
theorem gX5_stoppedBy_X3_setIssued_n137 : GoodIn wsX5_stoppedBy (wsX3_setIssued) := ggX5_stoppedBy_X3_setIssued
set_option maxRecDepth 20000 in
theorem ggX5_stoppedBy_X5_unfitRunning : GoodIn wsX5_stoppedBy wsX5_unfitRunning := goodIn_r _ [48, 49, 50, 51, 52, 53, 54, 5, 55, 9, 35, 36, 37, 56, 57, 58, 59, 1, 25, 26, 27, 28, 29, 30, 31, 32, 33, 34, 60, 61, 62, 63, 64, 65, 66, 67, 68, 69, 70, 71, 72, 73, 74, 82, 83, 84, 85, 86, 87, 88, 89, 90, 91, 92, 93, 94, 108, 109, 110, 111, 112, 113, 95, 96, 97, 98, 99, 100, 101, 102, 103, 104, 105, 106, 107, 114, 115, 116] (by decide +kernel) (by decide +kernel)
set_option maxRecDepth 20000 in
theorem gX5_stoppedBy_X5_unfitRunning : GoodIn wsX5_stoppedBy (wsV RX5 317 RX5 yX5_unfitRunning wsX5_unfitRunning) := goodIn_app (goodIn_of _ (by decide +kernel)) ggX5_stoppedBy_X5_unfitRunning
set_option maxRecDepth 20000 in
theorem ggX5_stoppedBy_J6_bitCount_0f7a4 : GoodIn wsX5_stoppedBy wsJ6_bitCount_0f7a4 := goodIn_r _ [78, 79, 80, 81] (by decide +kernel) (by decide +kernel)
set_option maxRecDepth 20000 in
theorem gX5_stoppedBy_J6_bitCount_0f7a4 : GoodIn wsX5_stoppedBy (va_wsS RX5 320 yJ6_bitCount_0f7a4 wsJ6_bitCount_0f7a4) := goodIn_app (goodIn_of _ (by decide +kernel)) ggX5_stoppedBy_J6_bitCount_0f7a4
theorem dX5_stoppedBy_0 : decode cX5_stoppedBy 0 = .ok (.aload_n 0, 1) := by decide +kernel
theorem dX5_stoppedBy_1 : decode cX5_stoppedBy 1 = .ok (.iload_n 1, 1) := by decide +kernel
theorem dX5_stoppedBy_2 : decode cX5_stoppedBy 2 = .ok (.invokevirtual 88, 3) := by decide +kernel
theorem dX5_stoppedBy_5 : decode cX5_stoppedBy 5 = .ok (.aload_n 0, 1) := by decide +kernel
theorem dX5_stoppedBy_6 : decode cX5_stoppedBy 6 = .ok (.iload_n 1, 1) := by decide +kernel
theorem dX5_stoppedBy_7 : decode cX5_stoppedBy 7 = .ok (.invokevirtual 131, 3) := by decide +kernel
theorem dX5_stoppedBy_10 : decode cX5_stoppedBy 10 = .ok (.ifCond .ne 5, 3) := by decide +kernel
theorem dX5_stoppedBy_13 : decode cX5_stoppedBy 13 = .ok (.iconst (-1), 1) := by decide +kernel
theorem dX5_stoppedBy_14 : decode cX5_stoppedBy 14 = .ok (.ireturn, 1) := by decide +kernel
theorem dX5_stoppedBy_15 : decode cX5_stoppedBy 15 = .ok (.aload_n 0, 1) := by decide +kernel
theorem dX5_stoppedBy_16 : decode cX5_stoppedBy 16 = .ok (.getfield 11, 3) := by decide +kernel
theorem dX5_stoppedBy_19 : decode cX5_stoppedBy 19 = .ok (.iload_n 1, 1) := by decide +kernel
theorem dX5_stoppedBy_20 : decode cX5_stoppedBy 20 = .ok (.aaload, 1) := by decide +kernel
theorem dX5_stoppedBy_21 : decode cX5_stoppedBy 21 = .ok (.astore_n 2, 1) := by decide +kernel
theorem dX5_stoppedBy_22 : decode cX5_stoppedBy 22 = .ok (.aload_n 2, 1) := by decide +kernel
theorem dX5_stoppedBy_23 : decode cX5_stoppedBy 23 = .ok (.getfield 156, 3) := by decide +kernel
theorem dX5_stoppedBy_26 : decode cX5_stoppedBy 26 = .ok (.istore_n 3, 1) := by decide +kernel
theorem dX5_stoppedBy_27 : decode cX5_stoppedBy 27 = .ok (.aload_n 2, 1) := by decide +kernel
theorem dX5_stoppedBy_28 : decode cX5_stoppedBy 28 = .ok (.aload_n 2, 1) := by decide +kernel
theorem dX5_stoppedBy_29 : decode cX5_stoppedBy 29 = .ok (.getfield 115, 3) := by decide +kernel
theorem dX5_stoppedBy_32 : decode cX5_stoppedBy 32 = .ok (.invokevirtual 137, 3) := by decide +kernel
theorem dX5_stoppedBy_35 : decode cX5_stoppedBy 35 = .ok (.aload_n 0, 1) := by decide +kernel
theorem dX5_stoppedBy_36 : decode cX5_stoppedBy 36 = .ok (.invokevirtual 317, 3) := by decide +kernel
theorem dX5_stoppedBy_39 : decode cX5_stoppedBy 39 = .ok (.invokestatic 320, 3) := by decide +kernel
theorem dX5_stoppedBy_42 : decode cX5_stoppedBy 42 = .ok (.istore 4, 2) := by decide +kernel
theorem dX5_stoppedBy_44 : decode cX5_stoppedBy 44 = .ok (.aload_n 2, 1) := by decide +kernel
theorem dX5_stoppedBy_45 : decode cX5_stoppedBy 45 = .ok (.iload_n 3, 1) := by decide +kernel
theorem dX5_stoppedBy_46 : decode cX5_stoppedBy 46 = .ok (.invokevirtual 137, 3) := by decide +kernel
theorem dX5_stoppedBy_49 : decode cX5_stoppedBy 49 = .ok (.iload 4, 2) := by decide +kernel
theorem dX5_stoppedBy_51 : decode cX5_stoppedBy 51 = .ok (.ireturn, 1) := by decide +kernel
set_option maxRecDepth 20000 in
theorem ggX5_freedBy_X5_requireQuery : GoodIn wsX5_freedBy wsX5_requireQuery := goodIn_ca (goodIn_r _ [6, 7, 8, 9, 53, 54, 55, 56, 57, 58, 59, 60, 61, 62, 63, 64, 65] (by decide +kernel) (by decide +kernel)) (goodIn_sub (fun _ h => List.mem_cons_of_mem _ (List.mem_append_right _ h)) (by decide +kernel))
set_option maxRecDepth 20000 in
theorem gX5_freedBy_X5_requireQuery : GoodIn wsX5_freedBy (wsV RX5 234 RX5 yX5_requireQuery wsX5_requireQuery) := goodIn_app (goodIn_of _ (by decide +kernel)) ggX5_freedBy_X5_requireQuery
set_option maxRecDepth 20000 in
theorem ggX5_freedBy_X5_fitStopped : GoodIn wsX5_freedBy wsX5_fitStopped := goodIn_r _ [13, 14, 15, 16, 17, 18, 19, 5, 20, 21, 22, 23, 24, 25, 26, 27, 28, 29, 30, 31, 32, 33, 34, 35, 36, 37, 38, 39, 40, 41, 42, 43, 9, 1, 44, 45, 46, 47, 48, 49, 50, 51, 52, 53, 54, 55, 56, 57, 58, 59, 60, 61, 62, 63, 64, 65, 69, 70, 71, 72, 73, 74, 75, 76, 77, 78, 79, 80, 81, 82, 83, 84, 85, 86, 87, 66, 67, 68] (by decide +kernel) (by decide +kernel)
set_option maxRecDepth 20000 in
theorem gX5_freedBy_X5_fitStopped : GoodIn wsX5_freedBy (wsV RX5 325 RX5 yX5_fitStopped wsX5_fitStopped) := goodIn_app (goodIn_of _ (by decide +kernel)) ggX5_freedBy_X5_fitStopped
theorem dX5_freedBy_0 : decode cX5_freedBy 0 = .ok (.aload_n 0, 1) := by decide +kernel
theorem dX5_freedBy_1 : decode cX5_freedBy 1 = .ok (.iload_n 1, 1) := by decide +kernel
theorem dX5_freedBy_2 : decode cX5_freedBy 2 = .ok (.invokevirtual 234, 3) := by decide +kernel
theorem dX5_freedBy_5 : decode cX5_freedBy 5 = .ok (.aload_n 0, 1) := by decide +kernel
theorem dX5_freedBy_6 : decode cX5_freedBy 6 = .ok (.getfield 29, 3) := by decide +kernel
theorem dX5_freedBy_9 : decode cX5_freedBy 9 = .ok (.iload_n 1, 1) := by decide +kernel
theorem dX5_freedBy_10 : decode cX5_freedBy 10 = .ok (.aaload, 1) := by decide +kernel
theorem dX5_freedBy_11 : decode cX5_freedBy 11 = .ok (.astore_n 2, 1) := by decide +kernel
theorem dX5_freedBy_12 : decode cX5_freedBy 12 = .ok (.aload_n 2, 1) := by decide +kernel
theorem dX5_freedBy_13 : decode cX5_freedBy 13 = .ok (.getfield 237, 3) := by decide +kernel
theorem dX5_freedBy_16 : decode cX5_freedBy 16 = .ok (.istore_n 3, 1) := by decide +kernel
theorem dX5_freedBy_17 : decode cX5_freedBy 17 = .ok (.aload_n 0, 1) := by decide +kernel
theorem dX5_freedBy_18 : decode cX5_freedBy 18 = .ok (.invokevirtual 325, 3) := by decide +kernel
theorem dX5_freedBy_21 : decode cX5_freedBy 21 = .ok (.istore 4, 2) := by decide +kernel
theorem dX5_freedBy_23 : decode cX5_freedBy 23 = .ok (.aload_n 2, 1) := by decide +kernel
theorem dX5_freedBy_24 : decode cX5_freedBy 24 = .ok (.iconst 2, 1) := by decide +kernel
theorem dX5_freedBy_25 : decode cX5_freedBy 25 = .ok (.putfield 237, 3) := by decide +kernel
theorem dX5_freedBy_28 : decode cX5_freedBy 28 = .ok (.aload_n 0, 1) := by decide +kernel
theorem dX5_freedBy_29 : decode cX5_freedBy 29 = .ok (.invokevirtual 325, 3) := by decide +kernel
theorem dX5_freedBy_32 : decode cX5_freedBy 32 = .ok (.istore 5, 2) := by decide +kernel
theorem dX5_freedBy_34 : decode cX5_freedBy 34 = .ok (.aload_n 2, 1) := by decide +kernel
theorem dX5_freedBy_35 : decode cX5_freedBy 35 = .ok (.iload_n 3, 1) := by decide +kernel
theorem dX5_freedBy_36 : decode cX5_freedBy 36 = .ok (.putfield 237, 3) := by decide +kernel
theorem dX5_freedBy_39 : decode cX5_freedBy 39 = .ok (.iload 5, 2) := by decide +kernel
theorem dX5_freedBy_41 : decode cX5_freedBy 41 = .ok (.iload 4, 2) := by decide +kernel
theorem dX5_freedBy_43 : decode cX5_freedBy 43 = .ok (.isub, 1) := by decide +kernel
theorem dX5_freedBy_44 : decode cX5_freedBy 44 = .ok (.ireturn, 1) := by decide +kernel
set_option maxRecDepth 20000 in
theorem ggX5_freedByAll_X5_requireCrew : GoodIn wsX5_freedByAll wsX5_requireCrew := goodIn_ca (goodIn_r _ [14, 15, 16] (by decide +kernel) (by decide +kernel)) (goodIn_sub (fun _ h => List.mem_cons_of_mem _ (List.mem_append_right _ h)) (by decide +kernel))
set_option maxRecDepth 20000 in
theorem gX5_freedByAll_X5_requireCrew : GoodIn wsX5_freedByAll (va_wsS RX5 210 yX5_requireCrew wsX5_requireCrew) := goodIn_app (goodIn_of _ (by decide +kernel)) ggX5_freedByAll_X5_requireCrew
set_option maxRecDepth 20000 in
theorem ggX5_freedByAll_X5_isIn : GoodIn wsX5_freedByAll wsX5_isIn := goodIn_r _ [19] (by decide +kernel) (by decide +kernel)
set_option maxRecDepth 20000 in
theorem gX5_freedByAll_X5_isIn : GoodIn wsX5_freedByAll (va_wsS RX5 216 yX5_isIn wsX5_isIn) := goodIn_app (goodIn_of _ (by decide +kernel)) ggX5_freedByAll_X5_isIn
set_option maxRecDepth 20000 in
theorem ggX5_freedByAll_X5_takeLater : GoodIn wsX5_freedByAll wsX5_takeLater := goodIn_r _ [22, 76, 77, 78] (by decide +kernel) (by decide +kernel)
set_option maxRecDepth 20000 in
theorem gX5_freedByAll_X5_takeLater : GoodIn wsX5_freedByAll (va_wsS RX5 222 yX5_takeLater wsX5_takeLater) := goodIn_app (goodIn_of _ (by decide +kernel)) ggX5_freedByAll_X5_takeLater
set_option maxRecDepth 20000 in
theorem ggX5_freedByAll_X4_isAtRest : GoodIn wsX5_freedByAll wsX4_isAtRest := goodIn_r _ [26, 27, 79, 80, 81, 82, 83, 84] (by decide +kernel) (by decide +kernel)
set_option maxRecDepth 20000 in
theorem gX5_freedByAll_X4_isAtRest_n270 : GoodIn wsX5_freedByAll (wsX4_isAtRest) := ggX5_freedByAll_X4_isAtRest
set_option maxRecDepth 20000 in
theorem ggX5_freedByAll_X5_firstUnfit : GoodIn wsX5_freedByAll wsX5_firstUnfit := goodIn_r _ [31, 32, 17, 18, 13, 19, 33, 34, 35, 36, 37, 38, 39, 40, 41, 42, 43, 44, 45, 46, 47, 48, 49, 50, 51, 52, 53, 54, 55, 56, 57, 58, 59, 60, 61, 62, 63, 64, 65, 66, 67, 68, 69, 70, 71, 72, 73, 74, 75, 79, 80, 81, 82, 83, 84, 85, 86, 87, 88, 89, 90, 91, 92, 93, 94, 95, 96, 97, 98, 99, 100] (by decide +kernel) (by decide +kernel)
set_option maxRecDepth 20000 in
theorem gX5_freedByAll_X5_firstUnfit : GoodIn wsX5_freedByAll (wsV RX5 277 RX5 yX5_firstUnfit wsX5_firstUnfit) := goodIn_app (goodIn_of _ (by decide +kernel)) ggX5_freedByAll_X5_firstUnfit
theorem dX5_freedByAll_0 : decode cX5_freedByAll 0 = .ok (.iload_n 1, 1) := by decide +kernel
theorem dX5_freedByAll_1 : decode cX5_freedByAll 1 = .ok (.invokestatic 210, 3) := by decide +kernel
theorem dX5_freedByAll_4 : decode cX5_freedByAll 4 = .ok (.aload_n 0, 1) := by decide +kernel
theorem dX5_freedByAll_5 : decode cX5_freedByAll 5 = .ok (.getfield 41, 3) := by decide +kernel
theorem dX5_freedByAll_8 : decode cX5_freedByAll 8 = .ok (.iload_n 1, 1) := by decide +kernel
theorem dX5_freedByAll_9 : decode cX5_freedByAll 9 = .ok (.aaload, 1) := by decide +kernel
theorem dX5_freedByAll_10 : decode cX5_freedByAll 10 = .ok (.iconst 0, 1) := by decide +kernel
theorem dX5_freedByAll_11 : decode cX5_freedByAll 11 = .ok (.aload_n 0, 1) := by decide +kernel
theorem dX5_freedByAll_12 : decode cX5_freedByAll 12 = .ok (.getfield 44, 3) := by decide +kernel
theorem dX5_freedByAll_15 : decode cX5_freedByAll 15 = .ok (.iconst 0, 1) := by decide +kernel
theorem dX5_freedByAll_16 : decode cX5_freedByAll 16 = .ok (.bipush 10, 2) := by decide +kernel
theorem dX5_freedByAll_18 : decode cX5_freedByAll 18 = .ok (.invokestatic 328, 3) := by decide +kernel
theorem dX5_freedByAll_21 : decode cX5_freedByAll 21 = .ok (.iconst 0, 1) := by decide +kernel
theorem dX5_freedByAll_22 : decode cX5_freedByAll 22 = .ok (.istore_n 2, 1) := by decide +kernel
theorem dX5_freedByAll_23 : decode cX5_freedByAll 23 = .ok (.iload_n 2, 1) := by decide +kernel
theorem dX5_freedByAll_24 : decode cX5_freedByAll 24 = .ok (.aload_n 0, 1) := by decide +kernel
theorem dX5_freedByAll_25 : decode cX5_freedByAll 25 = .ok (.getfield 55, 3) := by decide +kernel
theorem dX5_freedByAll_28 : decode cX5_freedByAll 28 = .ok (.if_icmp .ge 39, 3) := by decide +kernel
theorem dX5_freedByAll_31 : decode cX5_freedByAll 31 = .ok (.aload_n 0, 1) := by decide +kernel
theorem dX5_freedByAll_32 : decode cX5_freedByAll 32 = .ok (.getfield 23, 3) := by decide +kernel
theorem dX5_freedByAll_35 : decode cX5_freedByAll 35 = .ok (.iload_n 2, 1) := by decide +kernel
theorem dX5_freedByAll_36 : decode cX5_freedByAll 36 = .ok (.aaload, 1) := by decide +kernel
theorem dX5_freedByAll_37 : decode cX5_freedByAll 37 = .ok (.getfield 213, 3) := by decide +kernel
theorem dX5_freedByAll_40 : decode cX5_freedByAll 40 = .ok (.iload_n 1, 1) := by decide +kernel
theorem dX5_freedByAll_41 : decode cX5_freedByAll 41 = .ok (.invokestatic 216, 3) := by decide +kernel
theorem dX5_freedByAll_44 : decode cX5_freedByAll 44 = .ok (.ifCond .eq 17, 3) := by decide +kernel
theorem dX5_freedByAll_47 : decode cX5_freedByAll 47 = .ok (.aload_n 0, 1) := by decide +kernel
theorem dX5_freedByAll_48 : decode cX5_freedByAll 48 = .ok (.getfield 23, 3) := by decide +kernel
theorem dX5_freedByAll_51 : decode cX5_freedByAll 51 = .ok (.iload_n 2, 1) := by decide +kernel
theorem dX5_freedByAll_52 : decode cX5_freedByAll 52 = .ok (.aaload, 1) := by decide +kernel
theorem dX5_freedByAll_53 : decode cX5_freedByAll 53 = .ok (.aload_n 0, 1) := by decide +kernel
theorem dX5_freedByAll_54 : decode cX5_freedByAll 54 = .ok (.getfield 44, 3) := by decide +kernel
theorem dX5_freedByAll_57 : decode cX5_freedByAll 57 = .ok (.invokestatic 222, 3) := by decide +kernel
theorem dX5_freedByAll_60 : decode cX5_freedByAll 60 = .ok (.pop, 1) := by decide +kernel
theorem dX5_freedByAll_61 : decode cX5_freedByAll 61 = .ok (.iinc 2 1, 3) := by decide +kernel
theorem dX5_freedByAll_64 : decode cX5_freedByAll 64 = .ok (.goto (-41), 3) := by decide +kernel
theorem dX5_freedByAll_67 : decode cX5_freedByAll 67 = .ok (.iconst 0, 1) := by decide +kernel
theorem dX5_freedByAll_68 : decode cX5_freedByAll 68 = .ok (.istore_n 2, 1) := by decide +kernel
theorem dX5_freedByAll_69 : decode cX5_freedByAll 69 = .ok (.iconst 0, 1) := by decide +kernel
theorem dX5_freedByAll_70 : decode cX5_freedByAll 70 = .ok (.istore_n 3, 1) := by decide +kernel
theorem dX5_freedByAll_71 : decode cX5_freedByAll 71 = .ok (.iload_n 3, 1) := by decide +kernel
theorem dX5_freedByAll_72 : decode cX5_freedByAll 72 = .ok (.aload_n 0, 1) := by decide +kernel
theorem dX5_freedByAll_73 : decode cX5_freedByAll 73 = .ok (.getfield 61, 3) := by decide +kernel
theorem dX5_freedByAll_76 : decode cX5_freedByAll 76 = .ok (.if_icmp .ge 51, 3) := by decide +kernel
theorem dX5_freedByAll_79 : decode cX5_freedByAll 79 = .ok (.aload_n 0, 1) := by decide +kernel
theorem dX5_freedByAll_80 : decode cX5_freedByAll 80 = .ok (.getfield 35, 3) := by decide +kernel
theorem dX5_freedByAll_83 : decode cX5_freedByAll 83 = .ok (.iload_n 3, 1) := by decide +kernel
theorem dX5_freedByAll_84 : decode cX5_freedByAll 84 = .ok (.aaload, 1) := by decide +kernel
theorem dX5_freedByAll_85 : decode cX5_freedByAll 85 = .ok (.astore 4, 2) := by decide +kernel
theorem dX5_freedByAll_87 : decode cX5_freedByAll 87 = .ok (.aload 4, 2) := by decide +kernel
theorem dX5_freedByAll_89 : decode cX5_freedByAll 89 = .ok (.getfield 274, 3) := by decide +kernel
theorem dX5_freedByAll_92 : decode cX5_freedByAll 92 = .ok (.iload_n 1, 1) := by decide +kernel
theorem dX5_freedByAll_93 : decode cX5_freedByAll 93 = .ok (.if_icmp .ne 28, 3) := by decide +kernel
theorem dX5_freedByAll_96 : decode cX5_freedByAll 96 = .ok (.aload 4, 2) := by decide +kernel
theorem dX5_freedByAll_98 : decode cX5_freedByAll 98 = .ok (.invokevirtual 270, 3) := by decide +kernel
theorem dX5_freedByAll_101 : decode cX5_freedByAll 101 = .ok (.ifCond .eq 20, 3) := by decide +kernel
theorem dX5_freedByAll_104 : decode cX5_freedByAll 104 = .ok (.aload_n 0, 1) := by decide +kernel
theorem dX5_freedByAll_105 : decode cX5_freedByAll 105 = .ok (.aload 4, 2) := by decide +kernel
theorem dX5_freedByAll_107 : decode cX5_freedByAll 107 = .ok (.aload_n 0, 1) := by decide +kernel
theorem dX5_freedByAll_108 : decode cX5_freedByAll 108 = .ok (.getfield 44, 3) := by decide +kernel
theorem dX5_freedByAll_111 : decode cX5_freedByAll 111 = .ok (.invokevirtual 277, 3) := by decide +kernel
theorem dX5_freedByAll_114 : decode cX5_freedByAll 114 = .ok (.iconst (-1), 1) := by decide +kernel
theorem dX5_freedByAll_115 : decode cX5_freedByAll 115 = .ok (.if_icmp .ne 6, 3) := by decide +kernel
theorem dX5_freedByAll_118 : decode cX5_freedByAll 118 = .ok (.iinc 2 1, 3) := by decide +kernel
theorem dX5_freedByAll_121 : decode cX5_freedByAll 121 = .ok (.iinc 3 1, 3) := by decide +kernel
theorem dX5_freedByAll_124 : decode cX5_freedByAll 124 = .ok (.goto (-53), 3) := by decide +kernel
theorem dX5_freedByAll_127 : decode cX5_freedByAll 127 = .ok (.iload_n 2, 1) := by decide +kernel
theorem dX5_freedByAll_128 : decode cX5_freedByAll 128 = .ok (.ireturn, 1) := by decide +kernel
set_option maxRecDepth 20000 in
theorem ggX5_digest_X5_many : GoodIn wsX5_digest wsX5_many := goodIn_ca (goodIn_r _ [11, 12, 13, 3, 14, 15, 5, 6, 16, 17, 18, 19, 10, 20, 21, 22, 23, 24, 25, 4, 26, 27, 28, 29, 30, 31, 32, 33, 34, 35, 36, 37, 38, 39, 40, 41, 42, 43, 44, 45, 46, 47, 48, 49, 50, 51, 195, 196, 197, 198, 199, 200, 201, 202, 203, 204, 205, 206, 207, 218, 219, 220, 208, 209, 210, 211, 212, 213, 214, 215, 216, 217, 221, 222, 223, 224, 225, 226, 227, 228, 229] (by decide +kernel) (by decide +kernel)) (goodIn_sub (fun _ h => List.mem_cons_of_mem _ (List.mem_append_left _ (List.mem_append_right _ h))) (by decide +kernel))
set_option maxRecDepth 20000 in
theorem gX5_digest_X5_many : GoodIn wsX5_digest (wsV RX5 338 RX5 yX5_many wsX5_many) := goodIn_app (goodIn_of _ (by decide +kernel)) ggX5_digest_X5_many
set_option maxRecDepth 20000 in
theorem ggX5_digest_X5_ofSheet : GoodIn wsX5_digest wsX5_ofSheet := goodIn_ca (goodIn_ca (goodIn_r _ [55, 12, 13, 4, 56, 57, 58, 10, 59, 60, 61, 3, 62, 63, 64, 65, 66, 67, 68, 69, 70, 71, 72, 73, 74, 75, 45, 46, 76, 77, 78, 79, 80, 81, 82, 83, 84, 85, 86, 14, 21, 22, 23, 24, 25, 26, 27, 28, 87, 88, 89, 90, 91, 92, 93, 94, 38, 39, 40, 41, 42, 43, 44, 195, 196, 197, 198, 199, 200, 201, 202, 203, 204, 205, 206, 207, 208, 209, 210, 211, 212, 213, 214, 215, 216, 217, 218, 219, 220] (by decide +kernel) (by decide +kernel)) (goodIn_sub (fun _ h => List.mem_cons_of_mem _ (List.mem_append_left _ (List.mem_append_right _ h))) (by decide +kernel))) (goodIn_sub (fun _ h => List.mem_cons_of_mem _ (List.mem_append_right _ h)) (by decide +kernel))
set_option maxRecDepth 20000 in
theorem gX5_digest_X5_ofSheet : GoodIn wsX5_digest (wsV RX5 341 RX5 yX5_ofSheet wsX5_ofSheet) := goodIn_app (goodIn_of _ (by decide +kernel)) ggX5_digest_X5_ofSheet
set_option maxRecDepth 20000 in
theorem ggX5_digest_X5_status : GoodIn wsX5_digest wsX5_status := goodIn_ca (goodIn_r _ [98, 60, 61, 4, 56, 57, 58, 10, 59, 3, 68, 63, 69, 70, 71, 72, 195, 196, 197, 198, 199, 200, 201, 202, 203, 204, 205, 206, 207, 208, 209, 210, 211, 212, 213, 214, 215, 216, 217] (by decide +kernel) (by decide +kernel)) (goodIn_sub (fun _ h => List.mem_cons_of_mem _ (List.mem_append_right _ h)) (by decide +kernel))
set_option maxRecDepth 20000 in
theorem gX5_digest_X5_status : GoodIn wsX5_digest (wsV RX5 345 RX5 yX5_status wsX5_status) := goodIn_app (goodIn_of _ (by decide +kernel)) ggX5_digest_X5_status
set_option maxRecDepth 20000 in
theorem ggX5_digest_X5_has : GoodIn wsX5_digest wsX5_has := goodIn_ca (goodIn_r _ [102, 103, 104, 105, 10, 106, 60, 61, 56, 57, 58, 59, 3, 195, 196, 197, 198, 199, 200, 201, 202, 203, 204, 205, 206, 207] (by decide +kernel) (by decide +kernel)) (goodIn_sub (fun _ h => List.mem_cons_of_mem _ (List.mem_append_right _ h)) (by decide +kernel))
set_option maxRecDepth 20000 in
theorem gX5_digest_X5_has : GoodIn wsX5_digest (wsV RX5 348 RX5 yX5_has wsX5_has) := goodIn_app (goodIn_of _ (by decide +kernel)) ggX5_digest_X5_has
set_option maxRecDepth 20000 in
theorem ggX5_digest_X5_stoppedBy : GoodIn wsX5_digest wsX5_stoppedBy := goodIn_ca (goodIn_r _ [110, 4, 56, 57, 58, 10, 59, 60, 61, 3, 111, 112, 113, 114, 62, 63, 64, 65, 66, 67, 68, 69, 70, 71, 72, 83, 84, 85, 86, 14, 21, 22, 23, 24, 25, 26, 27, 28, 115, 116, 117, 118, 119, 120, 121, 122, 123, 124, 125, 6, 51, 103, 126, 127, 128, 129, 130, 131, 132, 133, 134, 135, 136, 137, 5, 33, 42, 43, 44, 45, 46, 38, 39, 40, 41, 138, 139, 140, 141, 142, 143, 144, 195, 196, 197, 198, 199, 200, 201, 202, 203, 204, 205, 206, 207, 208, 209, 210, 211, 212, 213, 214, 215, 216, 217, 218, 219, 220, 224, 225, 226, 227, 228, 229, 221, 222, 223] (by decide +kernel) (by decide +kernel)) (goodIn_sub (fun _ h => List.mem_cons_of_mem _ (List.mem_append_right _ h)) (by decide +kernel))
set_option maxRecDepth 20000 in
theorem gX5_digest_X5_stoppedBy : GoodIn wsX5_digest (wsV RX5 351 RX5 yX5_stoppedBy wsX5_stoppedBy) := goodIn_app (goodIn_of _ (by decide +kernel)) ggX5_digest_X5_stoppedBy
set_option maxRecDepth 20000 in
theorem ggX5_digest_X5_ofQuery : GoodIn wsX5_digest wsX5_ofQuery := goodIn_ca (goodIn_r _ [148, 33, 149, 150, 151, 10, 152, 60, 61, 5, 195, 196, 197, 198, 199, 200, 201, 202, 203, 204, 205, 206, 207, 221, 222, 223] (by decide +kernel) (by decide +kernel)) (goodIn_sub (fun _ h => List.mem_cons_of_mem _ (List.mem_append_right _ h)) (by decide +kernel))
set_option maxRecDepth 20000 in
theorem gX5_digest_X5_ofQuery : GoodIn wsX5_digest (wsV RX5 354 RX5 yX5_ofQuery wsX5_ofQuery) := goodIn_app (goodIn_of _ (by decide +kernel)) ggX5_digest_X5_ofQuery
set_option maxRecDepth 20000 in
theorem ggX5_digest_X5_freedBy : GoodIn wsX5_digest wsX5_freedBy := goodIn_ca (goodIn_r _ [156, 33, 149, 150, 151, 10, 152, 60, 61, 5, 157, 158, 159, 160, 6, 51, 103, 126, 127, 128, 129, 3, 26, 27, 28, 130, 131, 132, 133, 4, 83, 84, 85, 86, 14, 21, 22, 23, 24, 25, 134, 135, 136, 137, 42, 43, 44, 45, 46, 38, 39, 40, 41, 195, 196, 197, 198, 199, 200, 201, 202, 203, 204, 205, 206, 207, 221, 222, 223, 224, 225, 226, 227, 228, 229, 208, 209, 210, 211, 212, 213, 214, 215, 216, 217, 218, 219, 220] (by decide +kernel) (by decide +kernel)) (goodIn_sub (fun _ h => List.mem_cons_of_mem _ (List.mem_append_right _ h)) (by decide +kernel))
set_option maxRecDepth 20000 in
theorem gX5_digest_X5_freedBy : GoodIn wsX5_digest (wsV RX5 357 RX5 yX5_freedBy wsX5_freedBy) := goodIn_app (goodIn_of _ (by decide +kernel)) ggX5_digest_X5_freedBy
set_option maxRecDepth 20000 in
theorem ggX5_digest_X5_owes : GoodIn wsX5_digest wsX5_owes := goodIn_ca (goodIn_r _ [164, 15, 165, 16, 104, 105, 10, 106, 60, 61, 26, 27, 28, 195, 196, 197, 198, 199, 200, 201, 202, 203, 204, 205, 206, 207, 230, 231, 232] (by decide +kernel) (by decide +kernel)) (goodIn_sub (fun _ h => List.mem_cons_of_mem _ (List.mem_append_right _ h)) (by decide +kernel))
set_option maxRecDepth 20000 in
theorem gX5_digest_X5_owes : GoodIn wsX5_digest (wsV RX5 360 RX5 yX5_owes wsX5_owes) := goodIn_app (goodIn_of _ (by decide +kernel)) ggX5_digest_X5_owes
set_option maxRecDepth 20000 in
theorem ggX5_digest_X5_freedByAll : GoodIn wsX5_digest wsX5_freedByAll := goodIn_ca (goodIn_r _ [169, 103, 170, 171, 172, 173, 174, 15, 165, 6, 51, 104, 105, 10, 106, 60, 61, 26, 27, 28, 175, 176, 177, 178, 179, 180, 181, 182, 126, 127, 128, 129, 3, 130, 131, 132, 133, 4, 83, 84, 85, 86, 14, 21, 22, 23, 24, 25, 134, 135, 136, 137, 5, 33, 42, 43, 44, 45, 46, 38, 39, 40, 41, 195, 196, 197, 198, 199, 200, 201, 202, 203, 204, 205, 206, 207, 230, 231, 232, 224, 225, 226, 227, 228, 229, 208, 209, 210, 211, 212, 213, 214, 215, 216, 217, 218, 219, 220, 221, 222, 223] (by decide +kernel) (by decide +kernel)) (goodIn_sub (fun _ h => List.mem_cons_of_mem _ (List.mem_append_right _ h)) (by decide +kernel))
set_option maxRecDepth 20000 in
theorem gX5_digest_X5_freedByAll : GoodIn wsX5_digest (wsV RX5 363 RX5 yX5_freedByAll wsX5_freedByAll) := goodIn_app (goodIn_of _ (by decide +kernel)) ggX5_digest_X5_freedByAll
set_option maxRecDepth 20000 in
theorem ggX5_digest_X5_ofPack : GoodIn wsX5_digest wsX5_ofPack := goodIn_ca (goodIn_ca (goodIn_r _ [186, 12, 13, 51, 103, 187, 188, 189, 10, 190, 60, 61, 6, 126, 127, 128, 129, 3, 26, 27, 28, 130, 131, 132, 133, 4, 83, 84, 85, 86, 14, 21, 22, 23, 24, 25, 134, 135, 136, 137, 5, 33, 42, 43, 44, 45, 46, 38, 39, 40, 41, 191, 192, 193, 194, 195, 196, 197, 198, 199, 200, 201, 202, 203, 204, 205, 206, 207, 224, 225, 226, 227, 228, 229, 208, 209, 210, 211, 212, 213, 214, 215, 216, 217, 218, 219, 220, 221, 222, 223] (by decide +kernel) (by decide +kernel)) (goodIn_sub (fun _ h => List.mem_cons_of_mem _ (List.mem_append_left _ (List.mem_append_right _ h))) (by decide +kernel))) (goodIn_sub (fun _ h => List.mem_cons_of_mem _ (List.mem_append_right _ h)) (by decide +kernel))
set_option maxRecDepth 20000 in
theorem gX5_digest_X5_ofPack : GoodIn wsX5_digest (wsV RX5 366 RX5 yX5_ofPack wsX5_ofPack) := goodIn_app (goodIn_of _ (by decide +kernel)) ggX5_digest_X5_ofPack
theorem dX5_digest_0 : decode cX5_digest 0 = .ok (.ldc2_w 334, 3) := by decide +kernel
theorem dX5_digest_3 : decode cX5_digest 3 = .ok (.lstore_n 1, 1) := by decide +kernel
theorem dX5_digest_4 : decode cX5_digest 4 = .ok (.iconst 0, 1) := by decide +kernel
theorem dX5_digest_5 : decode cX5_digest 5 = .ok (.istore_n 3, 1) := by decide +kernel
theorem dX5_digest_6 : decode cX5_digest 6 = .ok (.iload_n 3, 1) := by decide +kernel
theorem dX5_digest_7 : decode cX5_digest 7 = .ok (.bipush 12, 2) := by decide +kernel
theorem dX5_digest_9 : decode cX5_digest 9 = .ok (.if_icmp .gt 22, 3) := by decide +kernel
theorem dX5_digest_12 : decode cX5_digest 12 = .ok (.lload_n 1, 1) := by decide +kernel
theorem dX5_digest_13 : decode cX5_digest 13 = .ok (.ldc2_w 336, 3) := by decide +kernel
theorem dX5_digest_16 : decode cX5_digest 16 = .ok (.lmul, 1) := by decide +kernel
theorem dX5_digest_17 : decode cX5_digest 17 = .ok (.aload_n 0, 1) := by decide +kernel
theorem dX5_digest_18 : decode cX5_digest 18 = .ok (.iload_n 3, 1) := by decide +kernel
theorem dX5_digest_19 : decode cX5_digest 19 = .ok (.invokevirtual 338, 3) := by decide +kernel
theorem dX5_digest_22 : decode cX5_digest 22 = .ok (.i2l, 1) := by decide +kernel
theorem dX5_digest_23 : decode cX5_digest 23 = .ok (.ladd, 1) := by decide +kernel
theorem dX5_digest_24 : decode cX5_digest 24 = .ok (.lstore_n 1, 1) := by decide +kernel
theorem dX5_digest_25 : decode cX5_digest 25 = .ok (.iinc 3 1, 3) := by decide +kernel
theorem dX5_digest_28 : decode cX5_digest 28 = .ok (.goto (-22), 3) := by decide +kernel
theorem dX5_digest_31 : decode cX5_digest 31 = .ok (.iconst 0, 1) := by decide +kernel
theorem dX5_digest_32 : decode cX5_digest 32 = .ok (.istore_n 3, 1) := by decide +kernel
theorem dX5_digest_33 : decode cX5_digest 33 = .ok (.iload_n 3, 1) := by decide +kernel
theorem dX5_digest_34 : decode cX5_digest 34 = .ok (.aload_n 0, 1) := by decide +kernel
theorem dX5_digest_35 : decode cX5_digest 35 = .ok (.getfield 48, 3) := by decide +kernel
theorem dX5_digest_38 : decode cX5_digest 38 = .ok (.if_icmp .ge 121, 3) := by decide +kernel
theorem dX5_digest_41 : decode cX5_digest 41 = .ok (.iconst 0, 1) := by decide +kernel
theorem dX5_digest_42 : decode cX5_digest 42 = .ok (.istore 4, 2) := by decide +kernel
theorem dX5_digest_44 : decode cX5_digest 44 = .ok (.iload 4, 2) := by decide +kernel
theorem dX5_digest_46 : decode cX5_digest 46 = .ok (.bipush 9, 2) := by decide +kernel
theorem dX5_digest_48 : decode cX5_digest 48 = .ok (.if_icmp .gt 24, 3) := by decide +kernel
theorem dX5_digest_51 : decode cX5_digest 51 = .ok (.lload_n 1, 1) := by decide +kernel
theorem dX5_digest_52 : decode cX5_digest 52 = .ok (.ldc2_w 336, 3) := by decide +kernel
theorem dX5_digest_55 : decode cX5_digest 55 = .ok (.lmul, 1) := by decide +kernel
theorem dX5_digest_56 : decode cX5_digest 56 = .ok (.aload_n 0, 1) := by decide +kernel
theorem dX5_digest_57 : decode cX5_digest 57 = .ok (.iload_n 3, 1) := by decide +kernel
theorem dX5_digest_58 : decode cX5_digest 58 = .ok (.iload 4, 2) := by decide +kernel
theorem dX5_digest_60 : decode cX5_digest 60 = .ok (.invokevirtual 341, 3) := by decide +kernel
theorem dX5_digest_63 : decode cX5_digest 63 = .ok (.i2l, 1) := by decide +kernel
theorem dX5_digest_64 : decode cX5_digest 64 = .ok (.ladd, 1) := by decide +kernel
theorem dX5_digest_65 : decode cX5_digest 65 = .ok (.lstore_n 1, 1) := by decide +kernel
theorem dX5_digest_66 : decode cX5_digest 66 = .ok (.iinc 4 1, 3) := by decide +kernel
theorem dX5_digest_69 : decode cX5_digest 69 = .ok (.goto (-25), 3) := by decide +kernel
theorem dX5_digest_72 : decode cX5_digest 72 = .ok (.iconst 0, 1) := by decide +kernel
theorem dX5_digest_73 : decode cX5_digest 73 = .ok (.istore 4, 2) := by decide +kernel
theorem dX5_digest_75 : decode cX5_digest 75 = .ok (.iload 4, 2) := by decide +kernel
theorem dX5_digest_77 : decode cX5_digest 77 = .ok (.aload_n 0, 1) := by decide +kernel
theorem dX5_digest_78 : decode cX5_digest 78 = .ok (.getfield 11, 3) := by decide +kernel
theorem dX5_digest_81 : decode cX5_digest 81 = .ok (.iload_n 3, 1) := by decide +kernel
theorem dX5_digest_82 : decode cX5_digest 82 = .ok (.aaload, 1) := by decide +kernel
theorem dX5_digest_83 : decode cX5_digest 83 = .ok (.getfield 115, 3) := by decide +kernel
theorem dX5_digest_86 : decode cX5_digest 86 = .ok (.if_icmp .gt 24, 3) := by decide +kernel
theorem dX5_digest_89 : decode cX5_digest 89 = .ok (.lload_n 1, 1) := by decide +kernel
theorem dX5_digest_90 : decode cX5_digest 90 = .ok (.ldc2_w 336, 3) := by decide +kernel
theorem dX5_digest_93 : decode cX5_digest 93 = .ok (.lmul, 1) := by decide +kernel
theorem dX5_digest_94 : decode cX5_digest 94 = .ok (.aload_n 0, 1) := by decide +kernel
theorem dX5_digest_95 : decode cX5_digest 95 = .ok (.iload_n 3, 1) := by decide +kernel
theorem dX5_digest_96 : decode cX5_digest 96 = .ok (.iload 4, 2) := by decide +kernel
theorem dX5_digest_98 : decode cX5_digest 98 = .ok (.invokevirtual 345, 3) := by decide +kernel
theorem dX5_digest_101 : decode cX5_digest 101 = .ok (.i2l, 1) := by decide +kernel
theorem dX5_digest_102 : decode cX5_digest 102 = .ok (.ladd, 1) := by decide +kernel
theorem dX5_digest_103 : decode cX5_digest 103 = .ok (.lstore_n 1, 1) := by decide +kernel
theorem dX5_digest_104 : decode cX5_digest 104 = .ok (.iinc 4 1, 3) := by decide +kernel
theorem dX5_digest_107 : decode cX5_digest 107 = .ok (.goto (-32), 3) := by decide +kernel
theorem dX5_digest_110 : decode cX5_digest 110 = .ok (.iconst 0, 1) := by decide +kernel
theorem dX5_digest_111 : decode cX5_digest 111 = .ok (.istore 4, 2) := by decide +kernel
theorem dX5_digest_113 : decode cX5_digest 113 = .ok (.iload 4, 2) := by decide +kernel
theorem dX5_digest_115 : decode cX5_digest 115 = .ok (.iconst 4, 1) := by decide +kernel
theorem dX5_digest_116 : decode cX5_digest 116 = .ok (.if_icmp .ge 24, 3) := by decide +kernel
theorem dX5_digest_119 : decode cX5_digest 119 = .ok (.lload_n 1, 1) := by decide +kernel
theorem dX5_digest_120 : decode cX5_digest 120 = .ok (.ldc2_w 336, 3) := by decide +kernel
theorem dX5_digest_123 : decode cX5_digest 123 = .ok (.lmul, 1) := by decide +kernel
theorem dX5_digest_124 : decode cX5_digest 124 = .ok (.aload_n 0, 1) := by decide +kernel
theorem dX5_digest_125 : decode cX5_digest 125 = .ok (.iload 4, 2) := by decide +kernel
theorem dX5_digest_127 : decode cX5_digest 127 = .ok (.iload_n 3, 1) := by decide +kernel
theorem dX5_digest_128 : decode cX5_digest 128 = .ok (.invokevirtual 348, 3) := by decide +kernel
theorem dX5_digest_131 : decode cX5_digest 131 = .ok (.i2l, 1) := by decide +kernel
theorem dX5_digest_132 : decode cX5_digest 132 = .ok (.ladd, 1) := by decide +kernel
theorem dX5_digest_133 : decode cX5_digest 133 = .ok (.lstore_n 1, 1) := by decide +kernel
theorem dX5_digest_134 : decode cX5_digest 134 = .ok (.iinc 4 1, 3) := by decide +kernel
theorem dX5_digest_137 : decode cX5_digest 137 = .ok (.goto (-24), 3) := by decide +kernel
theorem dX5_digest_140 : decode cX5_digest 140 = .ok (.lload_n 1, 1) := by decide +kernel
theorem dX5_digest_141 : decode cX5_digest 141 = .ok (.ldc2_w 336, 3) := by decide +kernel
theorem dX5_digest_144 : decode cX5_digest 144 = .ok (.lmul, 1) := by decide +kernel
theorem dX5_digest_145 : decode cX5_digest 145 = .ok (.aload_n 0, 1) := by decide +kernel
theorem dX5_digest_146 : decode cX5_digest 146 = .ok (.iload_n 3, 1) := by decide +kernel
theorem dX5_digest_147 : decode cX5_digest 147 = .ok (.invokevirtual 351, 3) := by decide +kernel
theorem dX5_digest_150 : decode cX5_digest 150 = .ok (.i2l, 1) := by decide +kernel
theorem dX5_digest_151 : decode cX5_digest 151 = .ok (.ladd, 1) := by decide +kernel
theorem dX5_digest_152 : decode cX5_digest 152 = .ok (.lstore_n 1, 1) := by decide +kernel
theorem dX5_digest_153 : decode cX5_digest 153 = .ok (.iinc 3 1, 3) := by decide +kernel
theorem dX5_digest_156 : decode cX5_digest 156 = .ok (.goto (-123), 3) := by decide +kernel
theorem dX5_digest_159 : decode cX5_digest 159 = .ok (.iconst 0, 1) := by decide +kernel
theorem dX5_digest_160 : decode cX5_digest 160 = .ok (.istore_n 3, 1) := by decide +kernel
theorem dX5_digest_161 : decode cX5_digest 161 = .ok (.iload_n 3, 1) := by decide +kernel
theorem dX5_digest_162 : decode cX5_digest 162 = .ok (.aload_n 0, 1) := by decide +kernel
theorem dX5_digest_163 : decode cX5_digest 163 = .ok (.getfield 58, 3) := by decide +kernel
theorem dX5_digest_166 : decode cX5_digest 166 = .ok (.if_icmp .ge 35, 3) := by decide +kernel
theorem dX5_digest_169 : decode cX5_digest 169 = .ok (.lload_n 1, 1) := by decide +kernel
theorem dX5_digest_170 : decode cX5_digest 170 = .ok (.ldc2_w 336, 3) := by decide +kernel
theorem dX5_digest_173 : decode cX5_digest 173 = .ok (.lmul, 1) := by decide +kernel
theorem dX5_digest_174 : decode cX5_digest 174 = .ok (.aload_n 0, 1) := by decide +kernel
theorem dX5_digest_175 : decode cX5_digest 175 = .ok (.iload_n 3, 1) := by decide +kernel
theorem dX5_digest_176 : decode cX5_digest 176 = .ok (.invokevirtual 354, 3) := by decide +kernel
theorem dX5_digest_179 : decode cX5_digest 179 = .ok (.i2l, 1) := by decide +kernel
theorem dX5_digest_180 : decode cX5_digest 180 = .ok (.ladd, 1) := by decide +kernel
theorem dX5_digest_181 : decode cX5_digest 181 = .ok (.lstore_n 1, 1) := by decide +kernel
theorem dX5_digest_182 : decode cX5_digest 182 = .ok (.lload_n 1, 1) := by decide +kernel
theorem dX5_digest_183 : decode cX5_digest 183 = .ok (.ldc2_w 336, 3) := by decide +kernel
theorem dX5_digest_186 : decode cX5_digest 186 = .ok (.lmul, 1) := by decide +kernel
theorem dX5_digest_187 : decode cX5_digest 187 = .ok (.aload_n 0, 1) := by decide +kernel
theorem dX5_digest_188 : decode cX5_digest 188 = .ok (.iload_n 3, 1) := by decide +kernel
theorem dX5_digest_189 : decode cX5_digest 189 = .ok (.invokevirtual 357, 3) := by decide +kernel
theorem dX5_digest_192 : decode cX5_digest 192 = .ok (.i2l, 1) := by decide +kernel
theorem dX5_digest_193 : decode cX5_digest 193 = .ok (.ladd, 1) := by decide +kernel
theorem dX5_digest_194 : decode cX5_digest 194 = .ok (.lstore_n 1, 1) := by decide +kernel
theorem dX5_digest_195 : decode cX5_digest 195 = .ok (.iinc 3 1, 3) := by decide +kernel
theorem dX5_digest_198 : decode cX5_digest 198 = .ok (.goto (-37), 3) := by decide +kernel
theorem dX5_digest_201 : decode cX5_digest 201 = .ok (.iconst 0, 1) := by decide +kernel
theorem dX5_digest_202 : decode cX5_digest 202 = .ok (.istore_n 3, 1) := by decide +kernel
theorem dX5_digest_203 : decode cX5_digest 203 = .ok (.iload_n 3, 1) := by decide +kernel
theorem dX5_digest_204 : decode cX5_digest 204 = .ok (.iconst 4, 1) := by decide +kernel
theorem dX5_digest_205 : decode cX5_digest 205 = .ok (.if_icmp .ge 35, 3) := by decide +kernel
theorem dX5_digest_208 : decode cX5_digest 208 = .ok (.lload_n 1, 1) := by decide +kernel
theorem dX5_digest_209 : decode cX5_digest 209 = .ok (.ldc2_w 336, 3) := by decide +kernel
theorem dX5_digest_212 : decode cX5_digest 212 = .ok (.lmul, 1) := by decide +kernel
theorem dX5_digest_213 : decode cX5_digest 213 = .ok (.aload_n 0, 1) := by decide +kernel
theorem dX5_digest_214 : decode cX5_digest 214 = .ok (.iload_n 3, 1) := by decide +kernel
theorem dX5_digest_215 : decode cX5_digest 215 = .ok (.invokevirtual 360, 3) := by decide +kernel
theorem dX5_digest_218 : decode cX5_digest 218 = .ok (.i2l, 1) := by decide +kernel
theorem dX5_digest_219 : decode cX5_digest 219 = .ok (.ladd, 1) := by decide +kernel
theorem dX5_digest_220 : decode cX5_digest 220 = .ok (.lstore_n 1, 1) := by decide +kernel
theorem dX5_digest_221 : decode cX5_digest 221 = .ok (.lload_n 1, 1) := by decide +kernel
theorem dX5_digest_222 : decode cX5_digest 222 = .ok (.ldc2_w 336, 3) := by decide +kernel
theorem dX5_digest_225 : decode cX5_digest 225 = .ok (.lmul, 1) := by decide +kernel
theorem dX5_digest_226 : decode cX5_digest 226 = .ok (.aload_n 0, 1) := by decide +kernel
theorem dX5_digest_227 : decode cX5_digest 227 = .ok (.iload_n 3, 1) := by decide +kernel
theorem dX5_digest_228 : decode cX5_digest 228 = .ok (.invokevirtual 363, 3) := by decide +kernel
theorem dX5_digest_231 : decode cX5_digest 231 = .ok (.i2l, 1) := by decide +kernel
theorem dX5_digest_232 : decode cX5_digest 232 = .ok (.ladd, 1) := by decide +kernel
theorem dX5_digest_233 : decode cX5_digest 233 = .ok (.lstore_n 1, 1) := by decide +kernel
theorem dX5_digest_234 : decode cX5_digest 234 = .ok (.iinc 3 1, 3) := by decide +kernel
theorem dX5_digest_237 : decode cX5_digest 237 = .ok (.goto (-34), 3) := by decide +kernel
theorem dX5_digest_240 : decode cX5_digest 240 = .ok (.iconst 0, 1) := by decide +kernel
theorem dX5_digest_241 : decode cX5_digest 241 = .ok (.istore_n 3, 1) := by decide +kernel
theorem dX5_digest_242 : decode cX5_digest 242 = .ok (.iload_n 3, 1) := by decide +kernel
theorem dX5_digest_243 : decode cX5_digest 243 = .ok (.aload_n 0, 1) := by decide +kernel
theorem dX5_digest_244 : decode cX5_digest 244 = .ok (.getfield 61, 3) := by decide +kernel
theorem dX5_digest_247 : decode cX5_digest 247 = .ok (.if_icmp .ge 40, 3) := by decide +kernel
theorem dX5_digest_250 : decode cX5_digest 250 = .ok (.iconst 0, 1) := by decide +kernel
theorem dX5_digest_251 : decode cX5_digest 251 = .ok (.istore 4, 2) := by decide +kernel
theorem dX5_digest_253 : decode cX5_digest 253 = .ok (.iload 4, 2) := by decide +kernel
theorem dX5_digest_255 : decode cX5_digest 255 = .ok (.bipush 6, 2) := by decide +kernel
theorem dX5_digest_257 : decode cX5_digest 257 = .ok (.if_icmp .gt 24, 3) := by decide +kernel
theorem dX5_digest_260 : decode cX5_digest 260 = .ok (.lload_n 1, 1) := by decide +kernel
theorem dX5_digest_261 : decode cX5_digest 261 = .ok (.ldc2_w 336, 3) := by decide +kernel
theorem dX5_digest_264 : decode cX5_digest 264 = .ok (.lmul, 1) := by decide +kernel
theorem dX5_digest_265 : decode cX5_digest 265 = .ok (.aload_n 0, 1) := by decide +kernel
theorem dX5_digest_266 : decode cX5_digest 266 = .ok (.iload_n 3, 1) := by decide +kernel
theorem dX5_digest_267 : decode cX5_digest 267 = .ok (.iload 4, 2) := by decide +kernel
theorem dX5_digest_269 : decode cX5_digest 269 = .ok (.invokevirtual 366, 3) := by decide +kernel
theorem dX5_digest_272 : decode cX5_digest 272 = .ok (.i2l, 1) := by decide +kernel
theorem dX5_digest_273 : decode cX5_digest 273 = .ok (.ladd, 1) := by decide +kernel
theorem dX5_digest_274 : decode cX5_digest 274 = .ok (.lstore_n 1, 1) := by decide +kernel
theorem dX5_digest_275 : decode cX5_digest 275 = .ok (.iinc 4 1, 3) := by decide +kernel
theorem dX5_digest_278 : decode cX5_digest 278 = .ok (.goto (-25), 3) := by decide +kernel
theorem dX5_digest_281 : decode cX5_digest 281 = .ok (.iinc 3 1, 3) := by decide +kernel
theorem dX5_digest_284 : decode cX5_digest 284 = .ok (.goto (-42), 3) := by decide +kernel
theorem dX5_digest_287 : decode cX5_digest 287 = .ok (.lload_n 1, 1) := by decide +kernel
theorem dX5_digest_288 : decode cX5_digest 288 = .ok (.lreturn, 1) := by decide +kernel
theorem dX5_requireSheet_0 : decode cX5_requireSheet 0 = .ok (.iload_n 1, 1) := by decide +kernel
theorem dX5_requireSheet_1 : decode cX5_requireSheet 1 = .ok (.ifCond .lt 11, 3) := by decide +kernel
theorem dX5_requireSheet_4 : decode cX5_requireSheet 4 = .ok (.iload_n 1, 1) := by decide +kernel
theorem dX5_requireSheet_5 : decode cX5_requireSheet 5 = .ok (.aload_n 0, 1) := by decide +kernel
theorem dX5_requireSheet_6 : decode cX5_requireSheet 6 = .ok (.getfield 48, 3) := by decide +kernel
theorem dX5_requireSheet_9 : decode cX5_requireSheet 9 = .ok (.if_icmp .lt 14, 3) := by decide +kernel
theorem dX5_requireSheet_12 : decode cX5_requireSheet 12 = .ok (.new 177, 3) := by decide +kernel
theorem dX5_requireSheet_15 : decode cX5_requireSheet 15 = .ok (.dup, 1) := by decide +kernel
theorem dX5_requireSheet_16 : decode cX5_requireSheet 16 = .ok (.ldc_w 369, 3) := by decide +kernel
theorem dX5_requireSheet_19 : decode cX5_requireSheet 19 = .ok (.invokespecial 181, 3) := by decide +kernel
theorem dX5_requireSheet_22 : decode cX5_requireSheet 22 = .ok (.athrow, 1) := by decide +kernel
theorem dX5_requireSheet_23 : decode cX5_requireSheet 23 = .ok (.return_, 1) := by decide +kernel
set_option maxRecDepth 20000 in
theorem ggX5_requireTwoSheets_X5_requireSheet : GoodIn wsX5_requireTwoSheets wsX5_requireSheet := goodIn_ca (goodIn_r _ [7, 8, 9, 10, 11, 12, 13, 14, 15, 16, 17, 18, 19, 20, 21, 22, 23] (by decide +kernel) (by decide +kernel)) (goodIn_sub (fun _ h => List.mem_cons_of_mem _ (List.mem_append_right _ h)) (by decide +kernel))
set_option maxRecDepth 20000 in
theorem gX5_requireTwoSheets_X5_requireSheet : GoodIn wsX5_requireTwoSheets (wsV RX5 88 RX5 yX5_requireSheet wsX5_requireSheet) := goodIn_app (goodIn_of _ (by decide +kernel)) ggX5_requireTwoSheets_X5_requireSheet
theorem dX5_requireTwoSheets_0 : decode cX5_requireTwoSheets 0 = .ok (.aload_n 0, 1) := by decide +kernel
theorem dX5_requireTwoSheets_1 : decode cX5_requireTwoSheets 1 = .ok (.iload_n 1, 1) := by decide +kernel
theorem dX5_requireTwoSheets_2 : decode cX5_requireTwoSheets 2 = .ok (.invokevirtual 88, 3) := by decide +kernel
theorem dX5_requireTwoSheets_5 : decode cX5_requireTwoSheets 5 = .ok (.aload_n 0, 1) := by decide +kernel
theorem dX5_requireTwoSheets_6 : decode cX5_requireTwoSheets 6 = .ok (.iload_n 2, 1) := by decide +kernel
theorem dX5_requireTwoSheets_7 : decode cX5_requireTwoSheets 7 = .ok (.invokevirtual 88, 3) := by decide +kernel
theorem dX5_requireTwoSheets_10 : decode cX5_requireTwoSheets 10 = .ok (.iload_n 1, 1) := by decide +kernel
theorem dX5_requireTwoSheets_11 : decode cX5_requireTwoSheets 11 = .ok (.iload_n 2, 1) := by decide +kernel
theorem dX5_requireTwoSheets_12 : decode cX5_requireTwoSheets 12 = .ok (.if_icmp .ne 14, 3) := by decide +kernel
theorem dX5_requireTwoSheets_15 : decode cX5_requireTwoSheets 15 = .ok (.new 73, 3) := by decide +kernel
theorem dX5_requireTwoSheets_18 : decode cX5_requireTwoSheets 18 = .ok (.dup, 1) := by decide +kernel
theorem dX5_requireTwoSheets_19 : decode cX5_requireTwoSheets 19 = .ok (.ldc_w 371, 3) := by decide +kernel
theorem dX5_requireTwoSheets_22 : decode cX5_requireTwoSheets 22 = .ok (.invokespecial 77, 3) := by decide +kernel
theorem dX5_requireTwoSheets_25 : decode cX5_requireTwoSheets 25 = .ok (.athrow, 1) := by decide +kernel
theorem dX5_requireTwoSheets_26 : decode cX5_requireTwoSheets 26 = .ok (.return_, 1) := by decide +kernel
theorem dX5_requireQuery_0 : decode cX5_requireQuery 0 = .ok (.iload_n 1, 1) := by decide +kernel
theorem dX5_requireQuery_1 : decode cX5_requireQuery 1 = .ok (.ifCond .lt 11, 3) := by decide +kernel
theorem dX5_requireQuery_4 : decode cX5_requireQuery 4 = .ok (.iload_n 1, 1) := by decide +kernel
theorem dX5_requireQuery_5 : decode cX5_requireQuery 5 = .ok (.aload_n 0, 1) := by decide +kernel
theorem dX5_requireQuery_6 : decode cX5_requireQuery 6 = .ok (.getfield 58, 3) := by decide +kernel
theorem dX5_requireQuery_9 : decode cX5_requireQuery 9 = .ok (.if_icmp .lt 14, 3) := by decide +kernel
theorem dX5_requireQuery_12 : decode cX5_requireQuery 12 = .ok (.new 177, 3) := by decide +kernel
theorem dX5_requireQuery_15 : decode cX5_requireQuery 15 = .ok (.dup, 1) := by decide +kernel
theorem dX5_requireQuery_16 : decode cX5_requireQuery 16 = .ok (.ldc_w 373, 3) := by decide +kernel
theorem dX5_requireQuery_19 : decode cX5_requireQuery 19 = .ok (.invokespecial 181, 3) := by decide +kernel
theorem dX5_requireQuery_22 : decode cX5_requireQuery 22 = .ok (.athrow, 1) := by decide +kernel
theorem dX5_requireQuery_23 : decode cX5_requireQuery 23 = .ok (.return_, 1) := by decide +kernel
theorem dX5_requirePackage_0 : decode cX5_requirePackage 0 = .ok (.iload_n 1, 1) := by decide +kernel
theorem dX5_requirePackage_1 : decode cX5_requirePackage 1 = .ok (.ifCond .lt 11, 3) := by decide +kernel
theorem dX5_requirePackage_4 : decode cX5_requirePackage 4 = .ok (.iload_n 1, 1) := by decide +kernel
theorem dX5_requirePackage_5 : decode cX5_requirePackage 5 = .ok (.aload_n 0, 1) := by decide +kernel
theorem dX5_requirePackage_6 : decode cX5_requirePackage 6 = .ok (.getfield 61, 3) := by decide +kernel
theorem dX5_requirePackage_9 : decode cX5_requirePackage 9 = .ok (.if_icmp .lt 14, 3) := by decide +kernel
theorem dX5_requirePackage_12 : decode cX5_requirePackage 12 = .ok (.new 177, 3) := by decide +kernel
theorem dX5_requirePackage_15 : decode cX5_requirePackage 15 = .ok (.dup, 1) := by decide +kernel
theorem dX5_requirePackage_16 : decode cX5_requirePackage 16 = .ok (.ldc_w 375, 3) := by decide +kernel
theorem dX5_requirePackage_19 : decode cX5_requirePackage 19 = .ok (.invokespecial 181, 3) := by decide +kernel
theorem dX5_requirePackage_22 : decode cX5_requirePackage 22 = .ok (.athrow, 1) := by decide +kernel
theorem dX5_requirePackage_23 : decode cX5_requirePackage 23 = .ok (.return_, 1) := by decide +kernel
theorem dX5_requireCrew_0 : decode cX5_requireCrew 0 = .ok (.iload_n 0, 1) := by decide +kernel
theorem dX5_requireCrew_1 : decode cX5_requireCrew 1 = .ok (.ifCond .lt 8, 3) := by decide +kernel
theorem dX5_requireCrew_4 : decode cX5_requireCrew 4 = .ok (.iload_n 0, 1) := by decide +kernel
theorem dX5_requireCrew_5 : decode cX5_requireCrew 5 = .ok (.iconst 4, 1) := by decide +kernel
theorem dX5_requireCrew_6 : decode cX5_requireCrew 6 = .ok (.if_icmp .lt 14, 3) := by decide +kernel
theorem dX5_requireCrew_9 : decode cX5_requireCrew 9 = .ok (.new 177, 3) := by decide +kernel
theorem dX5_requireCrew_12 : decode cX5_requireCrew 12 = .ok (.dup, 1) := by decide +kernel
theorem dX5_requireCrew_13 : decode cX5_requireCrew 13 = .ok (.ldc_w 377, 3) := by decide +kernel
theorem dX5_requireCrew_16 : decode cX5_requireCrew 16 = .ok (.invokespecial 181, 3) := by decide +kernel
theorem dX5_requireCrew_19 : decode cX5_requireCrew 19 = .ok (.athrow, 1) := by decide +kernel
theorem dX5_requireCrew_20 : decode cX5_requireCrew 20 = .ok (.return_, 1) := by decide +kernel
theorem dX5_requireRegion_0 : decode cX5_requireRegion 0 = .ok (.iload_n 0, 1) := by decide +kernel
theorem dX5_requireRegion_1 : decode cX5_requireRegion 1 = .ok (.ifCond .lt 29, 3) := by decide +kernel
theorem dX5_requireRegion_4 : decode cX5_requireRegion 4 = .ok (.iload_n 0, 1) := by decide +kernel
theorem dX5_requireRegion_5 : decode cX5_requireRegion 5 = .ok (.iload_n 2, 1) := by decide +kernel
theorem dX5_requireRegion_6 : decode cX5_requireRegion 6 = .ok (.if_icmp .gt 24, 3) := by decide +kernel
theorem dX5_requireRegion_9 : decode cX5_requireRegion 9 = .ok (.iload_n 2, 1) := by decide +kernel
theorem dX5_requireRegion_10 : decode cX5_requireRegion 10 = .ok (.bipush 20, 2) := by decide +kernel
theorem dX5_requireRegion_12 : decode cX5_requireRegion 12 = .ok (.if_icmp .ge 18, 3) := by decide +kernel
theorem dX5_requireRegion_15 : decode cX5_requireRegion 15 = .ok (.iload_n 1, 1) := by decide +kernel
theorem dX5_requireRegion_16 : decode cX5_requireRegion 16 = .ok (.ifCond .lt 14, 3) := by decide +kernel
theorem dX5_requireRegion_19 : decode cX5_requireRegion 19 = .ok (.iload_n 1, 1) := by decide +kernel
theorem dX5_requireRegion_20 : decode cX5_requireRegion 20 = .ok (.iload_n 3, 1) := by decide +kernel
theorem dX5_requireRegion_21 : decode cX5_requireRegion 21 = .ok (.if_icmp .gt 9, 3) := by decide +kernel
theorem dX5_requireRegion_24 : decode cX5_requireRegion 24 = .ok (.iload_n 3, 1) := by decide +kernel
theorem dX5_requireRegion_25 : decode cX5_requireRegion 25 = .ok (.bipush 20, 2) := by decide +kernel
theorem dX5_requireRegion_27 : decode cX5_requireRegion 27 = .ok (.if_icmp .lt 14, 3) := by decide +kernel
theorem dX5_requireRegion_30 : decode cX5_requireRegion 30 = .ok (.new 73, 3) := by decide +kernel
theorem dX5_requireRegion_33 : decode cX5_requireRegion 33 = .ok (.dup, 1) := by decide +kernel
theorem dX5_requireRegion_34 : decode cX5_requireRegion 34 = .ok (.ldc_w 379, 3) := by decide +kernel
theorem dX5_requireRegion_37 : decode cX5_requireRegion 37 = .ok (.invokespecial 77, 3) := by decide +kernel
theorem dX5_requireRegion_40 : decode cX5_requireRegion 40 = .ok (.athrow, 1) := by decide +kernel
theorem dX5_requireRegion_41 : decode cX5_requireRegion 41 = .ok (.return_, 1) := by decide +kernel
theorem dX5_isSetOfSheets_0 : decode cX5_isSetOfSheets 0 = .ok (.iload_n 1, 1) := by decide +kernel
theorem dX5_isSetOfSheets_1 : decode cX5_isSetOfSheets 1 = .ok (.iconst 1, 1) := by decide +kernel
theorem dX5_isSetOfSheets_2 : decode cX5_isSetOfSheets 2 = .ok (.if_icmp .lt 17, 3) := by decide +kernel
theorem dX5_isSetOfSheets_5 : decode cX5_isSetOfSheets 5 = .ok (.iload_n 1, 1) := by decide +kernel
theorem dX5_isSetOfSheets_6 : decode cX5_isSetOfSheets 6 = .ok (.iconst 1, 1) := by decide +kernel
theorem dX5_isSetOfSheets_7 : decode cX5_isSetOfSheets 7 = .ok (.aload_n 0, 1) := by decide +kernel
theorem dX5_isSetOfSheets_8 : decode cX5_isSetOfSheets 8 = .ok (.getfield 48, 3) := by decide +kernel
theorem dX5_isSetOfSheets_11 : decode cX5_isSetOfSheets 11 = .ok (.ishl, 1) := by decide +kernel
theorem dX5_isSetOfSheets_12 : decode cX5_isSetOfSheets 12 = .ok (.if_icmp .ge 7, 3) := by decide +kernel
theorem dX5_isSetOfSheets_15 : decode cX5_isSetOfSheets 15 = .ok (.iconst 1, 1) := by decide +kernel
theorem dX5_isSetOfSheets_16 : decode cX5_isSetOfSheets 16 = .ok (.goto 4, 3) := by decide +kernel
theorem dX5_isSetOfSheets_19 : decode cX5_isSetOfSheets 19 = .ok (.iconst 0, 1) := by decide +kernel
theorem dX5_isSetOfSheets_20 : decode cX5_isSetOfSheets 20 = .ok (.ireturn, 1) := by decide +kernel
theorem dX5_isIn_0 : decode cX5_isIn 0 = .ok (.iload_n 0, 1) := by decide +kernel
theorem dX5_isIn_1 : decode cX5_isIn 1 = .ok (.iconst 1, 1) := by decide +kernel
theorem dX5_isIn_2 : decode cX5_isIn 2 = .ok (.iload_n 1, 1) := by decide +kernel
theorem dX5_isIn_3 : decode cX5_isIn 3 = .ok (.ishl, 1) := by decide +kernel
theorem dX5_isIn_4 : decode cX5_isIn 4 = .ok (.iand, 1) := by decide +kernel
theorem dX5_isIn_5 : decode cX5_isIn 5 = .ok (.ifCond .eq 7, 3) := by decide +kernel
theorem dX5_isIn_8 : decode cX5_isIn 8 = .ok (.iconst 1, 1) := by decide +kernel
theorem dX5_isIn_9 : decode cX5_isIn 9 = .ok (.goto 4, 3) := by decide +kernel
theorem dX5_isIn_12 : decode cX5_isIn 12 = .ok (.iconst 0, 1) := by decide +kernel
theorem dX5_isIn_13 : decode cX5_isIn 13 = .ok (.ireturn, 1) := by decide +kernel
set_option maxRecDepth 20000 in
theorem ggX5_regionOf_X5_bitsFrom : GoodIn wsX5_regionOf wsX5_bitsFrom := goodIn_r _ [4, 5] (by decide +kernel) (by decide +kernel)
set_option maxRecDepth 20000 in
theorem gX5_regionOf_X5_bitsFrom : GoodIn wsX5_regionOf (va_wsS RX5 381 yX5_bitsFrom wsX5_bitsFrom) := goodIn_app (goodIn_of _ (by decide +kernel)) ggX5_regionOf_X5_bitsFrom
theorem dX5_regionOf_0 : decode cX5_regionOf 0 = .ok (.iload_n 0, 1) := by decide +kernel
theorem dX5_regionOf_1 : decode cX5_regionOf 1 = .ok (.iload_n 2, 1) := by decide +kernel
theorem dX5_regionOf_2 : decode cX5_regionOf 2 = .ok (.invokestatic 381, 3) := by decide +kernel
theorem dX5_regionOf_5 : decode cX5_regionOf 5 = .ok (.iload_n 1, 1) := by decide +kernel
theorem dX5_regionOf_6 : decode cX5_regionOf 6 = .ok (.iload_n 3, 1) := by decide +kernel
theorem dX5_regionOf_7 : decode cX5_regionOf 7 = .ok (.invokestatic 381, 3) := by decide +kernel
theorem dX5_regionOf_10 : decode cX5_regionOf 10 = .ok (.bipush 20, 2) := by decide +kernel
theorem dX5_regionOf_12 : decode cX5_regionOf 12 = .ok (.lshl, 1) := by decide +kernel
theorem dX5_regionOf_13 : decode cX5_regionOf 13 = .ok (.lor, 1) := by decide +kernel
theorem dX5_regionOf_14 : decode cX5_regionOf 14 = .ok (.lreturn, 1) := by decide +kernel
theorem dX5_bitsFrom_0 : decode cX5_bitsFrom 0 = .ok (.ldc2_w 384, 3) := by decide +kernel
theorem dX5_bitsFrom_3 : decode cX5_bitsFrom 3 = .ok (.iload_n 1, 1) := by decide +kernel
theorem dX5_bitsFrom_4 : decode cX5_bitsFrom 4 = .ok (.lshl, 1) := by decide +kernel
theorem dX5_bitsFrom_5 : decode cX5_bitsFrom 5 = .ok (.lconst 1, 1) := by decide +kernel
theorem dX5_bitsFrom_6 : decode cX5_bitsFrom 6 = .ok (.iload_n 0, 1) := by decide +kernel
theorem dX5_bitsFrom_7 : decode cX5_bitsFrom 7 = .ok (.lshl, 1) := by decide +kernel
theorem dX5_bitsFrom_8 : decode cX5_bitsFrom 8 = .ok (.lsub, 1) := by decide +kernel
theorem dX5_bitsFrom_9 : decode cX5_bitsFrom 9 = .ok (.lreturn, 1) := by decide +kernel
set_option maxRecDepth 20000 in
theorem ggX5_fieldsOf_J13_bitCount_95d88 : GoodIn wsX5_fieldsOf wsJ13_bitCount_95d88 := goodIn_r _ [6, 7, 8, 9] (by decide +kernel) (by decide +kernel)
set_option maxRecDepth 20000 in
theorem gX5_fieldsOf_J13_bitCount_95d88 : GoodIn wsX5_fieldsOf (va_wsS RX5 388 yJ13_bitCount_95d88 wsJ13_bitCount_95d88) := goodIn_app (goodIn_of _ (by decide +kernel)) ggX5_fieldsOf_J13_bitCount_95d88
theorem dX5_fieldsOf_0 : decode cX5_fieldsOf 0 = .ok (.lload_n 0, 1) := by decide +kernel
theorem dX5_fieldsOf_1 : decode cX5_fieldsOf 1 = .ok (.ldc2_w 386, 3) := by decide +kernel
theorem dX5_fieldsOf_4 : decode cX5_fieldsOf 4 = .ok (.land, 1) := by decide +kernel
theorem dX5_fieldsOf_5 : decode cX5_fieldsOf 5 = .ok (.invokestatic 388, 3) := by decide +kernel
theorem dX5_fieldsOf_8 : decode cX5_fieldsOf 8 = .ok (.lload_n 0, 1) := by decide +kernel
theorem dX5_fieldsOf_9 : decode cX5_fieldsOf 9 = .ok (.ldc2_w 392, 3) := by decide +kernel
theorem dX5_fieldsOf_12 : decode cX5_fieldsOf 12 = .ok (.land, 1) := by decide +kernel
theorem dX5_fieldsOf_13 : decode cX5_fieldsOf 13 = .ok (.invokestatic 388, 3) := by decide +kernel
theorem dX5_fieldsOf_16 : decode cX5_fieldsOf 16 = .ok (.imul, 1) := by decide +kernel
theorem dX5_fieldsOf_17 : decode cX5_fieldsOf 17 = .ok (.ireturn, 1) := by decide +kernel
theorem dX5_hasField_0 : decode cX5_hasField 0 = .ok (.lload_n 0, 1) := by decide +kernel
theorem dX5_hasField_1 : decode cX5_hasField 1 = .ok (.ldc2_w 386, 3) := by decide +kernel
theorem dX5_hasField_4 : decode cX5_hasField 4 = .ok (.land, 1) := by decide +kernel
theorem dX5_hasField_5 : decode cX5_hasField 5 = .ok (.lconst 0, 1) := by decide +kernel
theorem dX5_hasField_6 : decode cX5_hasField 6 = .ok (.lcmp, 1) := by decide +kernel
theorem dX5_hasField_7 : decode cX5_hasField 7 = .ok (.ifCond .eq 17, 3) := by decide +kernel
theorem dX5_hasField_10 : decode cX5_hasField 10 = .ok (.lload_n 0, 1) := by decide +kernel
theorem dX5_hasField_11 : decode cX5_hasField 11 = .ok (.ldc2_w 392, 3) := by decide +kernel
theorem dX5_hasField_14 : decode cX5_hasField 14 = .ok (.land, 1) := by decide +kernel
theorem dX5_hasField_15 : decode cX5_hasField 15 = .ok (.lconst 0, 1) := by decide +kernel
theorem dX5_hasField_16 : decode cX5_hasField 16 = .ok (.lcmp, 1) := by decide +kernel
theorem dX5_hasField_17 : decode cX5_hasField 17 = .ok (.ifCond .eq 7, 3) := by decide +kernel
theorem dX5_hasField_20 : decode cX5_hasField 20 = .ok (.iconst 1, 1) := by decide +kernel
theorem dX5_hasField_21 : decode cX5_hasField 21 = .ok (.goto 4, 3) := by decide +kernel
theorem dX5_hasField_24 : decode cX5_hasField 24 = .ok (.iconst 0, 1) := by decide +kernel
theorem dX5_hasField_25 : decode cX5_hasField 25 = .ok (.ireturn, 1) := by decide +kernel
set_option maxRecDepth 20000 in
theorem ggX5_isBroken_X5_isIn : GoodIn wsX5_isBroken wsX5_isIn := goodIn_r _ [5] (by decide +kernel) (by decide +kernel)
set_option maxRecDepth 20000 in
theorem gX5_isBroken_X5_isIn : GoodIn wsX5_isBroken (va_wsS RX5 216 yX5_isIn wsX5_isIn) := goodIn_app (goodIn_of _ (by decide +kernel)) ggX5_isBroken_X5_isIn
theorem dX5_isBroken_0 : decode cX5_isBroken 0 = .ok (.aload_n 0, 1) := by decide +kernel
theorem dX5_isBroken_1 : decode cX5_isBroken 1 = .ok (.getfield 11, 3) := by decide +kernel
theorem dX5_isBroken_4 : decode cX5_isBroken 4 = .ok (.aload_n 1, 1) := by decide +kernel
theorem dX5_isBroken_5 : decode cX5_isBroken 5 = .ok (.getfield 394, 3) := by decide +kernel
theorem dX5_isBroken_8 : decode cX5_isBroken 8 = .ok (.aaload, 1) := by decide +kernel
theorem dX5_isBroken_9 : decode cX5_isBroken 9 = .ok (.getfield 163, 3) := by decide +kernel
theorem dX5_isBroken_12 : decode cX5_isBroken 12 = .ok (.aload_n 1, 1) := by decide +kernel
theorem dX5_isBroken_13 : decode cX5_isBroken 13 = .ok (.getfield 397, 3) := by decide +kernel
theorem dX5_isBroken_16 : decode cX5_isBroken 16 = .ok (.invokestatic 216, 3) := by decide +kernel
theorem dX5_isBroken_19 : decode cX5_isBroken 19 = .ok (.ifCond .ne 7, 3) := by decide +kernel
theorem dX5_isBroken_22 : decode cX5_isBroken 22 = .ok (.iconst 1, 1) := by decide +kernel
theorem dX5_isBroken_23 : decode cX5_isBroken 23 = .ok (.goto 4, 3) := by decide +kernel
theorem dX5_isBroken_26 : decode cX5_isBroken 26 = .ok (.iconst 0, 1) := by decide +kernel
theorem dX5_isBroken_27 : decode cX5_isBroken 27 = .ok (.ireturn, 1) := by decide +kernel
set_option maxRecDepth 20000 in
theorem ggX5_brokenFrom_X5_isBroken : GoodIn wsX5_brokenFrom wsX5_isBroken := goodIn_r _ [7, 8, 9, 10, 6, 11, 12, 13, 14, 15, 16, 17, 18, 19, 20, 21, 22, 23, 24, 25, 26, 27, 28, 29, 30, 31, 32, 33, 34, 35, 36, 37] (by decide +kernel) (by decide +kernel)
set_option maxRecDepth 20000 in
theorem gX5_brokenFrom_X5_isBroken : GoodIn wsX5_brokenFrom (wsV RX5 187 RX5 yX5_isBroken wsX5_isBroken) := goodIn_app (goodIn_of _ (by decide +kernel)) ggX5_brokenFrom_X5_isBroken
theorem dX5_brokenFrom_0 : decode cX5_brokenFrom 0 = .ok (.iconst 0, 1) := by decide +kernel
theorem dX5_brokenFrom_1 : decode cX5_brokenFrom 1 = .ok (.istore_n 2, 1) := by decide +kernel
theorem dX5_brokenFrom_2 : decode cX5_brokenFrom 2 = .ok (.iconst 0, 1) := by decide +kernel
theorem dX5_brokenFrom_3 : decode cX5_brokenFrom 3 = .ok (.istore_n 3, 1) := by decide +kernel
theorem dX5_brokenFrom_4 : decode cX5_brokenFrom 4 = .ok (.iload_n 3, 1) := by decide +kernel
theorem dX5_brokenFrom_5 : decode cX5_brokenFrom 5 = .ok (.aload_n 0, 1) := by decide +kernel
theorem dX5_brokenFrom_6 : decode cX5_brokenFrom 6 = .ok (.getfield 52, 3) := by decide +kernel
theorem dX5_brokenFrom_9 : decode cX5_brokenFrom 9 = .ok (.if_icmp .ge 38, 3) := by decide +kernel
theorem dX5_brokenFrom_12 : decode cX5_brokenFrom 12 = .ok (.aload_n 0, 1) := by decide +kernel
theorem dX5_brokenFrom_13 : decode cX5_brokenFrom 13 = .ok (.getfield 17, 3) := by decide +kernel
theorem dX5_brokenFrom_16 : decode cX5_brokenFrom 16 = .ok (.iload_n 3, 1) := by decide +kernel
theorem dX5_brokenFrom_17 : decode cX5_brokenFrom 17 = .ok (.aaload, 1) := by decide +kernel
theorem dX5_brokenFrom_18 : decode cX5_brokenFrom 18 = .ok (.getfield 400, 3) := by decide +kernel
theorem dX5_brokenFrom_21 : decode cX5_brokenFrom 21 = .ok (.iload_n 1, 1) := by decide +kernel
theorem dX5_brokenFrom_22 : decode cX5_brokenFrom 22 = .ok (.if_icmp .ne 19, 3) := by decide +kernel
theorem dX5_brokenFrom_25 : decode cX5_brokenFrom 25 = .ok (.aload_n 0, 1) := by decide +kernel
theorem dX5_brokenFrom_26 : decode cX5_brokenFrom 26 = .ok (.aload_n 0, 1) := by decide +kernel
theorem dX5_brokenFrom_27 : decode cX5_brokenFrom 27 = .ok (.getfield 17, 3) := by decide +kernel
theorem dX5_brokenFrom_30 : decode cX5_brokenFrom 30 = .ok (.iload_n 3, 1) := by decide +kernel
theorem dX5_brokenFrom_31 : decode cX5_brokenFrom 31 = .ok (.aaload, 1) := by decide +kernel
theorem dX5_brokenFrom_32 : decode cX5_brokenFrom 32 = .ok (.invokevirtual 187, 3) := by decide +kernel
theorem dX5_brokenFrom_35 : decode cX5_brokenFrom 35 = .ok (.ifCond .eq 6, 3) := by decide +kernel
theorem dX5_brokenFrom_38 : decode cX5_brokenFrom 38 = .ok (.iinc 2 1, 3) := by decide +kernel
theorem dX5_brokenFrom_41 : decode cX5_brokenFrom 41 = .ok (.iinc 3 1, 3) := by decide +kernel
theorem dX5_brokenFrom_44 : decode cX5_brokenFrom 44 = .ok (.goto (-40), 3) := by decide +kernel
theorem dX5_brokenFrom_47 : decode cX5_brokenFrom 47 = .ok (.iload_n 2, 1) := by decide +kernel
theorem dX5_brokenFrom_48 : decode cX5_brokenFrom 48 = .ok (.ireturn, 1) := by decide +kernel
set_option maxRecDepth 20000 in
theorem ggX5_brokenTo_X5_isBroken : GoodIn wsX5_brokenTo wsX5_isBroken := goodIn_r _ [7, 8, 9, 10, 6, 11, 12, 13, 14, 15, 16, 17, 18, 19, 20, 21, 22, 23, 24, 25, 26, 27, 28, 29, 30, 31, 32, 33, 34, 35, 36, 37] (by decide +kernel) (by decide +kernel)
set_option maxRecDepth 20000 in
theorem gX5_brokenTo_X5_isBroken : GoodIn wsX5_brokenTo (wsV RX5 187 RX5 yX5_isBroken wsX5_isBroken) := goodIn_app (goodIn_of _ (by decide +kernel)) ggX5_brokenTo_X5_isBroken
theorem dX5_brokenTo_0 : decode cX5_brokenTo 0 = .ok (.iconst 0, 1) := by decide +kernel
