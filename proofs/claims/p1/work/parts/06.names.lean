theorem dX8_with_45 : decode cX8_with 45 = .ok (.invokestatic 30, 3) := by decide +kernel
theorem dX8_with_48 : decode cX8_with 48 = .ok (.invokespecial 33, 3) := by decide +kernel
theorem dX8_with_51 : decode cX8_with 51 = .ok (.areturn, 1) := by decide +kernel
set_option maxRecDepth 20000 in
theorem ggX8_meets_X8_with : GoodIn wsX8_meets wsX8_with := goodIn_r _ [5, 6, 7, 4, 8, 9, 10, 11, 12, 13, 14, 15, 16, 17, 18, 19, 20, 21, 22, 23, 24, 29, 30, 31, 32] (by decide +kernel) (by decide +kernel)
set_option maxRecDepth 20000 in
theorem gX8_meets_X8_with : GoodIn wsX8_meets (wsV RX8 36 RX8 yX8_with wsX8_with) := goodIn_app (goodIn_of _ (by decide +kernel)) ggX8_meets_X8_with
set_option maxRecDepth 20000 in
theorem ggX8_meets_X8_fields : GoodIn wsX8_meets wsX8_fields := goodIn_r _ [28, 14, 8, 18, 13, 29, 30, 31, 32] (by decide +kernel) (by decide +kernel)
set_option maxRecDepth 20000 in
theorem gX8_meets_X8_fields : GoodIn wsX8_meets (wsV RX8 40 RX8 yX8_fields wsX8_fields) := goodIn_app (goodIn_of _ (by decide +kernel)) ggX8_meets_X8_fields
theorem dX8_meets_0 : decode cX8_meets 0 = .ok (.aload_n 0, 1) := by decide +kernel
theorem dX8_meets_1 : decode cX8_meets 1 = .ok (.aload_n 1, 1) := by decide +kernel
theorem dX8_meets_2 : decode cX8_meets 2 = .ok (.invokevirtual 36, 3) := by decide +kernel
theorem dX8_meets_5 : decode cX8_meets 5 = .ok (.invokevirtual 40, 3) := by decide +kernel
theorem dX8_meets_8 : decode cX8_meets 8 = .ok (.ifCond .le 7, 3) := by decide +kernel
theorem dX8_meets_11 : decode cX8_meets 11 = .ok (.iconst 1, 1) := by decide +kernel
theorem dX8_meets_12 : decode cX8_meets 12 = .ok (.goto 4, 3) := by decide +kernel
theorem dX8_meets_15 : decode cX8_meets 15 = .ok (.iconst 0, 1) := by decide +kernel
theorem dX8_meets_16 : decode cX8_meets 16 = .ok (.ireturn, 1) := by decide +kernel
theorem dX9_init_0 : decode cX9_init 0 = .ok (.aload_n 0, 1) := by decide +kernel
theorem dX9_init_1 : decode cX9_init 1 = .ok (.invokespecial 3, 3) := by decide +kernel
theorem dX9_init_4 : decode cX9_init 4 = .ok (.aload_n 0, 1) := by decide +kernel
theorem dX9_init_5 : decode cX9_init 5 = .ok (.iconst 0, 1) := by decide +kernel
theorem dX9_init_6 : decode cX9_init 6 = .ok (.putfield 9, 3) := by decide +kernel
theorem dX9_init_9 : decode cX9_init 9 = .ok (.aload_n 0, 1) := by decide +kernel
theorem dX9_init_10 : decode cX9_init 10 = .ok (.aload_n 1, 1) := by decide +kernel
theorem dX9_init_11 : decode cX9_init 11 = .ok (.putfield 15, 3) := by decide +kernel
theorem dX9_init_14 : decode cX9_init 14 = .ok (.aload_n 0, 1) := by decide +kernel
theorem dX9_init_15 : decode cX9_init 15 = .ok (.iload_n 2, 1) := by decide +kernel
theorem dX9_init_16 : decode cX9_init 16 = .ok (.putfield 19, 3) := by decide +kernel
theorem dX9_init_19 : decode cX9_init 19 = .ok (.return_, 1) := by decide +kernel
set_option maxRecDepth 20000 in
theorem ggX9_copy_X9_init : GoodIn wsX9_copy wsX9_init := goodIn_r _ [9, 10, 11, 12, 6, 4, 5, 13, 14, 15] (by decide +kernel) (by decide +kernel)
set_option maxRecDepth 20000 in
theorem gX9_copy_X9_init : GoodIn wsX9_copy (wsX9_init) := ggX9_copy_X9_init
theorem dX9_copy_0 : decode cX9_copy 0 = .ok (.new 10, 3) := by decide +kernel
theorem dX9_copy_3 : decode cX9_copy 3 = .ok (.dup, 1) := by decide +kernel
theorem dX9_copy_4 : decode cX9_copy 4 = .ok (.aload_n 0, 1) := by decide +kernel
theorem dX9_copy_5 : decode cX9_copy 5 = .ok (.getfield 15, 3) := by decide +kernel
theorem dX9_copy_8 : decode cX9_copy 8 = .ok (.aload_n 0, 1) := by decide +kernel
theorem dX9_copy_9 : decode cX9_copy 9 = .ok (.getfield 19, 3) := by decide +kernel
theorem dX9_copy_12 : decode cX9_copy 12 = .ok (.invokespecial 22, 3) := by decide +kernel
theorem dX9_copy_15 : decode cX9_copy 15 = .ok (.astore_n 1, 1) := by decide +kernel
theorem dX9_copy_16 : decode cX9_copy 16 = .ok (.aload_n 1, 1) := by decide +kernel
theorem dX9_copy_17 : decode cX9_copy 17 = .ok (.aload_n 0, 1) := by decide +kernel
theorem dX9_copy_18 : decode cX9_copy 18 = .ok (.getfield 9, 3) := by decide +kernel
theorem dX9_copy_21 : decode cX9_copy 21 = .ok (.putfield 9, 3) := by decide +kernel
theorem dX9_copy_24 : decode cX9_copy 24 = .ok (.aload_n 1, 1) := by decide +kernel
theorem dX9_copy_25 : decode cX9_copy 25 = .ok (.areturn, 1) := by decide +kernel
set_option maxRecDepth 20000 in
theorem ggX10_init_Jx4a65c_init_da8c8 : GoodIn wsX10_init wsJx4a65c_init_da8c8 := goodIn_r _ [11, 12, 13, 14, 15, 16, 17, 18, 19, 20, 21, 22, 23, 2, 3, 24, 25, 26] (by decide +kernel) (by decide +kernel)
set_option maxRecDepth 20000 in
theorem gX10_init_Jx4a65c_init_da8c8 : GoodIn wsX10_init (wsJx4a65c_init_da8c8) := ggX10_init_Jx4a65c_init_da8c8
theorem dX10_init_0 : decode cX10_init 0 = .ok (.aload_n 0, 1) := by decide +kernel
theorem dX10_init_1 : decode cX10_init 1 = .ok (.invokespecial 3, 3) := by decide +kernel
theorem dX10_init_4 : decode cX10_init 4 = .ok (.aload_n 0, 1) := by decide +kernel
theorem dX10_init_5 : decode cX10_init 5 = .ok (.new 9, 3) := by decide +kernel
theorem dX10_init_8 : decode cX10_init 8 = .ok (.dup, 1) := by decide +kernel
theorem dX10_init_9 : decode cX10_init 9 = .ok (.invokespecial 11, 3) := by decide +kernel
theorem dX10_init_12 : decode cX10_init 12 = .ok (.putfield 12, 3) := by decide +kernel
theorem dX10_init_15 : decode cX10_init 15 = .ok (.aload_n 0, 1) := by decide +kernel
theorem dX10_init_16 : decode cX10_init 16 = .ok (.iload_n 1, 1) := by decide +kernel
theorem dX10_init_17 : decode cX10_init 17 = .ok (.putfield 18, 3) := by decide +kernel
theorem dX10_init_20 : decode cX10_init 20 = .ok (.return_, 1) := by decide +kernel
set_option maxRecDepth 20000 in
theorem ggX10_copy_X10_init : GoodIn wsX10_copy wsX10_init := goodIn_r _ [10, 11, 12, 13, 14, 15, 16, 5, 4, 17, 18, 19, 20, 21, 22, 23, 24, 25, 26, 27, 28, 29, 30, 31, 122, 123, 124, 119, 120, 121] (by decide +kernel) (by decide +kernel)
set_option maxRecDepth 20000 in
theorem gX10_copy_X10_init : GoodIn wsX10_copy (wsX10_init) := ggX10_copy_X10_init
set_option maxRecDepth 20000 in
theorem ggX10_copy_Jx4a65c_size_8abf5 : GoodIn wsX10_copy wsJx4a65c_size_8abf5 := goodIn_r _ [35, 36, 122, 123, 124] (by decide +kernel) (by decide +kernel)
set_option maxRecDepth 20000 in
theorem gX10_copy_Jx4a65c_size_8abf5 : GoodIn wsX10_copy (wsV RX10 25 RJx4a65c yJx4a65c_size_8abf5 wsJx4a65c_size_8abf5) := goodIn_app (goodIn_of _ (by decide +kernel)) ggX10_copy_Jx4a65c_size_8abf5
set_option maxRecDepth 20000 in
theorem ggX10_copy_Jx4a65c_get_915e3 : GoodIn wsX10_copy wsJx4a65c_get_915e3 := goodIn_r _ [40, 36, 41, 42, 43, 44, 45, 46, 47, 48, 49, 50, 51, 16, 52, 21, 122, 123, 124] (by decide +kernel) (by decide +kernel)
set_option maxRecDepth 20000 in
theorem gX10_copy_Jx4a65c_get_915e3 : GoodIn wsX10_copy (wsV RX10 29 RJx4a65c yJx4a65c_get_915e3 wsJx4a65c_get_915e3) := goodIn_app (goodIn_of _ (by decide +kernel)) ggX10_copy_Jx4a65c_get_915e3
set_option maxRecDepth 20000 in
theorem ggX10_copy_X9_copy : GoodIn wsX10_copy wsX9_copy := goodIn_r _ [57, 58, 59, 56, 60, 61, 62, 63, 64, 65, 66, 12, 13, 125, 126, 127] (by decide +kernel) (by decide +kernel)
set_option maxRecDepth 20000 in
theorem gX10_copy_X9_copy : GoodIn wsX10_copy (wsV RX10 35 RX9 yX9_copy wsX9_copy) := goodIn_app (goodIn_of _ (by decide +kernel)) ggX10_copy_X9_copy
set_option maxRecDepth 20000 in
theorem ggX10_copy_Jx4a65c_add_9ea2d : GoodIn wsX10_copy wsJx4a65c_add_9ea2d := goodIn_r _ [70, 71, 72, 21, 36, 73, 74, 75, 16, 76, 77, 78, 79, 80, 81, 82, 83, 84, 20, 85, 86, 87, 88, 89, 90, 91, 92, 93, 94, 95, 96, 97, 98, 99, 100, 101, 102, 103, 104, 105, 106, 107, 108, 109, 110, 111, 112, 113, 114, 115, 116, 117, 118, 122, 123, 124] (by decide +kernel) (by decide +kernel)
set_option maxRecDepth 20000 in
theorem gX10_copy_Jx4a65c_add_9ea2d : GoodIn wsX10_copy (wsV RX10 39 RJx4a65c yJx4a65c_add_9ea2d wsJx4a65c_add_9ea2d) := goodIn_app (goodIn_of _ (by decide +kernel)) ggX10_copy_Jx4a65c_add_9ea2d
theorem dX10_copy_0 : decode cX10_copy 0 = .ok (.new 13, 3) := by decide +kernel
theorem dX10_copy_3 : decode cX10_copy 3 = .ok (.dup, 1) := by decide +kernel
theorem dX10_copy_4 : decode cX10_copy 4 = .ok (.aload_n 0, 1) := by decide +kernel
theorem dX10_copy_5 : decode cX10_copy 5 = .ok (.getfield 18, 3) := by decide +kernel
theorem dX10_copy_8 : decode cX10_copy 8 = .ok (.invokespecial 22, 3) := by decide +kernel
theorem dX10_copy_11 : decode cX10_copy 11 = .ok (.astore_n 1, 1) := by decide +kernel
theorem dX10_copy_12 : decode cX10_copy 12 = .ok (.iconst 0, 1) := by decide +kernel
theorem dX10_copy_13 : decode cX10_copy 13 = .ok (.istore_n 2, 1) := by decide +kernel
theorem dX10_copy_14 : decode cX10_copy 14 = .ok (.iload_n 2, 1) := by decide +kernel
theorem dX10_copy_15 : decode cX10_copy 15 = .ok (.aload_n 0, 1) := by decide +kernel
theorem dX10_copy_16 : decode cX10_copy 16 = .ok (.getfield 12, 3) := by decide +kernel
theorem dX10_copy_19 : decode cX10_copy 19 = .ok (.invokevirtual 25, 3) := by decide +kernel
theorem dX10_copy_22 : decode cX10_copy 22 = .ok (.if_icmp .ge 31, 3) := by decide +kernel
theorem dX10_copy_25 : decode cX10_copy 25 = .ok (.aload_n 1, 1) := by decide +kernel
theorem dX10_copy_26 : decode cX10_copy 26 = .ok (.getfield 12, 3) := by decide +kernel
theorem dX10_copy_29 : decode cX10_copy 29 = .ok (.aload_n 0, 1) := by decide +kernel
theorem dX10_copy_30 : decode cX10_copy 30 = .ok (.getfield 12, 3) := by decide +kernel
theorem dX10_copy_33 : decode cX10_copy 33 = .ok (.iload_n 2, 1) := by decide +kernel
theorem dX10_copy_34 : decode cX10_copy 34 = .ok (.invokevirtual 29, 3) := by decide +kernel
theorem dX10_copy_37 : decode cX10_copy 37 = .ok (.checkcast 33, 3) := by decide +kernel
theorem dX10_copy_40 : decode cX10_copy 40 = .ok (.invokevirtual 35, 3) := by decide +kernel
theorem dX10_copy_43 : decode cX10_copy 43 = .ok (.invokevirtual 39, 3) := by decide +kernel
theorem dX10_copy_46 : decode cX10_copy 46 = .ok (.pop, 1) := by decide +kernel
theorem dX10_copy_47 : decode cX10_copy 47 = .ok (.iinc 2 1, 3) := by decide +kernel
theorem dX10_copy_50 : decode cX10_copy 50 = .ok (.goto (-36), 3) := by decide +kernel
theorem dX10_copy_53 : decode cX10_copy 53 = .ok (.aload_n 1, 1) := by decide +kernel
theorem dX10_copy_54 : decode cX10_copy 54 = .ok (.aload_n 0, 1) := by decide +kernel
theorem dX10_copy_55 : decode cX10_copy 55 = .ok (.getfield 43, 3) := by decide +kernel
theorem dX10_copy_58 : decode cX10_copy 58 = .ok (.putfield 43, 3) := by decide +kernel
theorem dX10_copy_61 : decode cX10_copy 61 = .ok (.aload_n 1, 1) := by decide +kernel
theorem dX10_copy_62 : decode cX10_copy 62 = .ok (.areturn, 1) := by decide +kernel
set_option maxRecDepth 20000 in
theorem ggX10_last_Jx4a65c_size_8abf5 : GoodIn wsX10_last wsJx4a65c_size_8abf5 := goodIn_r _ [7, 8, 29, 30, 31] (by decide +kernel) (by decide +kernel)
set_option maxRecDepth 20000 in
theorem gX10_last_Jx4a65c_size_8abf5 : GoodIn wsX10_last (wsV RX10 25 RJx4a65c yJx4a65c_size_8abf5 wsJx4a65c_size_8abf5) := goodIn_app (goodIn_of _ (by decide +kernel)) ggX10_last_Jx4a65c_size_8abf5
set_option maxRecDepth 20000 in
theorem ggX10_last_Jx4a65c_get_915e3 : GoodIn wsX10_last wsJx4a65c_get_915e3 := goodIn_r _ [12, 8, 13, 14, 15, 16, 17, 18, 19, 20, 21, 22, 23, 6, 24, 25, 29, 30, 31] (by decide +kernel) (by decide +kernel)
set_option maxRecDepth 20000 in
theorem gX10_last_Jx4a65c_get_915e3 : GoodIn wsX10_last (wsV RX10 29 RJx4a65c yJx4a65c_get_915e3 wsJx4a65c_get_915e3) := goodIn_app (goodIn_of _ (by decide +kernel)) ggX10_last_Jx4a65c_get_915e3
theorem dX10_last_0 : decode cX10_last 0 = .ok (.aload_n 0, 1) := by decide +kernel
theorem dX10_last_1 : decode cX10_last 1 = .ok (.getfield 12, 3) := by decide +kernel
theorem dX10_last_4 : decode cX10_last 4 = .ok (.aload_n 0, 1) := by decide +kernel
theorem dX10_last_5 : decode cX10_last 5 = .ok (.getfield 12, 3) := by decide +kernel
theorem dX10_last_8 : decode cX10_last 8 = .ok (.invokevirtual 25, 3) := by decide +kernel
theorem dX10_last_11 : decode cX10_last 11 = .ok (.iconst 1, 1) := by decide +kernel
theorem dX10_last_12 : decode cX10_last 12 = .ok (.isub, 1) := by decide +kernel
theorem dX10_last_13 : decode cX10_last 13 = .ok (.invokevirtual 29, 3) := by decide +kernel
theorem dX10_last_16 : decode cX10_last 16 = .ok (.checkcast 33, 3) := by decide +kernel
theorem dX10_last_19 : decode cX10_last 19 = .ok (.areturn, 1) := by decide +kernel
set_option maxRecDepth 20000 in
theorem ggX10_issued_Jx4a65c_size_8abf5 : GoodIn wsX10_issued wsJx4a65c_size_8abf5 := goodIn_r _ [8, 9, 33, 34, 35] (by decide +kernel) (by decide +kernel)
set_option maxRecDepth 20000 in
theorem gX10_issued_Jx4a65c_size_8abf5 : GoodIn wsX10_issued (wsV RX10 25 RJx4a65c yJx4a65c_size_8abf5 wsJx4a65c_size_8abf5) := goodIn_app (goodIn_of _ (by decide +kernel)) ggX10_issued_Jx4a65c_size_8abf5
set_option maxRecDepth 20000 in
theorem ggX10_issued_Jx4a65c_get_915e3 : GoodIn wsX10_issued wsJx4a65c_get_915e3 := goodIn_r _ [13, 9, 14, 15, 16, 17, 18, 19, 20, 21, 22, 23, 24, 7, 25, 26, 33, 34, 35] (by decide +kernel) (by decide +kernel)
set_option maxRecDepth 20000 in
theorem gX10_issued_Jx4a65c_get_915e3 : GoodIn wsX10_issued (wsV RX10 29 RJx4a65c yJx4a65c_get_915e3 wsJx4a65c_get_915e3) := goodIn_app (goodIn_of _ (by decide +kernel)) ggX10_issued_Jx4a65c_get_915e3
theorem dX10_issued_0 : decode cX10_issued 0 = .ok (.iconst 0, 1) := by decide +kernel
theorem dX10_issued_1 : decode cX10_issued 1 = .ok (.istore_n 1, 1) := by decide +kernel
theorem dX10_issued_2 : decode cX10_issued 2 = .ok (.iload_n 1, 1) := by decide +kernel
theorem dX10_issued_3 : decode cX10_issued 3 = .ok (.aload_n 0, 1) := by decide +kernel
theorem dX10_issued_4 : decode cX10_issued 4 = .ok (.getfield 12, 3) := by decide +kernel
theorem dX10_issued_7 : decode cX10_issued 7 = .ok (.invokevirtual 25, 3) := by decide +kernel
theorem dX10_issued_10 : decode cX10_issued 10 = .ok (.if_icmp .ge 29, 3) := by decide +kernel
theorem dX10_issued_13 : decode cX10_issued 13 = .ok (.aload_n 0, 1) := by decide +kernel
theorem dX10_issued_14 : decode cX10_issued 14 = .ok (.getfield 12, 3) := by decide +kernel
theorem dX10_issued_17 : decode cX10_issued 17 = .ok (.iload_n 1, 1) := by decide +kernel
theorem dX10_issued_18 : decode cX10_issued 18 = .ok (.invokevirtual 29, 3) := by decide +kernel
theorem dX10_issued_21 : decode cX10_issued 21 = .ok (.checkcast 33, 3) := by decide +kernel
theorem dX10_issued_24 : decode cX10_issued 24 = .ok (.getfield 46, 3) := by decide +kernel
theorem dX10_issued_27 : decode cX10_issued 27 = .ok (.iconst 2, 1) := by decide +kernel
theorem dX10_issued_28 : decode cX10_issued 28 = .ok (.if_icmp .ne 5, 3) := by decide +kernel
theorem dX10_issued_31 : decode cX10_issued 31 = .ok (.iload_n 1, 1) := by decide +kernel
theorem dX10_issued_32 : decode cX10_issued 32 = .ok (.ireturn, 1) := by decide +kernel
theorem dX10_issued_33 : decode cX10_issued 33 = .ok (.iinc 1 1, 3) := by decide +kernel
theorem dX10_issued_36 : decode cX10_issued 36 = .ok (.goto (-34), 3) := by decide +kernel
theorem dX10_issued_39 : decode cX10_issued 39 = .ok (.iconst (-1), 1) := by decide +kernel
theorem dX10_issued_40 : decode cX10_issued 40 = .ok (.ireturn, 1) := by decide +kernel
set_option maxRecDepth 20000 in
theorem ggX10_issuedOne_X10_issued : GoodIn wsX10_issuedOne wsX10_issued := goodIn_r _ [7, 1, 2, 8, 9, 10, 11, 12, 13, 14, 15, 16, 17, 18, 19, 20, 21, 22, 23, 24, 25, 26, 27, 28, 29, 30, 31, 32, 33, 34, 35, 36, 37, 38, 39, 40] (by decide +kernel) (by decide +kernel)
set_option maxRecDepth 20000 in
theorem gX10_issuedOne_X10_issued : GoodIn wsX10_issuedOne (wsV RX10 49 RX10 yX10_issued wsX10_issued) := goodIn_app (goodIn_of _ (by decide +kernel)) ggX10_issuedOne_X10_issued
set_option maxRecDepth 20000 in
theorem ggX10_issuedOne_Jx4a65c_get_915e3 : GoodIn wsX10_issuedOne wsJx4a65c_get_915e3 := goodIn_r _ [18, 14, 19, 20, 21, 22, 23, 24, 25, 26, 27, 28, 29, 12, 30, 31, 38, 39, 40] (by decide +kernel) (by decide +kernel)
set_option maxRecDepth 20000 in
theorem gX10_issuedOne_Jx4a65c_get_915e3 : GoodIn wsX10_issuedOne (wsV RX10 29 RJx4a65c yJx4a65c_get_915e3 wsJx4a65c_get_915e3) := goodIn_app (goodIn_of _ (by decide +kernel)) ggX10_issuedOne_Jx4a65c_get_915e3
theorem dX10_issuedOne_0 : decode cX10_issuedOne 0 = .ok (.aload_n 0, 1) := by decide +kernel
theorem dX10_issuedOne_1 : decode cX10_issuedOne 1 = .ok (.invokevirtual 49, 3) := by decide +kernel
theorem dX10_issuedOne_4 : decode cX10_issuedOne 4 = .ok (.iconst (-1), 1) := by decide +kernel
theorem dX10_issuedOne_5 : decode cX10_issuedOne 5 = .ok (.if_icmp .ne 7, 3) := by decide +kernel
theorem dX10_issuedOne_8 : decode cX10_issuedOne 8 = .ok (.aconst_null, 1) := by decide +kernel
theorem dX10_issuedOne_9 : decode cX10_issuedOne 9 = .ok (.goto 17, 3) := by decide +kernel
theorem dX10_issuedOne_12 : decode cX10_issuedOne 12 = .ok (.aload_n 0, 1) := by decide +kernel
theorem dX10_issuedOne_13 : decode cX10_issuedOne 13 = .ok (.getfield 12, 3) := by decide +kernel
theorem dX10_issuedOne_16 : decode cX10_issuedOne 16 = .ok (.aload_n 0, 1) := by decide +kernel
theorem dX10_issuedOne_17 : decode cX10_issuedOne 17 = .ok (.invokevirtual 49, 3) := by decide +kernel
theorem dX10_issuedOne_20 : decode cX10_issuedOne 20 = .ok (.invokevirtual 29, 3) := by decide +kernel
theorem dX10_issuedOne_23 : decode cX10_issuedOne 23 = .ok (.checkcast 33, 3) := by decide +kernel
theorem dX10_issuedOne_26 : decode cX10_issuedOne 26 = .ok (.areturn, 1) := by decide +kernel
set_option maxRecDepth 20000 in
theorem ggX11_init_X6_init : GoodIn wsX11_init wsX6_init := goodIn_r _ [10, 11, 2, 3, 12, 13, 14, 15, 16, 17, 18, 19, 20, 21, 22, 23, 24, 25, 26, 27, 28, 29, 30, 31, 32, 33, 34, 35, 36, 37, 38, 39, 40, 41, 42, 55, 56, 57, 43, 44, 45, 46, 47, 48, 49, 50, 51, 52] (by decide +kernel) (by decide +kernel)
set_option maxRecDepth 20000 in
theorem gX11_init_X6_init : GoodIn wsX11_init (wsX6_init) := ggX11_init_X6_init
theorem dX11_init_0 : decode cX11_init 0 = .ok (.aload_n 0, 1) := by decide +kernel
theorem dX11_init_1 : decode cX11_init 1 = .ok (.invokespecial 1, 3) := by decide +kernel
theorem dX11_init_4 : decode cX11_init 4 = .ok (.aload_n 0, 1) := by decide +kernel
theorem dX11_init_5 : decode cX11_init 5 = .ok (.new 7, 3) := by decide +kernel
theorem dX11_init_8 : decode cX11_init 8 = .ok (.dup, 1) := by decide +kernel
theorem dX11_init_9 : decode cX11_init 9 = .ok (.invokespecial 9, 3) := by decide +kernel
theorem dX11_init_12 : decode cX11_init 12 = .ok (.putfield 10, 3) := by decide +kernel
theorem dX11_init_15 : decode cX11_init 15 = .ok (.return_, 1) := by decide +kernel
theorem dX11_thrown_0 : decode cX11_thrown 0 = .ok (.aload_n 0, 1) := by decide +kernel
theorem dX11_thrown_1 : decode cX11_thrown 1 = .ok (.getfield 16, 3) := by decide +kernel
theorem dX11_thrown_4 : decode cX11_thrown 4 = .ok (.ireturn, 1) := by decide +kernel
theorem dX11_isIn_0 : decode cX11_isIn 0 = .ok (.iload_n 0, 1) := by decide +kernel
theorem dX11_isIn_1 : decode cX11_isIn 1 = .ok (.iload_n 1, 1) := by decide +kernel
theorem dX11_isIn_2 : decode cX11_isIn 2 = .ok (.if_icmp .lt 12, 3) := by decide +kernel
theorem dX11_isIn_5 : decode cX11_isIn 5 = .ok (.iload_n 0, 1) := by decide +kernel
theorem dX11_isIn_6 : decode cX11_isIn 6 = .ok (.iload_n 2, 1) := by decide +kernel
theorem dX11_isIn_7 : decode cX11_isIn 7 = .ok (.if_icmp .gt 7, 3) := by decide +kernel
theorem dX11_isIn_10 : decode cX11_isIn 10 = .ok (.iconst 1, 1) := by decide +kernel
theorem dX11_isIn_11 : decode cX11_isIn 11 = .ok (.goto 4, 3) := by decide +kernel
theorem dX11_isIn_14 : decode cX11_isIn 14 = .ok (.iconst 0, 1) := by decide +kernel
theorem dX11_isIn_15 : decode cX11_isIn 15 = .ok (.ireturn, 1) := by decide +kernel
theorem dX11_refuse_0 : decode cX11_refuse 0 = .ok (.iload_n 1, 1) := by decide +kernel
theorem dX11_refuse_1 : decode cX11_refuse 1 = .ok (.ifCond .eq 15, 3) := by decide +kernel
theorem dX11_refuse_4 : decode cX11_refuse 4 = .ok (.aload_n 0, 1) := by decide +kernel
theorem dX11_refuse_5 : decode cX11_refuse 5 = .ok (.getfield 16, 3) := by decide +kernel
theorem dX11_refuse_8 : decode cX11_refuse 8 = .ok (.ifCond .ne 8, 3) := by decide +kernel
theorem dX11_refuse_11 : decode cX11_refuse 11 = .ok (.aload_n 0, 1) := by decide +kernel
theorem dX11_refuse_12 : decode cX11_refuse 12 = .ok (.iload_n 2, 1) := by decide +kernel
theorem dX11_refuse_13 : decode cX11_refuse 13 = .ok (.putfield 16, 3) := by decide +kernel
theorem dX11_refuse_16 : decode cX11_refuse 16 = .ok (.aload_n 0, 1) := by decide +kernel
theorem dX11_refuse_17 : decode cX11_refuse 17 = .ok (.getfield 16, 3) := by decide +kernel
theorem dX11_refuse_20 : decode cX11_refuse 20 = .ok (.ifCond .le 7, 3) := by decide +kernel
theorem dX11_refuse_23 : decode cX11_refuse 23 = .ok (.iconst 1, 1) := by decide +kernel
theorem dX11_refuse_24 : decode cX11_refuse 24 = .ok (.goto 4, 3) := by decide +kernel
theorem dX11_refuse_27 : decode cX11_refuse 27 = .ok (.iconst 0, 1) := by decide +kernel
theorem dX11_refuse_28 : decode cX11_refuse 28 = .ok (.ireturn, 1) := by decide +kernel
set_option maxRecDepth 20000 in
theorem ggX11_start_X11_refuse : GoodIn wsX11_start wsX11_refuse := goodIn_r _ [6, 1, 7, 8] (by decide +kernel) (by decide +kernel)
set_option maxRecDepth 20000 in
theorem gX11_start_X11_refuse : GoodIn wsX11_start (wsV RX11 20 RX11 yX11_refuse wsX11_refuse) := goodIn_app (goodIn_of _ (by decide +kernel)) ggX11_start_X11_refuse
theorem dX11_start_0 : decode cX11_start 0 = .ok (.aload_n 0, 1) := by decide +kernel
theorem dX11_start_1 : decode cX11_start 1 = .ok (.iconst 0, 1) := by decide +kernel
theorem dX11_start_2 : decode cX11_start 2 = .ok (.putfield 16, 3) := by decide +kernel
theorem dX11_start_5 : decode cX11_start 5 = .ok (.aload_n 0, 1) := by decide +kernel
theorem dX11_start_6 : decode cX11_start 6 = .ok (.iload_n 1, 1) := by decide +kernel
theorem dX11_start_7 : decode cX11_start 7 = .ok (.iload_n 2, 1) := by decide +kernel
theorem dX11_start_8 : decode cX11_start 8 = .ok (.invokevirtual 20, 3) := by decide +kernel
theorem dX11_start_11 : decode cX11_start 11 = .ok (.ireturn, 1) := by decide +kernel
set_option maxRecDepth 20000 in
theorem ggX11_isNo_Jx4a65c_size_8abf5 : GoodIn wsX11_isNo wsJx4a65c_size_8abf5 := goodIn_r _ [7, 8, 25, 26, 27] (by decide +kernel) (by decide +kernel)
set_option maxRecDepth 20000 in
theorem gX11_isNo_Jx4a65c_size_8abf5 : GoodIn wsX11_isNo (wsV RX11 28 RJx4a65c yJx4a65c_size_8abf5 wsJx4a65c_size_8abf5) := goodIn_app (goodIn_of _ (by decide +kernel)) ggX11_isNo_Jx4a65c_size_8abf5
set_option maxRecDepth 20000 in
theorem ggX11_isNo_X11_isIn : GoodIn wsX11_isNo wsX11_isIn := goodIn_r _ [12] (by decide +kernel) (by decide +kernel)
set_option maxRecDepth 20000 in
theorem gX11_isNo_X11_isIn : GoodIn wsX11_isNo (va_wsS RX11 34 yX11_isIn wsX11_isIn) := goodIn_app (goodIn_of _ (by decide +kernel)) ggX11_isNo_X11_isIn
theorem dX11_isNo_0 : decode cX11_isNo 0 = .ok (.iload_n 1, 1) := by decide +kernel
theorem dX11_isNo_1 : decode cX11_isNo 1 = .ok (.iconst 0, 1) := by decide +kernel
theorem dX11_isNo_2 : decode cX11_isNo 2 = .ok (.aload_n 0, 1) := by decide +kernel
theorem dX11_isNo_3 : decode cX11_isNo 3 = .ok (.getfield 10, 3) := by decide +kernel
theorem dX11_isNo_6 : decode cX11_isNo 6 = .ok (.getfield 24, 3) := by decide +kernel
theorem dX11_isNo_9 : decode cX11_isNo 9 = .ok (.invokevirtual 28, 3) := by decide +kernel
theorem dX11_isNo_12 : decode cX11_isNo 12 = .ok (.iconst 1, 1) := by decide +kernel
theorem dX11_isNo_13 : decode cX11_isNo 13 = .ok (.isub, 1) := by decide +kernel
theorem dX11_isNo_14 : decode cX11_isNo 14 = .ok (.invokestatic 34, 3) := by decide +kernel
theorem dX11_isNo_17 : decode cX11_isNo 17 = .ok (.ifCond .ne 7, 3) := by decide +kernel
theorem dX11_isNo_20 : decode cX11_isNo 20 = .ok (.iconst 1, 1) := by decide +kernel
theorem dX11_isNo_21 : decode cX11_isNo 21 = .ok (.goto 4, 3) := by decide +kernel
theorem dX11_isNo_24 : decode cX11_isNo 24 = .ok (.iconst 0, 1) := by decide +kernel
theorem dX11_isNo_25 : decode cX11_isNo 25 = .ok (.ireturn, 1) := by decide +kernel
set_option maxRecDepth 20000 in
theorem ggX11_isNoSheet_X11_isNo : GoodIn wsX11_isNoSheet wsX11_isNo := goodIn_r _ [5, 6, 7, 8, 9, 10, 11, 12, 13, 14, 15, 4, 16, 26, 27, 28, 29, 30, 31, 32, 33, 34, 35, 36, 37, 38, 39, 40] (by decide +kernel) (by decide +kernel)
set_option maxRecDepth 20000 in
theorem gX11_isNoSheet_X11_isNo : GoodIn wsX11_isNoSheet (wsV RX11 38 RX11 yX11_isNo wsX11_isNo) := goodIn_app (goodIn_of _ (by decide +kernel)) ggX11_isNoSheet_X11_isNo
set_option maxRecDepth 20000 in
theorem ggX11_isNoSheet_X11_start : GoodIn wsX11_isNoSheet wsX11_start := goodIn_r _ [20, 21, 22, 23, 24, 4, 25, 26, 27] (by decide +kernel) (by decide +kernel)
set_option maxRecDepth 20000 in
theorem gX11_isNoSheet_X11_start : GoodIn wsX11_isNoSheet (wsV RX11 42 RX11 yX11_start wsX11_start) := goodIn_app (goodIn_of _ (by decide +kernel)) ggX11_isNoSheet_X11_start
theorem dX11_isNoSheet_0 : decode cX11_isNoSheet 0 = .ok (.aload_n 0, 1) := by decide +kernel
theorem dX11_isNoSheet_1 : decode cX11_isNoSheet 1 = .ok (.aload_n 0, 1) := by decide +kernel
theorem dX11_isNoSheet_2 : decode cX11_isNoSheet 2 = .ok (.iload_n 1, 1) := by decide +kernel
theorem dX11_isNoSheet_3 : decode cX11_isNoSheet 3 = .ok (.invokevirtual 38, 3) := by decide +kernel
theorem dX11_isNoSheet_6 : decode cX11_isNoSheet 6 = .ok (.iconst 1, 1) := by decide +kernel
theorem dX11_isNoSheet_7 : decode cX11_isNoSheet 7 = .ok (.invokevirtual 42, 3) := by decide +kernel
theorem dX11_isNoSheet_10 : decode cX11_isNoSheet 10 = .ok (.ireturn, 1) := by decide +kernel
set_option maxRecDepth 20000 in
theorem ggX11_of_Jx4a65c_get_915e3 : GoodIn wsX11_of wsJx4a65c_get_915e3 := goodIn_r _ [8, 9, 10, 11, 12, 13, 14, 15, 16, 17, 18, 19, 20, 7, 21, 22, 35, 36, 37] (by decide +kernel) (by decide +kernel)
set_option maxRecDepth 20000 in
theorem gX11_of_Jx4a65c_get_915e3 : GoodIn wsX11_of (wsV RX11 45 RJx4a65c yJx4a65c_get_915e3 wsJx4a65c_get_915e3) := goodIn_app (goodIn_of _ (by decide +kernel)) ggX11_of_Jx4a65c_get_915e3
theorem dX11_of_0 : decode cX11_of 0 = .ok (.aload_n 0, 1) := by decide +kernel
theorem dX11_of_1 : decode cX11_of 1 = .ok (.getfield 10, 3) := by decide +kernel
theorem dX11_of_4 : decode cX11_of 4 = .ok (.getfield 24, 3) := by decide +kernel
theorem dX11_of_7 : decode cX11_of 7 = .ok (.iload_n 1, 1) := by decide +kernel
theorem dX11_of_8 : decode cX11_of 8 = .ok (.invokevirtual 45, 3) := by decide +kernel
theorem dX11_of_11 : decode cX11_of 11 = .ok (.checkcast 49, 3) := by decide +kernel
theorem dX11_of_14 : decode cX11_of 14 = .ok (.areturn, 1) := by decide +kernel
set_option maxRecDepth 20000 in
theorem ggX11_isNoSet_Jx4a65c_size_8abf5 : GoodIn wsX11_isNoSet wsJx4a65c_size_8abf5 := goodIn_r _ [7, 8, 21, 22, 23] (by decide +kernel) (by decide +kernel)
set_option maxRecDepth 20000 in
theorem gX11_isNoSet_Jx4a65c_size_8abf5 : GoodIn wsX11_isNoSet (wsV RX11 28 RJx4a65c yJx4a65c_size_8abf5 wsJx4a65c_size_8abf5) := goodIn_app (goodIn_of _ (by decide +kernel)) ggX11_isNoSet_Jx4a65c_size_8abf5
theorem dX11_isNoSet_0 : decode cX11_isNoSet 0 = .ok (.iload_n 1, 1) := by decide +kernel
theorem dX11_isNoSet_1 : decode cX11_isNoSet 1 = .ok (.iconst 1, 1) := by decide +kernel
theorem dX11_isNoSet_2 : decode cX11_isNoSet 2 = .ok (.if_icmp .lt 19, 3) := by decide +kernel
theorem dX11_isNoSet_5 : decode cX11_isNoSet 5 = .ok (.iload_n 1, 1) := by decide +kernel
theorem dX11_isNoSet_6 : decode cX11_isNoSet 6 = .ok (.iconst 1, 1) := by decide +kernel
theorem dX11_isNoSet_7 : decode cX11_isNoSet 7 = .ok (.aload_n 0, 1) := by decide +kernel
theorem dX11_isNoSet_8 : decode cX11_isNoSet 8 = .ok (.getfield 10, 3) := by decide +kernel
theorem dX11_isNoSet_11 : decode cX11_isNoSet 11 = .ok (.getfield 24, 3) := by decide +kernel
theorem dX11_isNoSet_14 : decode cX11_isNoSet 14 = .ok (.invokevirtual 28, 3) := by decide +kernel
theorem dX11_isNoSet_17 : decode cX11_isNoSet 17 = .ok (.ishl, 1) := by decide +kernel
theorem dX11_isNoSet_18 : decode cX11_isNoSet 18 = .ok (.if_icmp .lt 7, 3) := by decide +kernel
theorem dX11_isNoSet_21 : decode cX11_isNoSet 21 = .ok (.iconst 1, 1) := by decide +kernel
theorem dX11_isNoSet_22 : decode cX11_isNoSet 22 = .ok (.goto 4, 3) := by decide +kernel
theorem dX11_isNoSet_25 : decode cX11_isNoSet 25 = .ok (.iconst 0, 1) := by decide +kernel
theorem dX11_isNoSet_26 : decode cX11_isNoSet 26 = .ok (.ireturn, 1) := by decide +kernel
set_option maxRecDepth 20000 in
theorem ggX11_sheet_X11_isIn : GoodIn wsX11_sheet wsX11_isIn := goodIn_r _ [16] (by decide +kernel) (by decide +kernel)
set_option maxRecDepth 20000 in
theorem gX11_sheet_X11_isIn : GoodIn wsX11_sheet (va_wsS RX11 34 yX11_isIn wsX11_isIn) := goodIn_app (goodIn_of _ (by decide +kernel)) ggX11_sheet_X11_isIn
set_option maxRecDepth 20000 in
theorem ggX11_sheet_X11_start : GoodIn wsX11_sheet wsX11_start := goodIn_r _ [20, 21, 22, 23, 24, 15, 25, 124, 125] (by decide +kernel) (by decide +kernel)
set_option maxRecDepth 20000 in
theorem gX11_sheet_X11_start : GoodIn wsX11_sheet (wsV RX11 42 RX11 yX11_start wsX11_start) := goodIn_app (goodIn_of _ (by decide +kernel)) ggX11_sheet_X11_start
set_option maxRecDepth 20000 in
theorem ggX11_sheet_Jx4a65c_size_8abf5 : GoodIn wsX11_sheet wsJx4a65c_size_8abf5 := goodIn_r _ [30, 31, 146, 147, 148] (by decide +kernel) (by decide +kernel)
set_option maxRecDepth 20000 in
theorem gX11_sheet_Jx4a65c_size_8abf5 : GoodIn wsX11_sheet (wsV RX11 28 RJx4a65c yJx4a65c_size_8abf5 wsJx4a65c_size_8abf5) := goodIn_app (goodIn_of _ (by decide +kernel)) ggX11_sheet_Jx4a65c_size_8abf5
set_option maxRecDepth 20000 in
theorem ggX11_sheet_X11_refuse : GoodIn wsX11_sheet wsX11_refuse := goodIn_r _ [25, 21, 124, 125] (by decide +kernel) (by decide +kernel)
set_option maxRecDepth 20000 in
theorem gX11_sheet_X11_refuse : GoodIn wsX11_sheet (wsV RX11 20 RX11 yX11_refuse wsX11_refuse) := goodIn_app (goodIn_of _ (by decide +kernel)) ggX11_sheet_X11_refuse
set_option maxRecDepth 20000 in
theorem ggX11_sheet_X10_init : GoodIn wsX11_sheet wsX10_init := goodIn_r _ [34, 35, 36, 37, 38, 39, 29, 40, 41, 42, 43, 44, 45, 46, 47, 48, 49, 50, 51, 52, 53, 54, 55, 56, 146, 147, 148, 136, 137, 138] (by decide +kernel) (by decide +kernel)
set_option maxRecDepth 20000 in
theorem gX11_sheet_X10_init : GoodIn wsX11_sheet (wsX10_init) := ggX11_sheet_X10_init
set_option maxRecDepth 20000 in
theorem ggX11_sheet_X8_init : GoodIn wsX11_sheet wsX8_init := goodIn_r _ [59, 60, 36, 37, 61, 62, 63, 64, 142, 143, 144, 145] (by decide +kernel) (by decide +kernel)
set_option maxRecDepth 20000 in
theorem gX11_sheet_X8_init : GoodIn wsX11_sheet (wsX8_init) := ggX11_sheet_X8_init
set_option maxRecDepth 20000 in
theorem ggX11_sheet_X9_init : GoodIn wsX11_sheet wsX9_init := goodIn_r _ [67, 68, 36, 37, 69, 70, 71, 139, 140, 141] (by decide +kernel) (by decide +kernel)
set_option maxRecDepth 20000 in
theorem gX11_sheet_X9_init : GoodIn wsX11_sheet (wsX9_init) := ggX11_sheet_X9_init
set_option maxRecDepth 20000 in
theorem ggX11_sheet_Jx4a65c_add_9ea2d : GoodIn wsX11_sheet wsJx4a65c_add_9ea2d := goodIn_r _ [75, 76, 77, 46, 31, 78, 79, 80, 29, 81, 82, 83, 84, 85, 86, 87, 88, 89, 45, 90, 91, 92, 93, 94, 95, 96, 97, 98, 99, 100, 101, 102, 103, 104, 105, 106, 107, 108, 109, 110, 111, 112, 113, 114, 115, 116, 117, 118, 119, 120, 121, 122, 123, 146, 147, 148] (by decide +kernel) (by decide +kernel)
set_option maxRecDepth 20000 in
theorem gX11_sheet_Jx4a65c_add_9ea2d : GoodIn wsX11_sheet (wsV RX11 67 RJx4a65c yJx4a65c_add_9ea2d wsJx4a65c_add_9ea2d) := goodIn_app (goodIn_of _ (by decide +kernel)) ggX11_sheet_Jx4a65c_add_9ea2d
theorem dX11_sheet_0 : decode cX11_sheet 0 = .ok (.aload_n 0, 1) := by decide +kernel
theorem dX11_sheet_1 : decode cX11_sheet 1 = .ok (.iload_n 1, 1) := by decide +kernel
theorem dX11_sheet_2 : decode cX11_sheet 2 = .ok (.iconst 0, 1) := by decide +kernel
theorem dX11_sheet_3 : decode cX11_sheet 3 = .ok (.iconst 3, 1) := by decide +kernel
theorem dX11_sheet_4 : decode cX11_sheet 4 = .ok (.invokestatic 34, 3) := by decide +kernel
theorem dX11_sheet_7 : decode cX11_sheet 7 = .ok (.ifCond .ne 7, 3) := by decide +kernel
theorem dX11_sheet_10 : decode cX11_sheet 10 = .ok (.iconst 1, 1) := by decide +kernel
theorem dX11_sheet_11 : decode cX11_sheet 11 = .ok (.goto 4, 3) := by decide +kernel
theorem dX11_sheet_14 : decode cX11_sheet 14 = .ok (.iconst 0, 1) := by decide +kernel
theorem dX11_sheet_15 : decode cX11_sheet 15 = .ok (.iconst 1, 1) := by decide +kernel
theorem dX11_sheet_16 : decode cX11_sheet 16 = .ok (.invokevirtual 42, 3) := by decide +kernel
theorem dX11_sheet_19 : decode cX11_sheet 19 = .ok (.ifCond .ne 31, 3) := by decide +kernel
theorem dX11_sheet_22 : decode cX11_sheet 22 = .ok (.aload_n 0, 1) := by decide +kernel
theorem dX11_sheet_23 : decode cX11_sheet 23 = .ok (.aload_n 0, 1) := by decide +kernel
theorem dX11_sheet_24 : decode cX11_sheet 24 = .ok (.getfield 10, 3) := by decide +kernel
theorem dX11_sheet_27 : decode cX11_sheet 27 = .ok (.getfield 24, 3) := by decide +kernel
theorem dX11_sheet_30 : decode cX11_sheet 30 = .ok (.invokevirtual 28, 3) := by decide +kernel
theorem dX11_sheet_33 : decode cX11_sheet 33 = .ok (.bipush 10, 2) := by decide +kernel
theorem dX11_sheet_35 : decode cX11_sheet 35 = .ok (.if_icmp .ne 7, 3) := by decide +kernel
theorem dX11_sheet_38 : decode cX11_sheet 38 = .ok (.iconst 1, 1) := by decide +kernel
theorem dX11_sheet_39 : decode cX11_sheet 39 = .ok (.goto 4, 3) := by decide +kernel
theorem dX11_sheet_42 : decode cX11_sheet 42 = .ok (.iconst 0, 1) := by decide +kernel
theorem dX11_sheet_43 : decode cX11_sheet 43 = .ok (.iconst 2, 1) := by decide +kernel
theorem dX11_sheet_44 : decode cX11_sheet 44 = .ok (.invokevirtual 20, 3) := by decide +kernel
theorem dX11_sheet_47 : decode cX11_sheet 47 = .ok (.ifCond .eq 5, 3) := by decide +kernel
theorem dX11_sheet_50 : decode cX11_sheet 50 = .ok (.iconst 0, 1) := by decide +kernel
theorem dX11_sheet_51 : decode cX11_sheet 51 = .ok (.ireturn, 1) := by decide +kernel
theorem dX11_sheet_52 : decode cX11_sheet 52 = .ok (.new 49, 3) := by decide +kernel
theorem dX11_sheet_55 : decode cX11_sheet 55 = .ok (.dup, 1) := by decide +kernel
theorem dX11_sheet_56 : decode cX11_sheet 56 = .ok (.iload_n 1, 1) := by decide +kernel
theorem dX11_sheet_57 : decode cX11_sheet 57 = .ok (.invokespecial 51, 3) := by decide +kernel
theorem dX11_sheet_60 : decode cX11_sheet 60 = .ok (.astore_n 2, 1) := by decide +kernel
theorem dX11_sheet_61 : decode cX11_sheet 61 = .ok (.aload_n 2, 1) := by decide +kernel
theorem dX11_sheet_62 : decode cX11_sheet 62 = .ok (.getfield 54, 3) := by decide +kernel
theorem dX11_sheet_65 : decode cX11_sheet 65 = .ok (.new 57, 3) := by decide +kernel
theorem dX11_sheet_68 : decode cX11_sheet 68 = .ok (.dup, 1) := by decide +kernel
theorem dX11_sheet_69 : decode cX11_sheet 69 = .ok (.new 59, 3) := by decide +kernel
theorem dX11_sheet_72 : decode cX11_sheet 72 = .ok (.dup, 1) := by decide +kernel
theorem dX11_sheet_73 : decode cX11_sheet 73 = .ok (.iconst 0, 1) := by decide +kernel
theorem dX11_sheet_74 : decode cX11_sheet 74 = .ok (.iconst 0, 1) := by decide +kernel
theorem dX11_sheet_75 : decode cX11_sheet 75 = .ok (.iconst 0, 1) := by decide +kernel
theorem dX11_sheet_76 : decode cX11_sheet 76 = .ok (.iconst 0, 1) := by decide +kernel
theorem dX11_sheet_77 : decode cX11_sheet 77 = .ok (.invokespecial 61, 3) := by decide +kernel
theorem dX11_sheet_80 : decode cX11_sheet 80 = .ok (.iconst 0, 1) := by decide +kernel
theorem dX11_sheet_81 : decode cX11_sheet 81 = .ok (.invokespecial 64, 3) := by decide +kernel
theorem dX11_sheet_84 : decode cX11_sheet 84 = .ok (.invokevirtual 67, 3) := by decide +kernel
theorem dX11_sheet_87 : decode cX11_sheet 87 = .ok (.pop, 1) := by decide +kernel
theorem dX11_sheet_88 : decode cX11_sheet 88 = .ok (.aload_n 0, 1) := by decide +kernel
theorem dX11_sheet_89 : decode cX11_sheet 89 = .ok (.getfield 10, 3) := by decide +kernel
theorem dX11_sheet_92 : decode cX11_sheet 92 = .ok (.getfield 24, 3) := by decide +kernel
theorem dX11_sheet_95 : decode cX11_sheet 95 = .ok (.aload_n 2, 1) := by decide +kernel
theorem dX11_sheet_96 : decode cX11_sheet 96 = .ok (.invokevirtual 67, 3) := by decide +kernel
theorem dX11_sheet_99 : decode cX11_sheet 99 = .ok (.pop, 1) := by decide +kernel
theorem dX11_sheet_100 : decode cX11_sheet 100 = .ok (.aload_n 0, 1) := by decide +kernel
theorem dX11_sheet_101 : decode cX11_sheet 101 = .ok (.getfield 10, 3) := by decide +kernel
theorem dX11_sheet_104 : decode cX11_sheet 104 = .ok (.getfield 24, 3) := by decide +kernel
theorem dX11_sheet_107 : decode cX11_sheet 107 = .ok (.invokevirtual 28, 3) := by decide +kernel
theorem dX11_sheet_110 : decode cX11_sheet 110 = .ok (.iconst 1, 1) := by decide +kernel
theorem dX11_sheet_111 : decode cX11_sheet 111 = .ok (.isub, 1) := by decide +kernel
theorem dX11_sheet_112 : decode cX11_sheet 112 = .ok (.ireturn, 1) := by decide +kernel
set_option maxRecDepth 20000 in
theorem ggX11_draw_X11_isNoSheet : GoodIn wsX11_draw wsX11_isNoSheet := goodIn_r _ [11, 12, 13, 14, 10, 15, 16, 17, 18, 19, 20, 21, 22, 23, 24, 25, 26, 27, 28, 29, 30, 31, 32, 33, 34, 35, 91, 92, 93, 94, 95, 96, 97, 98, 99, 100, 101, 102, 103, 104, 105] (by decide +kernel) (by decide +kernel)
set_option maxRecDepth 20000 in
theorem gX11_draw_X11_isNoSheet : GoodIn wsX11_draw (wsV RX11 71 RX11 yX11_isNoSheet wsX11_isNoSheet) := goodIn_app (goodIn_of _ (by decide +kernel)) ggX11_draw_X11_isNoSheet
set_option maxRecDepth 20000 in
theorem ggX11_draw_X8_isNone : GoodIn wsX11_draw wsX8_isNone := goodIn_r _ [38] (by decide +kernel) (by decide +kernel)
set_option maxRecDepth 20000 in
theorem gX11_draw_X8_isNone : GoodIn wsX11_draw (va_wsS RX11 74 yX8_isNone wsX8_isNone) := goodIn_app (goodIn_of _ (by decide +kernel)) ggX11_draw_X8_isNone
set_option maxRecDepth 20000 in
theorem ggX11_draw_X11_isIn : GoodIn wsX11_draw wsX11_isIn := goodIn_r _ [26] (by decide +kernel) (by decide +kernel)
set_option maxRecDepth 20000 in
theorem gX11_draw_X11_isIn : GoodIn wsX11_draw (va_wsS RX11 34 yX11_isIn wsX11_isIn) := goodIn_app (goodIn_of _ (by decide +kernel)) ggX11_draw_X11_isIn
set_option maxRecDepth 20000 in
theorem ggX11_draw_X11_refuse : GoodIn wsX11_draw wsX11_refuse := goodIn_r _ [35, 31, 91, 92] (by decide +kernel) (by decide +kernel)
set_option maxRecDepth 20000 in
theorem gX11_draw_X11_refuse : GoodIn wsX11_draw (wsV RX11 20 RX11 yX11_refuse wsX11_refuse) := goodIn_app (goodIn_of _ (by decide +kernel)) ggX11_draw_X11_refuse
set_option maxRecDepth 20000 in
theorem ggX11_draw_X11_of : GoodIn wsX11_draw wsX11_of := goodIn_r _ [42, 16, 17, 43, 44, 45, 46, 21, 47, 23, 48, 49, 50, 51, 52, 53, 54, 55, 56, 57, 58, 59, 60, 91, 92, 93, 94, 95, 96, 97, 98, 99, 100, 101, 102, 103, 104, 105] (by decide +kernel) (by decide +kernel)
set_option maxRecDepth 20000 in
theorem gX11_draw_X11_of : GoodIn wsX11_draw (wsV RX11 78 RX11 yX11_of wsX11_of) := goodIn_app (goodIn_of _ (by decide +kernel)) ggX11_draw_X11_of
set_option maxRecDepth 20000 in
theorem ggX11_draw_X10_last : GoodIn wsX11_draw wsX10_last := goodIn_r _ [65, 66, 67, 68, 19, 20, 21, 22, 23, 69, 45, 46, 47, 48, 49, 50, 51, 52, 53, 54, 55, 56, 57, 58, 59, 60, 106, 107, 108, 103, 104, 105] (by decide +kernel) (by decide +kernel)
set_option maxRecDepth 20000 in
theorem gX11_draw_X10_last : GoodIn wsX11_draw (wsV RX11 82 RX10 yX10_last wsX10_last) := goodIn_app (goodIn_of _ (by decide +kernel)) ggX11_draw_X10_last
set_option maxRecDepth 20000 in
theorem ggX11_draw_X8_init : GoodIn wsX11_draw wsX8_init := goodIn_r _ [72, 73, 74, 75, 76, 77, 78, 79, 87, 88, 89, 90] (by decide +kernel) (by decide +kernel)
set_option maxRecDepth 20000 in
theorem gX11_draw_X8_init : GoodIn wsX11_draw (wsX8_init) := ggX11_draw_X8_init
set_option maxRecDepth 20000 in
theorem ggX11_draw_X8_fields : GoodIn wsX11_draw wsX8_fields := goodIn_r _ [83, 78, 76, 79, 77, 87, 88, 89, 90] (by decide +kernel) (by decide +kernel)
set_option maxRecDepth 20000 in
theorem gX11_draw_X8_fields : GoodIn wsX11_draw (wsV RX11 96 RX8 yX8_fields wsX8_fields) := goodIn_app (goodIn_of _ (by decide +kernel)) ggX11_draw_X8_fields
theorem dX11_draw_0 : decode cX11_draw 0 = .ok (.aload_n 0, 1) := by decide +kernel
theorem dX11_draw_1 : decode cX11_draw 1 = .ok (.iload_n 1, 1) := by decide +kernel
theorem dX11_draw_2 : decode cX11_draw 2 = .ok (.invokevirtual 71, 3) := by decide +kernel
theorem dX11_draw_5 : decode cX11_draw 5 = .ok (.ifCond .ne 67, 3) := by decide +kernel
theorem dX11_draw_8 : decode cX11_draw 8 = .ok (.aload_n 0, 1) := by decide +kernel
theorem dX11_draw_9 : decode cX11_draw 9 = .ok (.iload_n 2, 1) := by decide +kernel
theorem dX11_draw_10 : decode cX11_draw 10 = .ok (.iload_n 3, 1) := by decide +kernel
theorem dX11_draw_11 : decode cX11_draw 11 = .ok (.iload 4, 2) := by decide +kernel
theorem dX11_draw_13 : decode cX11_draw 13 = .ok (.iload 5, 2) := by decide +kernel
theorem dX11_draw_15 : decode cX11_draw 15 = .ok (.invokestatic 74, 3) := by decide +kernel
theorem dX11_draw_18 : decode cX11_draw 18 = .ok (.ifCond .ne 15, 3) := by decide +kernel
theorem dX11_draw_21 : decode cX11_draw 21 = .ok (.iload 6, 2) := by decide +kernel
theorem dX11_draw_23 : decode cX11_draw 23 = .ok (.iconst 0, 1) := by decide +kernel
theorem dX11_draw_24 : decode cX11_draw 24 = .ok (.sipush 255, 3) := by decide +kernel
theorem dX11_draw_27 : decode cX11_draw 27 = .ok (.invokestatic 34, 3) := by decide +kernel
theorem dX11_draw_30 : decode cX11_draw 30 = .ok (.ifCond .ne 7, 3) := by decide +kernel
theorem dX11_draw_33 : decode cX11_draw 33 = .ok (.iconst 1, 1) := by decide +kernel
theorem dX11_draw_34 : decode cX11_draw 34 = .ok (.goto 4, 3) := by decide +kernel
theorem dX11_draw_37 : decode cX11_draw 37 = .ok (.iconst 0, 1) := by decide +kernel
theorem dX11_draw_38 : decode cX11_draw 38 = .ok (.iconst 2, 1) := by decide +kernel
theorem dX11_draw_39 : decode cX11_draw 39 = .ok (.invokevirtual 20, 3) := by decide +kernel
theorem dX11_draw_42 : decode cX11_draw 42 = .ok (.ifCond .ne 30, 3) := by decide +kernel
theorem dX11_draw_45 : decode cX11_draw 45 = .ok (.aload_n 0, 1) := by decide +kernel
theorem dX11_draw_46 : decode cX11_draw 46 = .ok (.aload_n 0, 1) := by decide +kernel
theorem dX11_draw_47 : decode cX11_draw 47 = .ok (.iload_n 1, 1) := by decide +kernel
theorem dX11_draw_48 : decode cX11_draw 48 = .ok (.invokevirtual 78, 3) := by decide +kernel
theorem dX11_draw_51 : decode cX11_draw 51 = .ok (.invokevirtual 82, 3) := by decide +kernel
theorem dX11_draw_54 : decode cX11_draw 54 = .ok (.getfield 86, 3) := by decide +kernel
theorem dX11_draw_57 : decode cX11_draw 57 = .ok (.ifCond .eq 7, 3) := by decide +kernel
theorem dX11_draw_60 : decode cX11_draw 60 = .ok (.iconst 1, 1) := by decide +kernel
theorem dX11_draw_61 : decode cX11_draw 61 = .ok (.goto 4, 3) := by decide +kernel
theorem dX11_draw_64 : decode cX11_draw 64 = .ok (.iconst 0, 1) := by decide +kernel
theorem dX11_draw_65 : decode cX11_draw 65 = .ok (.iconst 3, 1) := by decide +kernel
theorem dX11_draw_66 : decode cX11_draw 66 = .ok (.invokevirtual 20, 3) := by decide +kernel
theorem dX11_draw_69 : decode cX11_draw 69 = .ok (.ifCond .eq 5, 3) := by decide +kernel
theorem dX11_draw_72 : decode cX11_draw 72 = .ok (.iconst 0, 1) := by decide +kernel
theorem dX11_draw_73 : decode cX11_draw 73 = .ok (.ireturn, 1) := by decide +kernel
theorem dX11_draw_74 : decode cX11_draw 74 = .ok (.aload_n 0, 1) := by decide +kernel
theorem dX11_draw_75 : decode cX11_draw 75 = .ok (.iload_n 1, 1) := by decide +kernel
theorem dX11_draw_76 : decode cX11_draw 76 = .ok (.invokevirtual 78, 3) := by decide +kernel
theorem dX11_draw_79 : decode cX11_draw 79 = .ok (.invokevirtual 82, 3) := by decide +kernel
theorem dX11_draw_82 : decode cX11_draw 82 = .ok (.new 59, 3) := by decide +kernel
theorem dX11_draw_85 : decode cX11_draw 85 = .ok (.dup, 1) := by decide +kernel
theorem dX11_draw_86 : decode cX11_draw 86 = .ok (.iload_n 2, 1) := by decide +kernel
theorem dX11_draw_87 : decode cX11_draw 87 = .ok (.iload_n 3, 1) := by decide +kernel
theorem dX11_draw_88 : decode cX11_draw 88 = .ok (.iload 4, 2) := by decide +kernel
theorem dX11_draw_90 : decode cX11_draw 90 = .ok (.iload 5, 2) := by decide +kernel
theorem dX11_draw_92 : decode cX11_draw 92 = .ok (.invokespecial 61, 3) := by decide +kernel
theorem dX11_draw_95 : decode cX11_draw 95 = .ok (.putfield 89, 3) := by decide +kernel
theorem dX11_draw_98 : decode cX11_draw 98 = .ok (.aload_n 0, 1) := by decide +kernel
theorem dX11_draw_99 : decode cX11_draw 99 = .ok (.iload_n 1, 1) := by decide +kernel
theorem dX11_draw_100 : decode cX11_draw 100 = .ok (.invokevirtual 78, 3) := by decide +kernel
theorem dX11_draw_103 : decode cX11_draw 103 = .ok (.invokevirtual 82, 3) := by decide +kernel
theorem dX11_draw_106 : decode cX11_draw 106 = .ok (.iload 6, 2) := by decide +kernel
theorem dX11_draw_108 : decode cX11_draw 108 = .ok (.putfield 93, 3) := by decide +kernel
theorem dX11_draw_111 : decode cX11_draw 111 = .ok (.aload_n 0, 1) := by decide +kernel
theorem dX11_draw_112 : decode cX11_draw 112 = .ok (.iload_n 1, 1) := by decide +kernel
theorem dX11_draw_113 : decode cX11_draw 113 = .ok (.invokevirtual 78, 3) := by decide +kernel
theorem dX11_draw_116 : decode cX11_draw 116 = .ok (.invokevirtual 82, 3) := by decide +kernel
theorem dX11_draw_119 : decode cX11_draw 119 = .ok (.getfield 89, 3) := by decide +kernel
theorem dX11_draw_122 : decode cX11_draw 122 = .ok (.invokevirtual 96, 3) := by decide +kernel
theorem dX11_draw_125 : decode cX11_draw 125 = .ok (.ireturn, 1) := by decide +kernel
set_option maxRecDepth 20000 in
theorem ggX11_revise_X11_isNoSheet : GoodIn wsX11_revise wsX11_isNoSheet := goodIn_r _ [14, 15, 16, 17, 13, 18, 9, 19, 20, 21, 22, 23, 24, 25, 26, 27, 28, 29, 30, 31, 32, 33, 34, 35, 36, 37, 232, 233, 234, 235, 236, 237, 238, 239, 240, 241, 242, 243, 244, 245, 246] (by decide +kernel) (by decide +kernel)
set_option maxRecDepth 20000 in
theorem gX11_revise_X11_isNoSheet : GoodIn wsX11_revise (wsV RX11 71 RX11 yX11_isNoSheet wsX11_isNoSheet) := goodIn_app (goodIn_of _ (by decide +kernel)) ggX11_revise_X11_isNoSheet
set_option maxRecDepth 20000 in
theorem ggX11_revise_X11_of : GoodIn wsX11_revise wsX11_of := goodIn_r _ [41, 9, 19, 42, 43, 44, 45, 23, 46, 25, 47, 48, 49, 50, 51, 52, 53, 54, 55, 56, 57, 58, 59, 232, 233, 234, 235, 236, 237, 238, 239, 240, 241, 242, 243, 244, 245, 246] (by decide +kernel) (by decide +kernel)
set_option maxRecDepth 20000 in
theorem gX11_revise_X11_of : GoodIn wsX11_revise (wsV RX11 78 RX11 yX11_of wsX11_of) := goodIn_app (goodIn_of _ (by decide +kernel)) ggX11_revise_X11_of
set_option maxRecDepth 20000 in
theorem ggX11_revise_X10_last : GoodIn wsX11_revise wsX10_last := goodIn_r _ [64, 65, 66, 67, 21, 22, 23, 24, 25, 68, 44, 45, 46, 47, 48, 49, 50, 51, 52, 53, 54, 55, 56, 57, 58, 59, 229, 230, 231, 244, 245, 246] (by decide +kernel) (by decide +kernel)
set_option maxRecDepth 20000 in
theorem gX11_revise_X10_last : GoodIn wsX11_revise (wsV RX11 82 RX10 yX10_last wsX10_last) := goodIn_app (goodIn_of _ (by decide +kernel)) ggX11_revise_X10_last
set_option maxRecDepth 20000 in
theorem ggX11_revise_Jx4a65c_size_8abf5 : GoodIn wsX11_revise wsJx4a65c_size_8abf5 := goodIn_r _ [24, 25, 244, 245, 246] (by decide +kernel) (by decide +kernel)
set_option maxRecDepth 20000 in
theorem gX11_revise_Jx4a65c_size_8abf5 : GoodIn wsX11_revise (wsV RX11 28 RJx4a65c yJx4a65c_size_8abf5 wsJx4a65c_size_8abf5) := goodIn_app (goodIn_of _ (by decide +kernel)) ggX11_revise_Jx4a65c_size_8abf5
set_option maxRecDepth 20000 in
theorem ggX11_revise_X11_refuse : GoodIn wsX11_revise wsX11_refuse := goodIn_r _ [37, 33, 232, 233] (by decide +kernel) (by decide +kernel)
set_option maxRecDepth 20000 in
theorem gX11_revise_X11_refuse : GoodIn wsX11_revise (wsV RX11 20 RX11 yX11_refuse wsX11_refuse) := goodIn_app (goodIn_of _ (by decide +kernel)) ggX11_revise_X11_refuse
set_option maxRecDepth 20000 in
theorem ggX11_revise_X9_init : GoodIn wsX11_revise wsX9_init := goodIn_r _ [71, 72, 73, 74, 75, 76, 77, 226, 227, 228] (by decide +kernel) (by decide +kernel)
set_option maxRecDepth 20000 in
theorem gX11_revise_X9_init : GoodIn wsX11_revise (wsX9_init) := ggX11_revise_X9_init
set_option maxRecDepth 20000 in
theorem ggX11_revise_Jx4a65c_add_9ea2d : GoodIn wsX11_revise wsJx4a65c_add_9ea2d := goodIn_r _ [81, 82, 83, 59, 25, 84, 85, 86, 23, 87, 88, 89, 90, 91, 92, 93, 94, 95, 96, 97, 98, 99, 100, 101, 102, 103, 104, 105, 106, 107, 108, 109, 110, 111, 112, 113, 114, 115, 116, 117, 118, 119, 120, 121, 122, 123, 124, 125, 126, 127, 128, 129, 130, 244, 245, 246] (by decide +kernel) (by decide +kernel)
set_option maxRecDepth 20000 in
theorem gX11_revise_Jx4a65c_add_9ea2d : GoodIn wsX11_revise (wsV RX11 67 RJx4a65c yJx4a65c_add_9ea2d wsJx4a65c_add_9ea2d) := goodIn_app (goodIn_of _ (by decide +kernel)) ggX11_revise_Jx4a65c_add_9ea2d
set_option maxRecDepth 20000 in
theorem ggX11_revise_X6_settle : GoodIn wsX11_revise wsX6_settle := goodIn_r _ [135, 136, 137, 138, 139, 140, 21, 22, 23, 24, 25, 141, 44, 45, 46, 47, 48, 49, 50, 51, 52, 53, 54, 55, 56, 57, 58, 59, 142, 143, 144, 134, 145, 146, 147, 148, 149, 150, 151, 152, 153, 154, 155, 156, 157, 158, 159, 160, 161, 162, 163, 164, 63, 165, 65, 66, 166, 67, 68, 167, 168, 169, 170, 171, 172, 173, 174, 175, 176, 177, 178, 179, 180, 181, 182, 183, 184, 185, 186, 187, 188, 189, 190, 191, 192, 193, 194, 195, 196, 197, 198, 199, 200, 201, 202, 98, 99, 100, 203, 204, 205, 125, 126, 206, 207, 208, 209, 210, 73, 74, 211, 212, 213, 214, 215, 216, 217, 218, 219, 220, 221, 222, 223, 224, 225, 234, 235, 236, 237, 238, 239, 240, 241, 242, 243, 247, 248, 249, 250, 251, 252, 244, 245, 246, 229, 230, 231, 226, 227, 228, 253, 254, 255, 256] (by decide +kernel) (by decide +kernel)
set_option maxRecDepth 20000 in
theorem gX11_revise_X6_settle : GoodIn wsX11_revise (wsV RX11 102 RX6 yX6_settle wsX6_settle) := goodIn_app (goodIn_of _ (by decide +kernel)) ggX11_revise_X6_settle
theorem dX11_revise_0 : decode cX11_revise 0 = .ok (.aload_n 0, 1) := by decide +kernel
theorem dX11_revise_1 : decode cX11_revise 1 = .ok (.iload_n 1, 1) := by decide +kernel
theorem dX11_revise_2 : decode cX11_revise 2 = .ok (.invokevirtual 71, 3) := by decide +kernel
theorem dX11_revise_5 : decode cX11_revise 5 = .ok (.ifCond .ne 47, 3) := by decide +kernel
theorem dX11_revise_8 : decode cX11_revise 8 = .ok (.aload_n 0, 1) := by decide +kernel
theorem dX11_revise_9 : decode cX11_revise 9 = .ok (.aload_n 0, 1) := by decide +kernel
theorem dX11_revise_10 : decode cX11_revise 10 = .ok (.iload_n 1, 1) := by decide +kernel
theorem dX11_revise_11 : decode cX11_revise 11 = .ok (.invokevirtual 78, 3) := by decide +kernel
theorem dX11_revise_14 : decode cX11_revise 14 = .ok (.invokevirtual 82, 3) := by decide +kernel
theorem dX11_revise_17 : decode cX11_revise 17 = .ok (.getfield 86, 3) := by decide +kernel
theorem dX11_revise_20 : decode cX11_revise 20 = .ok (.iconst 2, 1) := by decide +kernel
theorem dX11_revise_21 : decode cX11_revise 21 = .ok (.if_icmp .lt 19, 3) := by decide +kernel
theorem dX11_revise_24 : decode cX11_revise 24 = .ok (.aload_n 0, 1) := by decide +kernel
theorem dX11_revise_25 : decode cX11_revise 25 = .ok (.iload_n 1, 1) := by decide +kernel
theorem dX11_revise_26 : decode cX11_revise 26 = .ok (.invokevirtual 78, 3) := by decide +kernel
theorem dX11_revise_29 : decode cX11_revise 29 = .ok (.getfield 54, 3) := by decide +kernel
theorem dX11_revise_32 : decode cX11_revise 32 = .ok (.invokevirtual 28, 3) := by decide +kernel
theorem dX11_revise_35 : decode cX11_revise 35 = .ok (.bipush 6, 2) := by decide +kernel
theorem dX11_revise_37 : decode cX11_revise 37 = .ok (.if_icmp .ne 7, 3) := by decide +kernel
theorem dX11_revise_40 : decode cX11_revise 40 = .ok (.iconst 1, 1) := by decide +kernel
theorem dX11_revise_41 : decode cX11_revise 41 = .ok (.goto 4, 3) := by decide +kernel
theorem dX11_revise_44 : decode cX11_revise 44 = .ok (.iconst 0, 1) := by decide +kernel
theorem dX11_revise_45 : decode cX11_revise 45 = .ok (.iconst 2, 1) := by decide +kernel
theorem dX11_revise_46 : decode cX11_revise 46 = .ok (.invokevirtual 20, 3) := by decide +kernel
theorem dX11_revise_49 : decode cX11_revise 49 = .ok (.ifCond .eq 5, 3) := by decide +kernel
theorem dX11_revise_52 : decode cX11_revise 52 = .ok (.iconst 0, 1) := by decide +kernel
theorem dX11_revise_53 : decode cX11_revise 53 = .ok (.ireturn, 1) := by decide +kernel
theorem dX11_revise_54 : decode cX11_revise 54 = .ok (.aload_n 0, 1) := by decide +kernel
theorem dX11_revise_55 : decode cX11_revise 55 = .ok (.iload_n 1, 1) := by decide +kernel
theorem dX11_revise_56 : decode cX11_revise 56 = .ok (.invokevirtual 78, 3) := by decide +kernel
theorem dX11_revise_59 : decode cX11_revise 59 = .ok (.astore_n 2, 1) := by decide +kernel
theorem dX11_revise_60 : decode cX11_revise 60 = .ok (.aload_n 2, 1) := by decide +kernel
theorem dX11_revise_61 : decode cX11_revise 61 = .ok (.getfield 54, 3) := by decide +kernel
theorem dX11_revise_64 : decode cX11_revise 64 = .ok (.new 57, 3) := by decide +kernel
theorem dX11_revise_67 : decode cX11_revise 67 = .ok (.dup, 1) := by decide +kernel
theorem dX11_revise_68 : decode cX11_revise 68 = .ok (.aload_n 2, 1) := by decide +kernel
theorem dX11_revise_69 : decode cX11_revise 69 = .ok (.invokevirtual 82, 3) := by decide +kernel
theorem dX11_revise_72 : decode cX11_revise 72 = .ok (.getfield 89, 3) := by decide +kernel
theorem dX11_revise_75 : decode cX11_revise 75 = .ok (.aload_n 2, 1) := by decide +kernel
theorem dX11_revise_76 : decode cX11_revise 76 = .ok (.invokevirtual 82, 3) := by decide +kernel
theorem dX11_revise_79 : decode cX11_revise 79 = .ok (.getfield 93, 3) := by decide +kernel
theorem dX11_revise_82 : decode cX11_revise 82 = .ok (.invokespecial 64, 3) := by decide +kernel
theorem dX11_revise_85 : decode cX11_revise 85 = .ok (.invokevirtual 67, 3) := by decide +kernel
theorem dX11_revise_88 : decode cX11_revise 88 = .ok (.pop, 1) := by decide +kernel
theorem dX11_revise_89 : decode cX11_revise 89 = .ok (.aload_n 2, 1) := by decide +kernel
theorem dX11_revise_90 : decode cX11_revise 90 = .ok (.iconst 0, 1) := by decide +kernel
theorem dX11_revise_91 : decode cX11_revise 91 = .ok (.putfield 99, 3) := by decide +kernel
theorem dX11_revise_94 : decode cX11_revise 94 = .ok (.aload_n 0, 1) := by decide +kernel
theorem dX11_revise_95 : decode cX11_revise 95 = .ok (.getfield 10, 3) := by decide +kernel
theorem dX11_revise_98 : decode cX11_revise 98 = .ok (.invokevirtual 102, 3) := by decide +kernel
theorem dX11_revise_101 : decode cX11_revise 101 = .ok (.pop, 1) := by decide +kernel
theorem dX11_revise_102 : decode cX11_revise 102 = .ok (.aload_n 2, 1) := by decide +kernel
theorem dX11_revise_103 : decode cX11_revise 103 = .ok (.getfield 54, 3) := by decide +kernel
theorem dX11_revise_106 : decode cX11_revise 106 = .ok (.invokevirtual 28, 3) := by decide +kernel
theorem dX11_revise_109 : decode cX11_revise 109 = .ok (.iconst 1, 1) := by decide +kernel
theorem dX11_revise_110 : decode cX11_revise 110 = .ok (.isub, 1) := by decide +kernel
theorem dX11_revise_111 : decode cX11_revise 111 = .ok (.ireturn, 1) := by decide +kernel
set_option maxRecDepth 20000 in
theorem ggX11_check_X11_isNoSheet : GoodIn wsX11_check wsX11_isNoSheet := goodIn_r _ [7, 8, 9, 10, 6, 11, 2, 12, 13, 14, 15, 16, 17, 18, 19, 20, 21, 22, 23, 24, 25, 26, 27, 28, 29, 30, 90, 91, 92, 93, 94, 95, 96, 97, 98, 99, 100, 101, 102, 103, 104] (by decide +kernel) (by decide +kernel)
set_option maxRecDepth 20000 in
theorem gX11_check_X11_isNoSheet : GoodIn wsX11_check (wsV RX11 71 RX11 yX11_isNoSheet wsX11_isNoSheet) := goodIn_app (goodIn_of _ (by decide +kernel)) ggX11_check_X11_isNoSheet
set_option maxRecDepth 20000 in
theorem ggX11_check_X11_of : GoodIn wsX11_check wsX11_of := goodIn_r _ [34, 2, 12, 35, 36, 37, 38, 16, 39, 18, 40, 41, 42, 43, 44, 45, 46, 47, 48, 49, 50, 51, 52, 90, 91, 92, 93, 94, 95, 96, 97, 98, 99, 100, 101, 102, 103, 104] (by decide +kernel) (by decide +kernel)
set_option maxRecDepth 20000 in
theorem gX11_check_X11_of : GoodIn wsX11_check (wsV RX11 78 RX11 yX11_of wsX11_of) := goodIn_app (goodIn_of _ (by decide +kernel)) ggX11_check_X11_of
set_option maxRecDepth 20000 in
theorem ggX11_check_X10_last : GoodIn wsX11_check wsX10_last := goodIn_r _ [57, 58, 59, 60, 14, 15, 16, 17, 18, 61, 37, 38, 39, 40, 41, 42, 43, 44, 45, 46, 47, 48, 49, 50, 51, 52, 105, 106, 107, 102, 103, 104] (by decide +kernel) (by decide +kernel)
set_option maxRecDepth 20000 in
theorem gX11_check_X10_last : GoodIn wsX11_check (wsV RX11 82 RX10 yX10_last wsX10_last) := goodIn_app (goodIn_of _ (by decide +kernel)) ggX11_check_X10_last
set_option maxRecDepth 20000 in
theorem ggX11_check_X11_refuse : GoodIn wsX11_check wsX11_refuse := goodIn_r _ [30, 26, 90, 91] (by decide +kernel) (by decide +kernel)
set_option maxRecDepth 20000 in
theorem gX11_check_X11_refuse : GoodIn wsX11_check (wsV RX11 20 RX11 yX11_refuse wsX11_refuse) := goodIn_app (goodIn_of _ (by decide +kernel)) ggX11_check_X11_refuse
set_option maxRecDepth 20000 in
theorem ggX11_check_X6_broken : GoodIn wsX11_check wsX6_broken := goodIn_r _ [66, 67, 68, 69, 14, 15, 16, 17, 18, 70, 37, 38, 39, 40, 41, 42, 43, 44, 45, 46, 47, 48, 49, 50, 51, 52, 71, 72, 73, 65, 74, 75, 76, 77, 78, 79, 80, 56, 81, 58, 59, 82, 83, 84, 85, 86, 60, 61, 92, 93, 94, 95, 96, 97, 98, 99, 100, 101, 102, 103, 104, 87, 88, 89, 105, 106, 107] (by decide +kernel) (by decide +kernel)
set_option maxRecDepth 20000 in
theorem gX11_check_X6_broken : GoodIn wsX11_check (wsV RX11 105 RX6 yX6_broken wsX6_broken) := goodIn_app (goodIn_of _ (by decide +kernel)) ggX11_check_X6_broken
theorem dX11_check_0 : decode cX11_check 0 = .ok (.aload_n 0, 1) := by decide +kernel
theorem dX11_check_1 : decode cX11_check 1 = .ok (.iload_n 1, 1) := by decide +kernel
theorem dX11_check_2 : decode cX11_check 2 = .ok (.invokevirtual 71, 3) := by decide +kernel
theorem dX11_check_5 : decode cX11_check 5 = .ok (.ifCond .ne 30, 3) := by decide +kernel
theorem dX11_check_8 : decode cX11_check 8 = .ok (.aload_n 0, 1) := by decide +kernel
theorem dX11_check_9 : decode cX11_check 9 = .ok (.aload_n 0, 1) := by decide +kernel
theorem dX11_check_10 : decode cX11_check 10 = .ok (.iload_n 1, 1) := by decide +kernel
theorem dX11_check_11 : decode cX11_check 11 = .ok (.invokevirtual 78, 3) := by decide +kernel
theorem dX11_check_14 : decode cX11_check 14 = .ok (.invokevirtual 82, 3) := by decide +kernel
theorem dX11_check_17 : decode cX11_check 17 = .ok (.getfield 86, 3) := by decide +kernel
theorem dX11_check_20 : decode cX11_check 20 = .ok (.ifCond .eq 7, 3) := by decide +kernel
theorem dX11_check_23 : decode cX11_check 23 = .ok (.iconst 1, 1) := by decide +kernel
theorem dX11_check_24 : decode cX11_check 24 = .ok (.goto 4, 3) := by decide +kernel
theorem dX11_check_27 : decode cX11_check 27 = .ok (.iconst 0, 1) := by decide +kernel
theorem dX11_check_28 : decode cX11_check 28 = .ok (.iconst 2, 1) := by decide +kernel
theorem dX11_check_29 : decode cX11_check 29 = .ok (.invokevirtual 20, 3) := by decide +kernel
theorem dX11_check_32 : decode cX11_check 32 = .ok (.ifCond .eq 5, 3) := by decide +kernel
theorem dX11_check_35 : decode cX11_check 35 = .ok (.iconst 0, 1) := by decide +kernel
theorem dX11_check_36 : decode cX11_check 36 = .ok (.ireturn, 1) := by decide +kernel
theorem dX11_check_37 : decode cX11_check 37 = .ok (.aload_n 0, 1) := by decide +kernel
theorem dX11_check_38 : decode cX11_check 38 = .ok (.iload_n 1, 1) := by decide +kernel
theorem dX11_check_39 : decode cX11_check 39 = .ok (.invokevirtual 78, 3) := by decide +kernel
theorem dX11_check_42 : decode cX11_check 42 = .ok (.invokevirtual 82, 3) := by decide +kernel
theorem dX11_check_45 : decode cX11_check 45 = .ok (.iconst 1, 1) := by decide +kernel
theorem dX11_check_46 : decode cX11_check 46 = .ok (.putfield 86, 3) := by decide +kernel
theorem dX11_check_49 : decode cX11_check 49 = .ok (.aload_n 0, 1) := by decide +kernel
theorem dX11_check_50 : decode cX11_check 50 = .ok (.getfield 10, 3) := by decide +kernel
theorem dX11_check_53 : decode cX11_check 53 = .ok (.iload_n 1, 1) := by decide +kernel
theorem dX11_check_54 : decode cX11_check 54 = .ok (.iconst 1, 1) := by decide +kernel
theorem dX11_check_55 : decode cX11_check 55 = .ok (.invokevirtual 105, 3) := by decide +kernel
theorem dX11_check_58 : decode cX11_check 58 = .ok (.ireturn, 1) := by decide +kernel
set_option maxRecDepth 20000 in
theorem ggX11_issue_X11_isNoSheet : GoodIn wsX11_issue wsX11_isNoSheet := goodIn_r _ [6, 7, 8, 9, 5, 10, 1, 11, 12, 13, 14, 15, 16, 17, 18, 19, 20, 21, 22, 23, 24, 25, 26, 27, 28, 29, 166, 167, 168, 169, 170, 171, 172, 173, 174, 175, 176, 177, 178, 179, 180] (by decide +kernel) (by decide +kernel)
set_option maxRecDepth 20000 in
theorem gX11_issue_X11_isNoSheet : GoodIn wsX11_issue (wsV RX11 71 RX11 yX11_isNoSheet wsX11_isNoSheet) := goodIn_app (goodIn_of _ (by decide +kernel)) ggX11_issue_X11_isNoSheet
set_option maxRecDepth 20000 in
theorem ggX11_issue_X6_canIssue : GoodIn wsX11_issue wsX6_canIssue := goodIn_r _ [34, 35, 36, 37, 38, 39, 40, 15, 41, 17, 42, 43, 44, 45, 46, 47, 48, 49, 50, 51, 52, 53, 54, 55, 56, 57, 58, 59, 60, 61, 62, 13, 14, 16, 63, 64, 65, 66, 33, 67, 68, 69, 70, 71, 72, 73, 74, 75, 76, 77, 78, 79, 80, 81, 82, 83, 84, 168, 169, 170, 171, 172, 173, 174, 175, 176, 177, 181, 182, 183, 178, 179, 180, 184, 185, 186] (by decide +kernel) (by decide +kernel)
set_option maxRecDepth 20000 in
theorem gX11_issue_X6_canIssue : GoodIn wsX11_issue (wsV RX11 109 RX6 yX6_canIssue wsX6_canIssue) := goodIn_app (goodIn_of _ (by decide +kernel)) ggX11_issue_X6_canIssue
set_option maxRecDepth 20000 in
theorem ggX11_issue_X11_refuse : GoodIn wsX11_issue wsX11_refuse := goodIn_r _ [29, 25, 166, 167] (by decide +kernel) (by decide +kernel)
set_option maxRecDepth 20000 in
theorem gX11_issue_X11_refuse : GoodIn wsX11_issue (wsV RX11 20 RX11 yX11_refuse wsX11_refuse) := goodIn_app (goodIn_of _ (by decide +kernel)) ggX11_issue_X11_refuse
set_option maxRecDepth 20000 in
theorem ggX11_issue_X6_issue : GoodIn wsX11_issue wsX6_issue := goodIn_r _ [88, 35, 36, 37, 89, 69, 38, 39, 40, 15, 41, 17, 42, 43, 44, 45, 46, 47, 48, 49, 50, 51, 52, 53, 54, 76, 77, 78, 58, 79, 60, 61, 80, 81, 82, 83, 84, 62, 13, 14, 16, 63, 55, 56, 57, 59, 70, 90, 91, 92, 33, 93, 94, 95, 96, 97, 98, 99, 100, 101, 102, 103, 104, 105, 106, 107, 108, 109, 110, 111, 112, 113, 114, 115, 116, 64, 65, 66, 67, 68, 71, 72, 73, 74, 75, 117, 118, 119, 120, 121, 122, 123, 124, 125, 126, 127, 128, 129, 130, 131, 132, 133, 134, 135, 136, 137, 138, 139, 140, 141, 142, 143, 144, 145, 146, 147, 148, 149, 150, 151, 152, 153, 154, 155, 156, 157, 158, 159, 160, 161, 162, 163, 164, 165, 168, 169, 170, 171, 172, 173, 174, 175, 176, 177, 181, 182, 183, 178, 179, 180, 184, 185, 186, 187, 188, 189, 190, 191, 192, 193, 194, 195, 196] (by decide +kernel) (by decide +kernel)
set_option maxRecDepth 20000 in
theorem gX11_issue_X6_issue : GoodIn wsX11_issue (wsV RX11 112 RX6 yX6_issue wsX6_issue) := goodIn_app (goodIn_of _ (by decide +kernel)) ggX11_issue_X6_issue
theorem dX11_issue_0 : decode cX11_issue 0 = .ok (.aload_n 0, 1) := by decide +kernel
theorem dX11_issue_1 : decode cX11_issue 1 = .ok (.iload_n 1, 1) := by decide +kernel
theorem dX11_issue_2 : decode cX11_issue 2 = .ok (.invokevirtual 71, 3) := by decide +kernel
theorem dX11_issue_5 : decode cX11_issue 5 = .ok (.ifCond .ne 27, 3) := by decide +kernel
theorem dX11_issue_8 : decode cX11_issue 8 = .ok (.aload_n 0, 1) := by decide +kernel
theorem dX11_issue_9 : decode cX11_issue 9 = .ok (.aload_n 0, 1) := by decide +kernel
theorem dX11_issue_10 : decode cX11_issue 10 = .ok (.getfield 10, 3) := by decide +kernel
theorem dX11_issue_13 : decode cX11_issue 13 = .ok (.iload_n 1, 1) := by decide +kernel
theorem dX11_issue_14 : decode cX11_issue 14 = .ok (.invokevirtual 109, 3) := by decide +kernel
theorem dX11_issue_17 : decode cX11_issue 17 = .ok (.ifCond .ne 7, 3) := by decide +kernel
theorem dX11_issue_20 : decode cX11_issue 20 = .ok (.iconst 1, 1) := by decide +kernel
theorem dX11_issue_21 : decode cX11_issue 21 = .ok (.goto 4, 3) := by decide +kernel
theorem dX11_issue_24 : decode cX11_issue 24 = .ok (.iconst 0, 1) := by decide +kernel
theorem dX11_issue_25 : decode cX11_issue 25 = .ok (.iconst 2, 1) := by decide +kernel
theorem dX11_issue_26 : decode cX11_issue 26 = .ok (.invokevirtual 20, 3) := by decide +kernel
theorem dX11_issue_29 : decode cX11_issue 29 = .ok (.ifCond .eq 7, 3) := by decide +kernel
theorem dX11_issue_32 : decode cX11_issue 32 = .ok (.iconst 0, 1) := by decide +kernel
theorem dX11_issue_33 : decode cX11_issue 33 = .ok (.goto 11, 3) := by decide +kernel
theorem dX11_issue_36 : decode cX11_issue 36 = .ok (.aload_n 0, 1) := by decide +kernel
theorem dX11_issue_37 : decode cX11_issue 37 = .ok (.getfield 10, 3) := by decide +kernel
theorem dX11_issue_40 : decode cX11_issue 40 = .ok (.iload_n 1, 1) := by decide +kernel
theorem dX11_issue_41 : decode cX11_issue 41 = .ok (.invokevirtual 112, 3) := by decide +kernel
theorem dX11_issue_44 : decode cX11_issue 44 = .ok (.ireturn, 1) := by decide +kernel
set_option maxRecDepth 20000 in
theorem ggX11_refer_X11_isNo : GoodIn wsX11_refer wsX11_isNo := goodIn_r _ [9, 1, 10, 11, 12, 13, 14, 15, 16, 17, 18, 8, 19, 210, 211, 212, 213, 214, 215, 216, 217, 218, 219, 220, 221, 225, 226, 227] (by decide +kernel) (by decide +kernel)
set_option maxRecDepth 20000 in
theorem gX11_refer_X11_isNo : GoodIn wsX11_refer (wsV RX11 38 RX11 yX11_isNo wsX11_isNo) := goodIn_app (goodIn_of _ (by decide +kernel)) ggX11_refer_X11_isNo
set_option maxRecDepth 20000 in
theorem ggX11_refer_X11_start : GoodIn wsX11_refer wsX11_start := goodIn_r _ [23, 24, 25, 26, 27, 8, 28, 210, 211] (by decide +kernel) (by decide +kernel)
set_option maxRecDepth 20000 in
theorem gX11_refer_X11_start : GoodIn wsX11_refer (wsV RX11 42 RX11 yX11_start wsX11_start) := goodIn_app (goodIn_of _ (by decide +kernel)) ggX11_refer_X11_start
set_option maxRecDepth 20000 in
theorem ggX11_refer_X11_isIn : GoodIn wsX11_refer wsX11_isIn := goodIn_r _ [19] (by decide +kernel) (by decide +kernel)
set_option maxRecDepth 20000 in
theorem gX11_refer_X11_isIn : GoodIn wsX11_refer (va_wsS RX11 34 yX11_isIn wsX11_isIn) := goodIn_app (goodIn_of _ (by decide +kernel)) ggX11_refer_X11_isIn
set_option maxRecDepth 20000 in
theorem ggX11_refer_X11_refuse : GoodIn wsX11_refer wsX11_refuse := goodIn_r _ [28, 24, 210, 211] (by decide +kernel) (by decide +kernel)
set_option maxRecDepth 20000 in
theorem gX11_refer_X11_refuse : GoodIn wsX11_refer (wsV RX11 20 RX11 yX11_refuse wsX11_refuse) := goodIn_app (goodIn_of _ (by decide +kernel)) ggX11_refer_X11_refuse
set_option maxRecDepth 20000 in
theorem ggX11_refer_Jx4a65c_size_8abf5 : GoodIn wsX11_refer wsJx4a65c_size_8abf5 := goodIn_r _ [15, 16, 225, 226, 227] (by decide +kernel) (by decide +kernel)
set_option maxRecDepth 20000 in
theorem gX11_refer_Jx4a65c_size_8abf5 : GoodIn wsX11_refer (wsV RX11 28 RJx4a65c yJx4a65c_size_8abf5 wsJx4a65c_size_8abf5) := goodIn_app (goodIn_of _ (by decide +kernel)) ggX11_refer_Jx4a65c_size_8abf5
set_option maxRecDepth 20000 in
theorem ggX11_refer_X11_of : GoodIn wsX11_refer wsX11_of := goodIn_r _ [32, 1, 10, 33, 34, 35, 36, 14, 37, 16, 38, 39, 40, 41, 42, 43, 44, 45, 46, 47, 48, 49, 50, 210, 211, 212, 213, 214, 215, 216, 217, 218, 219, 220, 221, 225, 226, 227] (by decide +kernel) (by decide +kernel)
set_option maxRecDepth 20000 in
theorem gX11_refer_X11_of : GoodIn wsX11_refer (wsV RX11 78 RX11 yX11_of wsX11_of) := goodIn_app (goodIn_of _ (by decide +kernel)) ggX11_refer_X11_of
set_option maxRecDepth 20000 in
theorem ggX11_refer_X10_last : GoodIn wsX11_refer wsX10_last := goodIn_r _ [55, 56, 57, 58, 12, 13, 14, 15, 16, 59, 35, 36, 37, 38, 39, 40, 41, 42, 43, 44, 45, 46, 47, 48, 49, 50, 228, 229, 230, 225, 226, 227] (by decide +kernel) (by decide +kernel)
set_option maxRecDepth 20000 in
theorem gX11_refer_X10_last : GoodIn wsX11_refer (wsV RX11 82 RX10 yX10_last wsX10_last) := goodIn_app (goodIn_of _ (by decide +kernel)) ggX11_refer_X10_last
set_option maxRecDepth 20000 in
theorem ggX11_refer_Jx4a65c_add_9ea2d : GoodIn wsX11_refer wsJx4a65c_add_9ea2d := goodIn_r _ [63, 64, 65, 50, 16, 66, 67, 68, 14, 69, 70, 71, 72, 73, 74, 75, 76, 77, 78, 79, 80, 81, 82, 83, 84, 85, 86, 87, 88, 89, 90, 91, 92, 93, 94, 95, 96, 97, 98, 99, 100, 101, 102, 103, 104, 105, 106, 107, 108, 109, 110, 111, 112, 225, 226, 227] (by decide +kernel) (by decide +kernel)
set_option maxRecDepth 20000 in
theorem gX11_refer_Jx4a65c_add_9ea2d : GoodIn wsX11_refer (wsV RX11 67 RJx4a65c yJx4a65c_add_9ea2d wsJx4a65c_add_9ea2d) := goodIn_app (goodIn_of _ (by decide +kernel)) ggX11_refer_Jx4a65c_add_9ea2d
set_option maxRecDepth 20000 in
theorem ggX11_refer_X6_settle : GoodIn wsX11_refer wsX6_settle := goodIn_r _ [117, 118, 119, 120, 121, 122, 12, 13, 14, 15, 16, 123, 35, 36, 37, 38, 39, 40, 41, 42, 43, 44, 45, 46, 47, 48, 49, 50, 124, 125, 126, 116, 127, 128, 129, 130, 131, 132, 133, 134, 135, 136, 137, 138, 139, 140, 141, 142, 143, 144, 145, 146, 54, 147, 56, 57, 148, 58, 59, 149, 150, 151, 152, 153, 154, 155, 156, 157, 158, 159, 160, 161, 162, 163, 164, 165, 166, 167, 168, 169, 170, 171, 172, 173, 174, 175, 176, 177, 178, 179, 180, 181, 182, 183, 184, 80, 81, 82, 185, 186, 187, 107, 108, 188, 189, 190, 191, 192, 193, 194, 195, 196, 197, 198, 199, 200, 201, 202, 203, 204, 205, 206, 207, 208, 209, 212, 213, 214, 215, 216, 217, 218, 219, 220, 221, 231, 232, 233, 234, 235, 236, 225, 226, 227, 228, 229, 230, 222, 223, 224, 237, 238, 239, 240] (by decide +kernel) (by decide +kernel)
set_option maxRecDepth 20000 in
theorem gX11_refer_X6_settle : GoodIn wsX11_refer (wsV RX11 102 RX6 yX6_settle wsX6_settle) := goodIn_app (goodIn_of _ (by decide +kernel)) ggX11_refer_X6_settle
theorem dX11_refer_0 : decode cX11_refer 0 = .ok (.aload_n 0, 1) := by decide +kernel
theorem dX11_refer_1 : decode cX11_refer 1 = .ok (.aload_n 0, 1) := by decide +kernel
theorem dX11_refer_2 : decode cX11_refer 2 = .ok (.iload_n 1, 1) := by decide +kernel
theorem dX11_refer_3 : decode cX11_refer 3 = .ok (.invokevirtual 38, 3) := by decide +kernel
theorem dX11_refer_6 : decode cX11_refer 6 = .ok (.ifCond .ne 11, 3) := by decide +kernel
theorem dX11_refer_9 : decode cX11_refer 9 = .ok (.aload_n 0, 1) := by decide +kernel
theorem dX11_refer_10 : decode cX11_refer 10 = .ok (.iload_n 2, 1) := by decide +kernel
theorem dX11_refer_11 : decode cX11_refer 11 = .ok (.invokevirtual 38, 3) := by decide +kernel
theorem dX11_refer_14 : decode cX11_refer 14 = .ok (.ifCond .eq 7, 3) := by decide +kernel
theorem dX11_refer_17 : decode cX11_refer 17 = .ok (.iconst 1, 1) := by decide +kernel
theorem dX11_refer_18 : decode cX11_refer 18 = .ok (.goto 4, 3) := by decide +kernel
theorem dX11_refer_21 : decode cX11_refer 21 = .ok (.iconst 0, 1) := by decide +kernel
theorem dX11_refer_22 : decode cX11_refer 22 = .ok (.iconst 1, 1) := by decide +kernel
theorem dX11_refer_23 : decode cX11_refer 23 = .ok (.invokevirtual 42, 3) := by decide +kernel
theorem dX11_refer_26 : decode cX11_refer 26 = .ok (.ifCond .ne 73, 3) := by decide +kernel
theorem dX11_refer_29 : decode cX11_refer 29 = .ok (.aload_n 0, 1) := by decide +kernel
theorem dX11_refer_30 : decode cX11_refer 30 = .ok (.iload_n 1, 1) := by decide +kernel
theorem dX11_refer_31 : decode cX11_refer 31 = .ok (.iload_n 2, 1) := by decide +kernel
theorem dX11_refer_32 : decode cX11_refer 32 = .ok (.if_icmp .eq 13, 3) := by decide +kernel
theorem dX11_refer_35 : decode cX11_refer 35 = .ok (.iload_n 3, 1) := by decide +kernel
theorem dX11_refer_36 : decode cX11_refer 36 = .ok (.iconst 0, 1) := by decide +kernel
theorem dX11_refer_37 : decode cX11_refer 37 = .ok (.bipush 7, 2) := by decide +kernel
theorem dX11_refer_39 : decode cX11_refer 39 = .ok (.invokestatic 34, 3) := by decide +kernel
theorem dX11_refer_42 : decode cX11_refer 42 = .ok (.ifCond .ne 7, 3) := by decide +kernel
theorem dX11_refer_45 : decode cX11_refer 45 = .ok (.iconst 1, 1) := by decide +kernel
theorem dX11_refer_46 : decode cX11_refer 46 = .ok (.goto 4, 3) := by decide +kernel
theorem dX11_refer_49 : decode cX11_refer 49 = .ok (.iconst 0, 1) := by decide +kernel
theorem dX11_refer_50 : decode cX11_refer 50 = .ok (.iconst 2, 1) := by decide +kernel
theorem dX11_refer_51 : decode cX11_refer 51 = .ok (.invokevirtual 20, 3) := by decide +kernel
theorem dX11_refer_54 : decode cX11_refer 54 = .ok (.ifCond .ne 45, 3) := by decide +kernel
theorem dX11_refer_57 : decode cX11_refer 57 = .ok (.aload_n 0, 1) := by decide +kernel
theorem dX11_refer_58 : decode cX11_refer 58 = .ok (.aload_n 0, 1) := by decide +kernel
theorem dX11_refer_59 : decode cX11_refer 59 = .ok (.getfield 10, 3) := by decide +kernel
theorem dX11_refer_62 : decode cX11_refer 62 = .ok (.getfield 116, 3) := by decide +kernel
theorem dX11_refer_65 : decode cX11_refer 65 = .ok (.invokevirtual 28, 3) := by decide +kernel
theorem dX11_refer_68 : decode cX11_refer 68 = .ok (.bipush 20, 2) := by decide +kernel
theorem dX11_refer_70 : decode cX11_refer 70 = .ok (.if_icmp .eq 17, 3) := by decide +kernel
theorem dX11_refer_73 : decode cX11_refer 73 = .ok (.aload_n 0, 1) := by decide +kernel
theorem dX11_refer_74 : decode cX11_refer 74 = .ok (.iload_n 1, 1) := by decide +kernel
theorem dX11_refer_75 : decode cX11_refer 75 = .ok (.invokevirtual 78, 3) := by decide +kernel
theorem dX11_refer_78 : decode cX11_refer 78 = .ok (.invokevirtual 82, 3) := by decide +kernel
theorem dX11_refer_81 : decode cX11_refer 81 = .ok (.getfield 86, 3) := by decide +kernel
theorem dX11_refer_84 : decode cX11_refer 84 = .ok (.ifCond .eq 7, 3) := by decide +kernel
theorem dX11_refer_87 : decode cX11_refer 87 = .ok (.iconst 1, 1) := by decide +kernel
theorem dX11_refer_88 : decode cX11_refer 88 = .ok (.goto 4, 3) := by decide +kernel
theorem dX11_refer_91 : decode cX11_refer 91 = .ok (.iconst 0, 1) := by decide +kernel
theorem dX11_refer_92 : decode cX11_refer 92 = .ok (.iconst 3, 1) := by decide +kernel
theorem dX11_refer_93 : decode cX11_refer 93 = .ok (.invokevirtual 20, 3) := by decide +kernel
theorem dX11_refer_96 : decode cX11_refer 96 = .ok (.ifCond .eq 5, 3) := by decide +kernel
theorem dX11_refer_99 : decode cX11_refer 99 = .ok (.iconst 0, 1) := by decide +kernel
theorem dX11_refer_100 : decode cX11_refer 100 = .ok (.ireturn, 1) := by decide +kernel
theorem dX11_refer_101 : decode cX11_refer 101 = .ok (.aload_n 0, 1) := by decide +kernel
theorem dX11_refer_102 : decode cX11_refer 102 = .ok (.getfield 10, 3) := by decide +kernel
theorem dX11_refer_105 : decode cX11_refer 105 = .ok (.getfield 116, 3) := by decide +kernel
theorem dX11_refer_108 : decode cX11_refer 108 = .ok (.iconst 3, 1) := by decide +kernel
theorem dX11_refer_109 : decode cX11_refer 109 = .ok (.newarray .int, 2) := by decide +kernel
theorem dX11_refer_111 : decode cX11_refer 111 = .ok (.dup, 1) := by decide +kernel
theorem dX11_refer_112 : decode cX11_refer 112 = .ok (.iconst 0, 1) := by decide +kernel
theorem dX11_refer_113 : decode cX11_refer 113 = .ok (.iload_n 1, 1) := by decide +kernel
theorem dX11_refer_114 : decode cX11_refer 114 = .ok (.iastore, 1) := by decide +kernel
theorem dX11_refer_115 : decode cX11_refer 115 = .ok (.dup, 1) := by decide +kernel
theorem dX11_refer_116 : decode cX11_refer 116 = .ok (.iconst 1, 1) := by decide +kernel
theorem dX11_refer_117 : decode cX11_refer 117 = .ok (.iload_n 2, 1) := by decide +kernel
theorem dX11_refer_118 : decode cX11_refer 118 = .ok (.iastore, 1) := by decide +kernel
theorem dX11_refer_119 : decode cX11_refer 119 = .ok (.dup, 1) := by decide +kernel
theorem dX11_refer_120 : decode cX11_refer 120 = .ok (.iconst 2, 1) := by decide +kernel
theorem dX11_refer_121 : decode cX11_refer 121 = .ok (.iload_n 3, 1) := by decide +kernel
theorem dX11_refer_122 : decode cX11_refer 122 = .ok (.iastore, 1) := by decide +kernel
theorem dX11_refer_123 : decode cX11_refer 123 = .ok (.invokevirtual 67, 3) := by decide +kernel
theorem dX11_refer_126 : decode cX11_refer 126 = .ok (.pop, 1) := by decide +kernel
theorem dX11_refer_127 : decode cX11_refer 127 = .ok (.aload_n 0, 1) := by decide +kernel
theorem dX11_refer_128 : decode cX11_refer 128 = .ok (.getfield 10, 3) := by decide +kernel
theorem dX11_refer_131 : decode cX11_refer 131 = .ok (.invokevirtual 102, 3) := by decide +kernel
theorem dX11_refer_134 : decode cX11_refer 134 = .ok (.pop, 1) := by decide +kernel
theorem dX11_refer_135 : decode cX11_refer 135 = .ok (.aload_n 0, 1) := by decide +kernel
theorem dX11_refer_136 : decode cX11_refer 136 = .ok (.getfield 10, 3) := by decide +kernel
theorem dX11_refer_139 : decode cX11_refer 139 = .ok (.getfield 116, 3) := by decide +kernel
theorem dX11_refer_142 : decode cX11_refer 142 = .ok (.invokevirtual 28, 3) := by decide +kernel
theorem dX11_refer_145 : decode cX11_refer 145 = .ok (.iconst 1, 1) := by decide +kernel
theorem dX11_refer_146 : decode cX11_refer 146 = .ok (.isub, 1) := by decide +kernel
theorem dX11_refer_147 : decode cX11_refer 147 = .ok (.ireturn, 1) := by decide +kernel
set_option maxRecDepth 20000 in
theorem ggX11_ofSheetNow_X11_of : GoodIn wsX11_ofSheetNow wsX11_of := goodIn_r _ [12, 7, 13, 14, 15, 16, 17, 18, 19, 20, 21, 22, 23, 24, 25, 26, 27, 28, 29, 30, 31, 32, 33, 122, 123, 124, 125, 126, 127, 128, 129, 130, 131, 132, 133, 134, 135, 136] (by decide +kernel) (by decide +kernel)
set_option maxRecDepth 20000 in
theorem gX11_ofSheetNow_X11_of : GoodIn wsX11_ofSheetNow (wsV RX11 78 RX11 yX11_of wsX11_of) := goodIn_app (goodIn_of _ (by decide +kernel)) ggX11_ofSheetNow_X11_of
set_option maxRecDepth 20000 in
theorem ggX11_ofSheetNow_X10_issuedOne : GoodIn wsX11_ofSheetNow wsX10_issuedOne := goodIn_r _ [38, 39, 40, 41, 42, 43, 37, 44, 45, 46, 47, 48, 18, 49, 20, 50, 16, 17, 19, 21, 22, 23, 24, 25, 26, 27, 28, 29, 30, 31, 32, 33, 116, 117, 118, 119, 120, 121, 134, 135, 136] (by decide +kernel) (by decide +kernel)
set_option maxRecDepth 20000 in
theorem gX11_ofSheetNow_X10_issuedOne : GoodIn wsX11_ofSheetNow (wsV RX11 119 RX10 yX10_issuedOne wsX10_issuedOne) := goodIn_app (goodIn_of _ (by decide +kernel)) ggX11_ofSheetNow_X10_issuedOne
set_option maxRecDepth 20000 in
theorem ggX11_ofSheetNow_Jx4a65c_size_8abf5 : GoodIn wsX11_ofSheetNow wsJx4a65c_size_8abf5 := goodIn_r _ [49, 20, 134, 135, 136] (by decide +kernel) (by decide +kernel)
set_option maxRecDepth 20000 in
theorem gX11_ofSheetNow_Jx4a65c_size_8abf5 : GoodIn wsX11_ofSheetNow (wsV RX11 28 RJx4a65c yJx4a65c_size_8abf5 wsJx4a65c_size_8abf5) := goodIn_app (goodIn_of _ (by decide +kernel)) ggX11_ofSheetNow_Jx4a65c_size_8abf5
set_option maxRecDepth 20000 in
theorem ggX11_ofSheetNow_X10_issued : GoodIn wsX11_ofSheetNow wsX10_issued := goodIn_r _ [44, 39, 40, 45, 46, 47, 48, 18, 49, 20, 50, 16, 17, 19, 21, 22, 23, 24, 25, 26, 27, 28, 29, 30, 31, 32, 33, 116, 117, 118, 119, 120, 121, 134, 135, 136] (by decide +kernel) (by decide +kernel)
set_option maxRecDepth 20000 in
theorem gX11_ofSheetNow_X10_issued : GoodIn wsX11_ofSheetNow (wsV RX11 125 RX10 yX10_issued wsX10_issued) := goodIn_app (goodIn_of _ (by decide +kernel)) ggX11_ofSheetNow_X10_issued
set_option maxRecDepth 20000 in
theorem ggX11_ofSheetNow_X10_last : GoodIn wsX11_ofSheetNow wsX10_last := goodIn_r _ [56, 39, 40, 46, 47, 48, 18, 49, 20, 50, 16, 17, 19, 21, 22, 23, 24, 25, 26, 27, 28, 29, 30, 31, 32, 33, 116, 117, 118, 134, 135, 136] (by decide +kernel) (by decide +kernel)
set_option maxRecDepth 20000 in
theorem gX11_ofSheetNow_X10_last : GoodIn wsX11_ofSheetNow (wsV RX11 82 RX10 yX10_last wsX10_last) := goodIn_app (goodIn_of _ (by decide +kernel)) ggX11_ofSheetNow_X10_last
set_option maxRecDepth 20000 in
theorem ggX11_ofSheetNow_X8_fields : GoodIn wsX11_ofSheetNow wsX8_fields := goodIn_r _ [61, 62, 63, 64, 65, 137, 138, 139, 140] (by decide +kernel) (by decide +kernel)
set_option maxRecDepth 20000 in
theorem gX11_ofSheetNow_X8_fields : GoodIn wsX11_ofSheetNow (wsV RX11 96 RX8 yX8_fields wsX8_fields) := goodIn_app (goodIn_of _ (by decide +kernel)) ggX11_ofSheetNow_X8_fields
set_option maxRecDepth 20000 in
theorem ggX11_ofSheetNow_X6_broken : GoodIn wsX11_ofSheetNow wsX6_broken := goodIn_r _ [70, 71, 72, 73, 47, 48, 18, 49, 20, 74, 16, 17, 19, 21, 22, 23, 24, 25, 26, 27, 28, 29, 30, 31, 32, 33, 75, 76, 77, 69, 78, 79, 80, 81, 82, 35, 36, 37, 38, 39, 40, 41, 42, 43, 44, 45, 46, 50, 124, 125, 126, 127, 128, 129, 130, 131, 132, 133, 134, 135, 136, 119, 120, 121, 116, 117, 118] (by decide +kernel) (by decide +kernel)
set_option maxRecDepth 20000 in
theorem gX11_ofSheetNow_X6_broken : GoodIn wsX11_ofSheetNow (wsV RX11 105 RX6 yX6_broken wsX6_broken) := goodIn_app (goodIn_of _ (by decide +kernel)) ggX11_ofSheetNow_X6_broken
set_option maxRecDepth 20000 in
theorem ggX11_ofSheetNow_X6_clashes : GoodIn wsX11_ofSheetNow wsX6_clashes := goodIn_r _ [86, 79, 73, 47, 48, 18, 49, 20, 87, 88, 89, 69, 90, 80, 91, 92, 93, 94, 95, 60, 74, 16, 17, 19, 21, 22, 23, 24, 25, 26, 27, 28, 29, 30, 31, 32, 33, 82, 35, 36, 37, 38, 39, 40, 41, 42, 43, 44, 45, 46, 50, 96, 97, 98, 99, 100, 63, 101, 102, 103, 104, 65, 62, 105, 106, 107, 64, 108, 109, 110, 111, 112, 113, 114, 115, 58, 59, 61, 124, 125, 126, 127, 128, 129, 130, 131, 132, 133, 134, 135, 136, 116, 117, 118, 119, 120, 121, 137, 138, 139, 140] (by decide +kernel) (by decide +kernel)
set_option maxRecDepth 20000 in
theorem gX11_ofSheetNow_X6_clashes : GoodIn wsX11_ofSheetNow (wsV RX11 128 RX6 yX6_clashes wsX6_clashes) := goodIn_app (goodIn_of _ (by decide +kernel)) ggX11_ofSheetNow_X6_clashes
theorem dX11_ofSheetNow_0 : decode cX11_ofSheetNow 0 = .ok (.aload_n 0, 1) := by decide +kernel
theorem dX11_ofSheetNow_1 : decode cX11_ofSheetNow 1 = .ok (.iload_n 1, 1) := by decide +kernel
theorem dX11_ofSheetNow_2 : decode cX11_ofSheetNow 2 = .ok (.invokevirtual 78, 3) := by decide +kernel
theorem dX11_ofSheetNow_5 : decode cX11_ofSheetNow 5 = .ok (.astore_n 3, 1) := by decide +kernel
theorem dX11_ofSheetNow_6 : decode cX11_ofSheetNow 6 = .ok (.aload_n 3, 1) := by decide +kernel
theorem dX11_ofSheetNow_7 : decode cX11_ofSheetNow 7 = .ok (.invokevirtual 119, 3) := by decide +kernel
theorem dX11_ofSheetNow_10 : decode cX11_ofSheetNow 10 = .ok (.astore 4, 2) := by decide +kernel
theorem dX11_ofSheetNow_12 : decode cX11_ofSheetNow 12 = .ok (.iload_n 2, 1) := by decide +kernel
theorem dX11_ofSheetNow_13 : decode cX11_ofSheetNow 13 = .ok (.tableswitch 135 0 8 #[51, 56, 64, 69, 77, 95, 110, 115, 125], 51) := by decide +kernel
theorem dX11_ofSheetNow_64 : decode cX11_ofSheetNow 64 = .ok (.aload_n 3, 1) := by decide +kernel
theorem dX11_ofSheetNow_65 : decode cX11_ofSheetNow 65 = .ok (.getfield 122, 3) := by decide +kernel
theorem dX11_ofSheetNow_68 : decode cX11_ofSheetNow 68 = .ok (.ireturn, 1) := by decide +kernel
theorem dX11_ofSheetNow_69 : decode cX11_ofSheetNow 69 = .ok (.aload_n 3, 1) := by decide +kernel
theorem dX11_ofSheetNow_70 : decode cX11_ofSheetNow 70 = .ok (.getfield 54, 3) := by decide +kernel
theorem dX11_ofSheetNow_73 : decode cX11_ofSheetNow 73 = .ok (.invokevirtual 28, 3) := by decide +kernel
theorem dX11_ofSheetNow_76 : decode cX11_ofSheetNow 76 = .ok (.ireturn, 1) := by decide +kernel
theorem dX11_ofSheetNow_77 : decode cX11_ofSheetNow 77 = .ok (.aload_n 3, 1) := by decide +kernel
theorem dX11_ofSheetNow_78 : decode cX11_ofSheetNow 78 = .ok (.invokevirtual 125, 3) := by decide +kernel
theorem dX11_ofSheetNow_81 : decode cX11_ofSheetNow 81 = .ok (.ireturn, 1) := by decide +kernel
theorem dX11_ofSheetNow_82 : decode cX11_ofSheetNow 82 = .ok (.aload_n 3, 1) := by decide +kernel
theorem dX11_ofSheetNow_83 : decode cX11_ofSheetNow 83 = .ok (.invokevirtual 82, 3) := by decide +kernel
theorem dX11_ofSheetNow_86 : decode cX11_ofSheetNow 86 = .ok (.getfield 86, 3) := by decide +kernel
theorem dX11_ofSheetNow_89 : decode cX11_ofSheetNow 89 = .ok (.ireturn, 1) := by decide +kernel
theorem dX11_ofSheetNow_90 : decode cX11_ofSheetNow 90 = .ok (.aload 4, 2) := by decide +kernel
theorem dX11_ofSheetNow_92 : decode cX11_ofSheetNow 92 = .ok (.ifnonnull 7, 3) := by decide +kernel
theorem dX11_ofSheetNow_95 : decode cX11_ofSheetNow 95 = .ok (.iconst 0, 1) := by decide +kernel
theorem dX11_ofSheetNow_96 : decode cX11_ofSheetNow 96 = .ok (.goto 11, 3) := by decide +kernel
theorem dX11_ofSheetNow_99 : decode cX11_ofSheetNow 99 = .ok (.aload 4, 2) := by decide +kernel
theorem dX11_ofSheetNow_101 : decode cX11_ofSheetNow 101 = .ok (.getfield 89, 3) := by decide +kernel
theorem dX11_ofSheetNow_104 : decode cX11_ofSheetNow 104 = .ok (.invokevirtual 96, 3) := by decide +kernel
theorem dX11_ofSheetNow_107 : decode cX11_ofSheetNow 107 = .ok (.ireturn, 1) := by decide +kernel
theorem dX11_ofSheetNow_108 : decode cX11_ofSheetNow 108 = .ok (.aload 4, 2) := by decide +kernel
theorem dX11_ofSheetNow_110 : decode cX11_ofSheetNow 110 = .ok (.ifnonnull 7, 3) := by decide +kernel
theorem dX11_ofSheetNow_113 : decode cX11_ofSheetNow 113 = .ok (.iconst 0, 1) := by decide +kernel
theorem dX11_ofSheetNow_114 : decode cX11_ofSheetNow 114 = .ok (.goto 8, 3) := by decide +kernel
theorem dX11_ofSheetNow_117 : decode cX11_ofSheetNow 117 = .ok (.aload 4, 2) := by decide +kernel
theorem dX11_ofSheetNow_119 : decode cX11_ofSheetNow 119 = .ok (.getfield 93, 3) := by decide +kernel
theorem dX11_ofSheetNow_122 : decode cX11_ofSheetNow 122 = .ok (.ireturn, 1) := by decide +kernel
theorem dX11_ofSheetNow_123 : decode cX11_ofSheetNow 123 = .ok (.aload_n 3, 1) := by decide +kernel
theorem dX11_ofSheetNow_124 : decode cX11_ofSheetNow 124 = .ok (.getfield 99, 3) := by decide +kernel
theorem dX11_ofSheetNow_127 : decode cX11_ofSheetNow 127 = .ok (.ireturn, 1) := by decide +kernel
theorem dX11_ofSheetNow_128 : decode cX11_ofSheetNow 128 = .ok (.aload_n 0, 1) := by decide +kernel
theorem dX11_ofSheetNow_129 : decode cX11_ofSheetNow 129 = .ok (.getfield 10, 3) := by decide +kernel
theorem dX11_ofSheetNow_132 : decode cX11_ofSheetNow 132 = .ok (.iload_n 1, 1) := by decide +kernel
theorem dX11_ofSheetNow_133 : decode cX11_ofSheetNow 133 = .ok (.iconst 1, 1) := by decide +kernel
theorem dX11_ofSheetNow_134 : decode cX11_ofSheetNow 134 = .ok (.invokevirtual 105, 3) := by decide +kernel
theorem dX11_ofSheetNow_137 : decode cX11_ofSheetNow 137 = .ok (.ireturn, 1) := by decide +kernel
theorem dX11_ofSheetNow_138 : decode cX11_ofSheetNow 138 = .ok (.aload_n 0, 1) := by decide +kernel
theorem dX11_ofSheetNow_139 : decode cX11_ofSheetNow 139 = .ok (.getfield 10, 3) := by decide +kernel
theorem dX11_ofSheetNow_142 : decode cX11_ofSheetNow 142 = .ok (.iload_n 1, 1) := by decide +kernel
theorem dX11_ofSheetNow_143 : decode cX11_ofSheetNow 143 = .ok (.iconst 0, 1) := by decide +kernel
theorem dX11_ofSheetNow_144 : decode cX11_ofSheetNow 144 = .ok (.invokevirtual 105, 3) := by decide +kernel
theorem dX11_ofSheetNow_147 : decode cX11_ofSheetNow 147 = .ok (.ireturn, 1) := by decide +kernel
theorem dX11_ofSheetNow_148 : decode cX11_ofSheetNow 148 = .ok (.aload_n 0, 1) := by decide +kernel
theorem dX11_ofSheetNow_149 : decode cX11_ofSheetNow 149 = .ok (.getfield 10, 3) := by decide +kernel
theorem dX11_ofSheetNow_152 : decode cX11_ofSheetNow 152 = .ok (.iload_n 1, 1) := by decide +kernel
theorem dX11_ofSheetNow_153 : decode cX11_ofSheetNow 153 = .ok (.invokevirtual 128, 3) := by decide +kernel
theorem dX11_ofSheetNow_156 : decode cX11_ofSheetNow 156 = .ok (.ireturn, 1) := by decide +kernel
set_option maxRecDepth 20000 in
theorem ggX11_ofSheet_X11_isNoSheet : GoodIn wsX11_ofSheet wsX11_isNoSheet := goodIn_r _ [5, 6, 7, 8, 4, 9, 10, 11, 12, 13, 14, 15, 16, 17, 18, 19, 20, 21, 22, 23, 24, 25, 26, 27, 28, 29, 140, 141, 142, 143, 144, 145, 146, 147, 148, 149, 150, 151, 152, 153, 154] (by decide +kernel) (by decide +kernel)
set_option maxRecDepth 20000 in
theorem gX11_ofSheet_X11_isNoSheet : GoodIn wsX11_ofSheet (wsV RX11 71 RX11 yX11_isNoSheet wsX11_isNoSheet) := goodIn_app (goodIn_of _ (by decide +kernel)) ggX11_ofSheet_X11_isNoSheet
set_option maxRecDepth 20000 in
theorem ggX11_ofSheet_X11_isIn : GoodIn wsX11_ofSheet wsX11_isIn := goodIn_r _ [20] (by decide +kernel) (by decide +kernel)
set_option maxRecDepth 20000 in
theorem gX11_ofSheet_X11_isIn : GoodIn wsX11_ofSheet (va_wsS RX11 34 yX11_isIn wsX11_isIn) := goodIn_app (goodIn_of _ (by decide +kernel)) ggX11_ofSheet_X11_isIn
set_option maxRecDepth 20000 in
theorem ggX11_ofSheet_X11_refuse : GoodIn wsX11_ofSheet wsX11_refuse := goodIn_r _ [29, 25, 140, 141] (by decide +kernel) (by decide +kernel)
set_option maxRecDepth 20000 in
theorem gX11_ofSheet_X11_refuse : GoodIn wsX11_ofSheet (wsV RX11 20 RX11 yX11_refuse wsX11_refuse) := goodIn_app (goodIn_of _ (by decide +kernel)) ggX11_ofSheet_X11_refuse
set_option maxRecDepth 20000 in
theorem ggX11_ofSheet_X11_ofSheetNow : GoodIn wsX11_ofSheet wsX11_ofSheetNow := goodIn_r _ [33, 34, 35, 36, 37, 38, 39, 10, 40, 41, 42, 4, 43, 11, 44, 45, 46, 47, 15, 48, 17, 49, 50, 51, 52, 53, 54, 55, 56, 57, 58, 59, 60, 61, 62, 63, 64, 65, 66, 67, 68, 69, 70, 71, 72, 73, 74, 13, 14, 16, 75, 12, 76, 77, 78, 79, 80, 81, 82, 83, 84, 85, 86, 87, 88, 89, 90, 91, 92, 93, 94, 95, 96, 97, 98, 99, 100, 101, 102, 103, 104, 105, 106, 107, 108, 109, 110, 111, 112, 113, 114, 115, 116, 117, 118, 119, 120, 121, 122, 123, 124, 125, 126, 127, 128, 129, 130, 131, 132, 133, 134, 135, 136, 137, 138, 139, 155, 156, 157, 158, 159, 160, 140, 141, 142, 143, 144, 145, 146, 147, 148, 149, 150, 151, 152, 153, 154, 161, 162, 163, 164] (by decide +kernel) (by decide +kernel)
set_option maxRecDepth 20000 in
theorem gX11_ofSheet_X11_ofSheetNow : GoodIn wsX11_ofSheet (wsV RX11 131 RX11 yX11_ofSheetNow wsX11_ofSheetNow) := goodIn_app (goodIn_of _ (by decide +kernel)) ggX11_ofSheet_X11_ofSheetNow
theorem dX11_ofSheet_0 : decode cX11_ofSheet 0 = .ok (.aload_n 0, 1) := by decide +kernel
theorem dX11_ofSheet_1 : decode cX11_ofSheet 1 = .ok (.iload_n 1, 1) := by decide +kernel
theorem dX11_ofSheet_2 : decode cX11_ofSheet 2 = .ok (.invokevirtual 71, 3) := by decide +kernel
theorem dX11_ofSheet_5 : decode cX11_ofSheet 5 = .ok (.ifCond .ne 26, 3) := by decide +kernel
theorem dX11_ofSheet_8 : decode cX11_ofSheet 8 = .ok (.aload_n 0, 1) := by decide +kernel
theorem dX11_ofSheet_9 : decode cX11_ofSheet 9 = .ok (.iload_n 2, 1) := by decide +kernel
theorem dX11_ofSheet_10 : decode cX11_ofSheet 10 = .ok (.iconst 0, 1) := by decide +kernel
theorem dX11_ofSheet_11 : decode cX11_ofSheet 11 = .ok (.bipush 9, 2) := by decide +kernel
theorem dX11_ofSheet_13 : decode cX11_ofSheet 13 = .ok (.invokestatic 34, 3) := by decide +kernel
theorem dX11_ofSheet_16 : decode cX11_ofSheet 16 = .ok (.ifCond .ne 7, 3) := by decide +kernel
theorem dX11_ofSheet_19 : decode cX11_ofSheet 19 = .ok (.iconst 1, 1) := by decide +kernel
theorem dX11_ofSheet_20 : decode cX11_ofSheet 20 = .ok (.goto 4, 3) := by decide +kernel
theorem dX11_ofSheet_23 : decode cX11_ofSheet 23 = .ok (.iconst 0, 1) := by decide +kernel
theorem dX11_ofSheet_24 : decode cX11_ofSheet 24 = .ok (.iconst 2, 1) := by decide +kernel
theorem dX11_ofSheet_25 : decode cX11_ofSheet 25 = .ok (.invokevirtual 20, 3) := by decide +kernel
theorem dX11_ofSheet_28 : decode cX11_ofSheet 28 = .ok (.ifCond .eq 7, 3) := by decide +kernel
theorem dX11_ofSheet_31 : decode cX11_ofSheet 31 = .ok (.iconst 0, 1) := by decide +kernel
theorem dX11_ofSheet_32 : decode cX11_ofSheet 32 = .ok (.goto 9, 3) := by decide +kernel
theorem dX11_ofSheet_35 : decode cX11_ofSheet 35 = .ok (.aload_n 0, 1) := by decide +kernel
theorem dX11_ofSheet_36 : decode cX11_ofSheet 36 = .ok (.iload_n 1, 1) := by decide +kernel
theorem dX11_ofSheet_37 : decode cX11_ofSheet 37 = .ok (.iload_n 2, 1) := by decide +kernel
theorem dX11_ofSheet_38 : decode cX11_ofSheet 38 = .ok (.invokevirtual 131, 3) := by decide +kernel
theorem dX11_ofSheet_41 : decode cX11_ofSheet 41 = .ok (.ireturn, 1) := by decide +kernel
set_option maxRecDepth 20000 in
theorem ggX11_status_X11_isNoSheet : GoodIn wsX11_status wsX11_isNoSheet := goodIn_r _ [8, 9, 10, 11, 7, 12, 13, 14, 15, 16, 17, 18, 19, 20, 21, 22, 23, 24, 25, 26, 27, 28, 29, 30, 31, 32, 61, 62, 63, 64, 65, 66, 67, 68, 69, 70, 71, 72, 73, 74, 75] (by decide +kernel) (by decide +kernel)
set_option maxRecDepth 20000 in
theorem gX11_status_X11_isNoSheet : GoodIn wsX11_status (wsV RX11 71 RX11 yX11_isNoSheet wsX11_isNoSheet) := goodIn_app (goodIn_of _ (by decide +kernel)) ggX11_status_X11_isNoSheet
set_option maxRecDepth 20000 in
theorem ggX11_status_X11_of : GoodIn wsX11_status wsX11_of := goodIn_r _ [36, 13, 14, 37, 38, 39, 40, 18, 41, 20, 42, 43, 44, 45, 46, 47, 48, 49, 50, 51, 52, 53, 54, 61, 62, 63, 64, 65, 66, 67, 68, 69, 70, 71, 72, 73, 74, 75] (by decide +kernel) (by decide +kernel)
set_option maxRecDepth 20000 in
theorem gX11_status_X11_of : GoodIn wsX11_status (wsV RX11 78 RX11 yX11_of wsX11_of) := goodIn_app (goodIn_of _ (by decide +kernel)) ggX11_status_X11_of
set_option maxRecDepth 20000 in
theorem ggX11_status_Jx4a65c_size_8abf5 : GoodIn wsX11_status wsJx4a65c_size_8abf5 := goodIn_r _ [19, 20, 73, 74, 75] (by decide +kernel) (by decide +kernel)
set_option maxRecDepth 20000 in
theorem gX11_status_Jx4a65c_size_8abf5 : GoodIn wsX11_status (wsV RX11 28 RJx4a65c yJx4a65c_size_8abf5 wsJx4a65c_size_8abf5) := goodIn_app (goodIn_of _ (by decide +kernel)) ggX11_status_Jx4a65c_size_8abf5
set_option maxRecDepth 20000 in
theorem ggX11_status_X11_isIn : GoodIn wsX11_status wsX11_isIn := goodIn_r _ [23] (by decide +kernel) (by decide +kernel)
set_option maxRecDepth 20000 in
theorem gX11_status_X11_isIn : GoodIn wsX11_status (va_wsS RX11 34 yX11_isIn wsX11_isIn) := goodIn_app (goodIn_of _ (by decide +kernel)) ggX11_status_X11_isIn
set_option maxRecDepth 20000 in
theorem ggX11_status_X11_refuse : GoodIn wsX11_status wsX11_refuse := goodIn_r _ [32, 28, 61, 62] (by decide +kernel) (by decide +kernel)
set_option maxRecDepth 20000 in
theorem gX11_status_X11_refuse : GoodIn wsX11_status (wsV RX11 20 RX11 yX11_refuse wsX11_refuse) := goodIn_app (goodIn_of _ (by decide +kernel)) ggX11_status_X11_refuse
set_option maxRecDepth 20000 in
theorem ggX11_status_Jx4a65c_get_915e3 : GoodIn wsX11_status wsJx4a65c_get_915e3 := goodIn_r _ [41, 20, 42, 43, 44, 45, 46, 47, 48, 49, 50, 51, 52, 18, 53, 54, 73, 74, 75] (by decide +kernel) (by decide +kernel)
set_option maxRecDepth 20000 in
theorem gX11_status_Jx4a65c_get_915e3 : GoodIn wsX11_status (wsV RX11 45 RJx4a65c yJx4a65c_get_915e3 wsJx4a65c_get_915e3) := goodIn_app (goodIn_of _ (by decide +kernel)) ggX11_status_Jx4a65c_get_915e3
theorem dX11_status_0 : decode cX11_status 0 = .ok (.aload_n 0, 1) := by decide +kernel
theorem dX11_status_1 : decode cX11_status 1 = .ok (.iload_n 1, 1) := by decide +kernel
theorem dX11_status_2 : decode cX11_status 2 = .ok (.invokevirtual 71, 3) := by decide +kernel
theorem dX11_status_5 : decode cX11_status 5 = .ok (.ifCond .ne 37, 3) := by decide +kernel
theorem dX11_status_8 : decode cX11_status 8 = .ok (.aload_n 0, 1) := by decide +kernel
theorem dX11_status_9 : decode cX11_status 9 = .ok (.iload_n 2, 1) := by decide +kernel
theorem dX11_status_10 : decode cX11_status 10 = .ok (.iconst 0, 1) := by decide +kernel
theorem dX11_status_11 : decode cX11_status 11 = .ok (.aload_n 0, 1) := by decide +kernel
theorem dX11_status_12 : decode cX11_status 12 = .ok (.iload_n 1, 1) := by decide +kernel
theorem dX11_status_13 : decode cX11_status 13 = .ok (.invokevirtual 78, 3) := by decide +kernel
theorem dX11_status_16 : decode cX11_status 16 = .ok (.getfield 54, 3) := by decide +kernel
theorem dX11_status_19 : decode cX11_status 19 = .ok (.invokevirtual 28, 3) := by decide +kernel
theorem dX11_status_22 : decode cX11_status 22 = .ok (.iconst 1, 1) := by decide +kernel
theorem dX11_status_23 : decode cX11_status 23 = .ok (.isub, 1) := by decide +kernel
theorem dX11_status_24 : decode cX11_status 24 = .ok (.invokestatic 34, 3) := by decide +kernel
theorem dX11_status_27 : decode cX11_status 27 = .ok (.ifCond .ne 7, 3) := by decide +kernel
theorem dX11_status_30 : decode cX11_status 30 = .ok (.iconst 1, 1) := by decide +kernel
theorem dX11_status_31 : decode cX11_status 31 = .ok (.goto 4, 3) := by decide +kernel
theorem dX11_status_34 : decode cX11_status 34 = .ok (.iconst 0, 1) := by decide +kernel
theorem dX11_status_35 : decode cX11_status 35 = .ok (.iconst 1, 1) := by decide +kernel
theorem dX11_status_36 : decode cX11_status 36 = .ok (.invokevirtual 20, 3) := by decide +kernel
theorem dX11_status_39 : decode cX11_status 39 = .ok (.ifCond .eq 7, 3) := by decide +kernel
theorem dX11_status_42 : decode cX11_status 42 = .ok (.iconst 0, 1) := by decide +kernel
theorem dX11_status_43 : decode cX11_status 43 = .ok (.goto 21, 3) := by decide +kernel
theorem dX11_status_46 : decode cX11_status 46 = .ok (.aload_n 0, 1) := by decide +kernel
theorem dX11_status_47 : decode cX11_status 47 = .ok (.iload_n 1, 1) := by decide +kernel
theorem dX11_status_48 : decode cX11_status 48 = .ok (.invokevirtual 78, 3) := by decide +kernel
theorem dX11_status_51 : decode cX11_status 51 = .ok (.getfield 54, 3) := by decide +kernel
theorem dX11_status_54 : decode cX11_status 54 = .ok (.iload_n 2, 1) := by decide +kernel
theorem dX11_status_55 : decode cX11_status 55 = .ok (.invokevirtual 45, 3) := by decide +kernel
theorem dX11_status_58 : decode cX11_status 58 = .ok (.checkcast 57, 3) := by decide +kernel
theorem dX11_status_61 : decode cX11_status 61 = .ok (.getfield 86, 3) := by decide +kernel
theorem dX11_status_64 : decode cX11_status 64 = .ok (.ireturn, 1) := by decide +kernel
set_option maxRecDepth 20000 in
theorem ggX11_holds_Jx4a65c_size_8abf5 : GoodIn wsX11_holds wsJx4a65c_size_8abf5 := goodIn_r _ [7, 8, 75, 76, 77] (by decide +kernel) (by decide +kernel)
set_option maxRecDepth 20000 in
theorem gX11_holds_Jx4a65c_size_8abf5 : GoodIn wsX11_holds (wsV RX11 28 RJx4a65c yJx4a65c_size_8abf5 wsJx4a65c_size_8abf5) := goodIn_app (goodIn_of _ (by decide +kernel)) ggX11_holds_Jx4a65c_size_8abf5
set_option maxRecDepth 20000 in
theorem ggX11_holds_X11_isIn : GoodIn wsX11_holds wsX11_isIn := goodIn_r _ [12] (by decide +kernel) (by decide +kernel)
set_option maxRecDepth 20000 in
theorem gX11_holds_X11_isIn : GoodIn wsX11_holds (va_wsS RX11 34 yX11_isIn wsX11_isIn) := goodIn_app (goodIn_of _ (by decide +kernel)) ggX11_holds_X11_isIn
set_option maxRecDepth 20000 in
theorem ggX11_holds_X11_start : GoodIn wsX11_holds wsX11_start := goodIn_r _ [16, 17, 18, 19, 20, 11, 21, 63, 64] (by decide +kernel) (by decide +kernel)
set_option maxRecDepth 20000 in
theorem gX11_holds_X11_start : GoodIn wsX11_holds (wsV RX11 42 RX11 yX11_start wsX11_start) := goodIn_app (goodIn_of _ (by decide +kernel)) ggX11_holds_X11_start
set_option maxRecDepth 20000 in
theorem ggX11_holds_X6_holds : GoodIn wsX11_holds wsX6_holds := goodIn_r _ [26, 27, 28, 29, 30, 31, 32, 33, 34, 6, 35, 8, 36, 37, 38, 39, 40, 41, 42, 43, 44, 45, 46, 47, 48, 49, 50, 51, 52, 53, 54, 55, 56, 57, 58, 59, 60, 61, 4, 5, 7, 62, 65, 66, 67, 68, 69, 70, 71, 72, 73, 74, 78, 79, 80, 75, 76, 77, 81, 82, 83] (by decide +kernel) (by decide +kernel)
set_option maxRecDepth 20000 in
theorem gX11_holds_X6_holds : GoodIn wsX11_holds (wsV RX11 135 RX6 yX6_holds wsX6_holds) := goodIn_app (goodIn_of _ (by decide +kernel)) ggX11_holds_X6_holds
theorem dX11_holds_0 : decode cX11_holds 0 = .ok (.aload_n 0, 1) := by decide +kernel
theorem dX11_holds_1 : decode cX11_holds 1 = .ok (.iload_n 1, 1) := by decide +kernel
theorem dX11_holds_2 : decode cX11_holds 2 = .ok (.iconst 0, 1) := by decide +kernel
theorem dX11_holds_3 : decode cX11_holds 3 = .ok (.aload_n 0, 1) := by decide +kernel
theorem dX11_holds_4 : decode cX11_holds 4 = .ok (.getfield 10, 3) := by decide +kernel
theorem dX11_holds_7 : decode cX11_holds 7 = .ok (.getfield 116, 3) := by decide +kernel
theorem dX11_holds_10 : decode cX11_holds 10 = .ok (.invokevirtual 28, 3) := by decide +kernel
theorem dX11_holds_13 : decode cX11_holds 13 = .ok (.iconst 1, 1) := by decide +kernel
theorem dX11_holds_14 : decode cX11_holds 14 = .ok (.isub, 1) := by decide +kernel
theorem dX11_holds_15 : decode cX11_holds 15 = .ok (.invokestatic 34, 3) := by decide +kernel
theorem dX11_holds_18 : decode cX11_holds 18 = .ok (.ifCond .ne 7, 3) := by decide +kernel
theorem dX11_holds_21 : decode cX11_holds 21 = .ok (.iconst 1, 1) := by decide +kernel
theorem dX11_holds_22 : decode cX11_holds 22 = .ok (.goto 4, 3) := by decide +kernel
theorem dX11_holds_25 : decode cX11_holds 25 = .ok (.iconst 0, 1) := by decide +kernel
theorem dX11_holds_26 : decode cX11_holds 26 = .ok (.iconst 1, 1) := by decide +kernel
theorem dX11_holds_27 : decode cX11_holds 27 = .ok (.invokevirtual 42, 3) := by decide +kernel
theorem dX11_holds_30 : decode cX11_holds 30 = .ok (.ifCond .ne 18, 3) := by decide +kernel
theorem dX11_holds_33 : decode cX11_holds 33 = .ok (.aload_n 0, 1) := by decide +kernel
theorem dX11_holds_34 : decode cX11_holds 34 = .ok (.getfield 10, 3) := by decide +kernel
theorem dX11_holds_37 : decode cX11_holds 37 = .ok (.iload_n 1, 1) := by decide +kernel
theorem dX11_holds_38 : decode cX11_holds 38 = .ok (.invokevirtual 135, 3) := by decide +kernel
theorem dX11_holds_41 : decode cX11_holds 41 = .ok (.ifCond .eq 7, 3) := by decide +kernel
theorem dX11_holds_44 : decode cX11_holds 44 = .ok (.iconst 1, 1) := by decide +kernel
theorem dX11_holds_45 : decode cX11_holds 45 = .ok (.goto 4, 3) := by decide +kernel
theorem dX11_holds_48 : decode cX11_holds 48 = .ok (.iconst 0, 1) := by decide +kernel
theorem dX11_holds_49 : decode cX11_holds 49 = .ok (.ireturn, 1) := by decide +kernel
set_option maxRecDepth 20000 in
theorem ggX11_send_X11_isIn : GoodIn wsX11_send wsX11_isIn := goodIn_r _ [9] (by decide +kernel) (by decide +kernel)
set_option maxRecDepth 20000 in
theorem gX11_send_X11_isIn : GoodIn wsX11_send (va_wsS RX11 34 yX11_isIn wsX11_isIn) := goodIn_app (goodIn_of _ (by decide +kernel)) ggX11_send_X11_isIn
set_option maxRecDepth 20000 in
theorem ggX11_send_X11_isNoSet : GoodIn wsX11_send wsX11_isNoSet := goodIn_r _ [13, 2, 14, 15, 16, 17, 18, 19, 20, 115, 116, 117, 118, 119, 120, 121, 122, 123, 124, 125, 126, 127, 128, 129] (by decide +kernel) (by decide +kernel)
set_option maxRecDepth 20000 in
theorem gX11_send_X11_isNoSet : GoodIn wsX11_send (wsV RX11 138 RX11 yX11_isNoSet wsX11_isNoSet) := goodIn_app (goodIn_of _ (by decide +kernel)) ggX11_send_X11_isNoSet
set_option maxRecDepth 20000 in
theorem ggX11_send_X11_start : GoodIn wsX11_send wsX11_start := goodIn_r _ [24, 25, 26, 27, 28, 8, 29, 115, 116] (by decide +kernel) (by decide +kernel)
set_option maxRecDepth 20000 in
theorem gX11_send_X11_start : GoodIn wsX11_send (wsV RX11 42 RX11 yX11_start wsX11_start) := goodIn_app (goodIn_of _ (by decide +kernel)) ggX11_send_X11_start
set_option maxRecDepth 20000 in
theorem ggX11_send_X11_of : GoodIn wsX11_send wsX11_of := goodIn_r _ [33, 2, 14, 34, 35, 36, 37, 18, 38, 20, 39, 40, 41, 42, 43, 44, 45, 46, 47, 48, 49, 50, 51, 115, 116, 117, 118, 119, 120, 121, 122, 123, 124, 125, 126, 127, 128, 129] (by decide +kernel) (by decide +kernel)
set_option maxRecDepth 20000 in
theorem gX11_send_X11_of : GoodIn wsX11_send (wsV RX11 78 RX11 yX11_of wsX11_of) := goodIn_app (goodIn_of _ (by decide +kernel)) ggX11_send_X11_of
set_option maxRecDepth 20000 in
theorem ggX11_send_X10_issued : GoodIn wsX11_send wsX10_issued := goodIn_r _ [56, 57, 58, 59, 60, 16, 17, 18, 19, 20, 61, 36, 37, 38, 39, 40, 41, 42, 43, 44, 45, 46, 47, 48, 49, 50, 51, 130, 131, 132, 133, 134, 135, 127, 128, 129] (by decide +kernel) (by decide +kernel)
set_option maxRecDepth 20000 in
theorem gX11_send_X10_issued : GoodIn wsX11_send (wsV RX11 125 RX10 yX10_issued wsX10_issued) := goodIn_app (goodIn_of _ (by decide +kernel)) ggX11_send_X10_issued
set_option maxRecDepth 20000 in
theorem ggX11_send_Jx4a65c_size_8abf5 : GoodIn wsX11_send wsJx4a65c_size_8abf5 := goodIn_r _ [19, 20, 127, 128, 129] (by decide +kernel) (by decide +kernel)
set_option maxRecDepth 20000 in
theorem gX11_send_Jx4a65c_size_8abf5 : GoodIn wsX11_send (wsV RX11 28 RJx4a65c yJx4a65c_size_8abf5 wsJx4a65c_size_8abf5) := goodIn_app (goodIn_of _ (by decide +kernel)) ggX11_send_Jx4a65c_size_8abf5
set_option maxRecDepth 20000 in
theorem ggX11_send_X11_refuse : GoodIn wsX11_send wsX11_refuse := goodIn_r _ [29, 25, 115, 116] (by decide +kernel) (by decide +kernel)
set_option maxRecDepth 20000 in
theorem gX11_send_X11_refuse : GoodIn wsX11_send (wsV RX11 20 RX11 yX11_refuse wsX11_refuse) := goodIn_app (goodIn_of _ (by decide +kernel)) ggX11_send_X11_refuse
set_option maxRecDepth 20000 in
theorem ggX11_send_Jx4a65c_add_9ea2d : GoodIn wsX11_send wsJx4a65c_add_9ea2d := goodIn_r _ [65, 66, 67, 51, 20, 68, 69, 70, 18, 71, 72, 73, 74, 75, 76, 77, 78, 79, 80, 81, 82, 83, 84, 85, 86, 87, 88, 89, 90, 91, 92, 93, 94, 95, 96, 97, 98, 99, 100, 101, 102, 103, 104, 105, 106, 107, 108, 109, 110, 111, 112, 113, 114, 127, 128, 129] (by decide +kernel) (by decide +kernel)
set_option maxRecDepth 20000 in
theorem gX11_send_Jx4a65c_add_9ea2d : GoodIn wsX11_send (wsV RX11 67 RJx4a65c yJx4a65c_add_9ea2d wsJx4a65c_add_9ea2d) := goodIn_app (goodIn_of _ (by decide +kernel)) ggX11_send_Jx4a65c_add_9ea2d
theorem dX11_send_0 : decode cX11_send 0 = .ok (.aload_n 0, 1) := by decide +kernel
theorem dX11_send_1 : decode cX11_send 1 = .ok (.iload_n 1, 1) := by decide +kernel
theorem dX11_send_2 : decode cX11_send 2 = .ok (.iconst 1, 1) := by decide +kernel
theorem dX11_send_3 : decode cX11_send 3 = .ok (.bipush 15, 2) := by decide +kernel
theorem dX11_send_5 : decode cX11_send 5 = .ok (.invokestatic 34, 3) := by decide +kernel
theorem dX11_send_8 : decode cX11_send 8 = .ok (.ifCond .eq 11, 3) := by decide +kernel
theorem dX11_send_11 : decode cX11_send 11 = .ok (.aload_n 0, 1) := by decide +kernel
theorem dX11_send_12 : decode cX11_send 12 = .ok (.iload_n 2, 1) := by decide +kernel
theorem dX11_send_13 : decode cX11_send 13 = .ok (.invokevirtual 138, 3) := by decide +kernel
theorem dX11_send_16 : decode cX11_send 16 = .ok (.ifCond .eq 7, 3) := by decide +kernel
theorem dX11_send_19 : decode cX11_send 19 = .ok (.iconst 1, 1) := by decide +kernel
theorem dX11_send_20 : decode cX11_send 20 = .ok (.goto 4, 3) := by decide +kernel
theorem dX11_send_23 : decode cX11_send 23 = .ok (.iconst 0, 1) := by decide +kernel
theorem dX11_send_24 : decode cX11_send 24 = .ok (.iconst 1, 1) := by decide +kernel
theorem dX11_send_25 : decode cX11_send 25 = .ok (.invokevirtual 42, 3) := by decide +kernel
theorem dX11_send_28 : decode cX11_send 28 = .ok (.ifCond .eq 5, 3) := by decide +kernel
theorem dX11_send_31 : decode cX11_send 31 = .ok (.iconst 0, 1) := by decide +kernel
theorem dX11_send_32 : decode cX11_send 32 = .ok (.ireturn, 1) := by decide +kernel
theorem dX11_send_33 : decode cX11_send 33 = .ok (.bipush 10, 2) := by decide +kernel
theorem dX11_send_35 : decode cX11_send 35 = .ok (.newarray .int, 2) := by decide +kernel
theorem dX11_send_37 : decode cX11_send 37 = .ok (.astore_n 3, 1) := by decide +kernel
theorem dX11_send_38 : decode cX11_send 38 = .ok (.iconst 0, 1) := by decide +kernel
theorem dX11_send_39 : decode cX11_send 39 = .ok (.istore 4, 2) := by decide +kernel
theorem dX11_send_41 : decode cX11_send 41 = .ok (.iconst 0, 1) := by decide +kernel
theorem dX11_send_42 : decode cX11_send 42 = .ok (.istore 5, 2) := by decide +kernel
theorem dX11_send_44 : decode cX11_send 44 = .ok (.iload 5, 2) := by decide +kernel
theorem dX11_send_46 : decode cX11_send 46 = .ok (.bipush 10, 2) := by decide +kernel
theorem dX11_send_48 : decode cX11_send 48 = .ok (.if_icmp .ge 71, 3) := by decide +kernel
theorem dX11_send_51 : decode cX11_send 51 = .ok (.iload_n 2, 1) := by decide +kernel
theorem dX11_send_52 : decode cX11_send 52 = .ok (.iload 5, 2) := by decide +kernel
theorem dX11_send_54 : decode cX11_send 54 = .ok (.ishr, 1) := by decide +kernel
theorem dX11_send_55 : decode cX11_send 55 = .ok (.iconst 1, 1) := by decide +kernel
theorem dX11_send_56 : decode cX11_send 56 = .ok (.iand, 1) := by decide +kernel
theorem dX11_send_57 : decode cX11_send 57 = .ok (.iconst 1, 1) := by decide +kernel
theorem dX11_send_58 : decode cX11_send 58 = .ok (.if_icmp .ne 7, 3) := by decide +kernel
theorem dX11_send_61 : decode cX11_send 61 = .ok (.iconst 1, 1) := by decide +kernel
theorem dX11_send_62 : decode cX11_send 62 = .ok (.goto 4, 3) := by decide +kernel
theorem dX11_send_65 : decode cX11_send 65 = .ok (.iconst 0, 1) := by decide +kernel
theorem dX11_send_66 : decode cX11_send 66 = .ok (.istore 6, 2) := by decide +kernel
theorem dX11_send_68 : decode cX11_send 68 = .ok (.aload_n 3, 1) := by decide +kernel
theorem dX11_send_69 : decode cX11_send 69 = .ok (.iload 5, 2) := by decide +kernel
theorem dX11_send_71 : decode cX11_send 71 = .ok (.iload 6, 2) := by decide +kernel
theorem dX11_send_73 : decode cX11_send 73 = .ok (.ifCond .eq 15, 3) := by decide +kernel
theorem dX11_send_76 : decode cX11_send 76 = .ok (.aload_n 0, 1) := by decide +kernel
theorem dX11_send_77 : decode cX11_send 77 = .ok (.iload 5, 2) := by decide +kernel
theorem dX11_send_79 : decode cX11_send 79 = .ok (.invokevirtual 78, 3) := by decide +kernel
theorem dX11_send_82 : decode cX11_send 82 = .ok (.invokevirtual 125, 3) := by decide +kernel
theorem dX11_send_85 : decode cX11_send 85 = .ok (.goto 4, 3) := by decide +kernel
theorem dX11_send_88 : decode cX11_send 88 = .ok (.iconst (-1), 1) := by decide +kernel
theorem dX11_send_89 : decode cX11_send 89 = .ok (.iastore, 1) := by decide +kernel
theorem dX11_send_90 : decode cX11_send 90 = .ok (.iload 4, 2) := by decide +kernel
theorem dX11_send_92 : decode cX11_send 92 = .ok (.iload 6, 2) := by decide +kernel
theorem dX11_send_94 : decode cX11_send 94 = .ok (.ifCond .eq 15, 3) := by decide +kernel
theorem dX11_send_97 : decode cX11_send 97 = .ok (.aload_n 3, 1) := by decide +kernel
theorem dX11_send_98 : decode cX11_send 98 = .ok (.iload 5, 2) := by decide +kernel
theorem dX11_send_100 : decode cX11_send 100 = .ok (.iaload, 1) := by decide +kernel
theorem dX11_send_101 : decode cX11_send 101 = .ok (.iconst (-1), 1) := by decide +kernel
theorem dX11_send_102 : decode cX11_send 102 = .ok (.if_icmp .ne 7, 3) := by decide +kernel
theorem dX11_send_105 : decode cX11_send 105 = .ok (.iconst 1, 1) := by decide +kernel
theorem dX11_send_106 : decode cX11_send 106 = .ok (.goto 4, 3) := by decide +kernel
theorem dX11_send_109 : decode cX11_send 109 = .ok (.iconst 0, 1) := by decide +kernel
theorem dX11_send_110 : decode cX11_send 110 = .ok (.ior, 1) := by decide +kernel
theorem dX11_send_111 : decode cX11_send 111 = .ok (.istore 4, 2) := by decide +kernel
theorem dX11_send_113 : decode cX11_send 113 = .ok (.iinc 5 1, 3) := by decide +kernel
theorem dX11_send_116 : decode cX11_send 116 = .ok (.goto (-72), 3) := by decide +kernel
theorem dX11_send_119 : decode cX11_send 119 = .ok (.aload_n 0, 1) := by decide +kernel
theorem dX11_send_120 : decode cX11_send 120 = .ok (.iload 4, 2) := by decide +kernel
theorem dX11_send_122 : decode cX11_send 122 = .ok (.ifCond .ne 18, 3) := by decide +kernel
theorem dX11_send_125 : decode cX11_send 125 = .ok (.aload_n 0, 1) := by decide +kernel
theorem dX11_send_126 : decode cX11_send 126 = .ok (.getfield 10, 3) := by decide +kernel
theorem dX11_send_129 : decode cX11_send 129 = .ok (.getfield 141, 3) := by decide +kernel
theorem dX11_send_132 : decode cX11_send 132 = .ok (.invokevirtual 28, 3) := by decide +kernel
theorem dX11_send_135 : decode cX11_send 135 = .ok (.bipush 20, 2) := by decide +kernel
theorem dX11_send_137 : decode cX11_send 137 = .ok (.if_icmp .ne 7, 3) := by decide +kernel
theorem dX11_send_140 : decode cX11_send 140 = .ok (.iconst 1, 1) := by decide +kernel
theorem dX11_send_141 : decode cX11_send 141 = .ok (.goto 4, 3) := by decide +kernel
theorem dX11_send_144 : decode cX11_send 144 = .ok (.iconst 0, 1) := by decide +kernel
theorem dX11_send_145 : decode cX11_send 145 = .ok (.iconst 2, 1) := by decide +kernel
theorem dX11_send_146 : decode cX11_send 146 = .ok (.invokevirtual 20, 3) := by decide +kernel
theorem dX11_send_149 : decode cX11_send 149 = .ok (.ifCond .eq 5, 3) := by decide +kernel
theorem dX11_send_152 : decode cX11_send 152 = .ok (.iconst 0, 1) := by decide +kernel
theorem dX11_send_153 : decode cX11_send 153 = .ok (.ireturn, 1) := by decide +kernel
theorem dX11_send_154 : decode cX11_send 154 = .ok (.aload_n 0, 1) := by decide +kernel
theorem dX11_send_155 : decode cX11_send 155 = .ok (.getfield 10, 3) := by decide +kernel
theorem dX11_send_158 : decode cX11_send 158 = .ok (.getfield 144, 3) := by decide +kernel
theorem dX11_send_161 : decode cX11_send 161 = .ok (.aload_n 3, 1) := by decide +kernel
theorem dX11_send_162 : decode cX11_send 162 = .ok (.invokevirtual 67, 3) := by decide +kernel
theorem dX11_send_165 : decode cX11_send 165 = .ok (.pop, 1) := by decide +kernel
theorem dX11_send_166 : decode cX11_send 166 = .ok (.aload_n 0, 1) := by decide +kernel
theorem dX11_send_167 : decode cX11_send 167 = .ok (.getfield 10, 3) := by decide +kernel
theorem dX11_send_170 : decode cX11_send 170 = .ok (.getfield 141, 3) := by decide +kernel
theorem dX11_send_173 : decode cX11_send 173 = .ok (.iconst 3, 1) := by decide +kernel
theorem dX11_send_174 : decode cX11_send 174 = .ok (.newarray .int, 2) := by decide +kernel
theorem dX11_send_176 : decode cX11_send 176 = .ok (.dup, 1) := by decide +kernel
theorem dX11_send_177 : decode cX11_send 177 = .ok (.iconst 0, 1) := by decide +kernel
theorem dX11_send_178 : decode cX11_send 178 = .ok (.aload_n 0, 1) := by decide +kernel
theorem dX11_send_179 : decode cX11_send 179 = .ok (.getfield 10, 3) := by decide +kernel
theorem dX11_send_182 : decode cX11_send 182 = .ok (.getfield 147, 3) := by decide +kernel
theorem dX11_send_185 : decode cX11_send 185 = .ok (.iastore, 1) := by decide +kernel
theorem dX11_send_186 : decode cX11_send 186 = .ok (.dup, 1) := by decide +kernel
theorem dX11_send_187 : decode cX11_send 187 = .ok (.iconst 1, 1) := by decide +kernel
theorem dX11_send_188 : decode cX11_send 188 = .ok (.iload_n 1, 1) := by decide +kernel
theorem dX11_send_189 : decode cX11_send 189 = .ok (.iastore, 1) := by decide +kernel
theorem dX11_send_190 : decode cX11_send 190 = .ok (.dup, 1) := by decide +kernel
theorem dX11_send_191 : decode cX11_send 191 = .ok (.iconst 2, 1) := by decide +kernel
theorem dX11_send_192 : decode cX11_send 192 = .ok (.iconst 0, 1) := by decide +kernel
theorem dX11_send_193 : decode cX11_send 193 = .ok (.iastore, 1) := by decide +kernel
theorem dX11_send_194 : decode cX11_send 194 = .ok (.invokevirtual 67, 3) := by decide +kernel
theorem dX11_send_197 : decode cX11_send 197 = .ok (.pop, 1) := by decide +kernel
theorem dX11_send_198 : decode cX11_send 198 = .ok (.aload_n 0, 1) := by decide +kernel
theorem dX11_send_199 : decode cX11_send 199 = .ok (.getfield 10, 3) := by decide +kernel
theorem dX11_send_202 : decode cX11_send 202 = .ok (.getfield 141, 3) := by decide +kernel
theorem dX11_send_205 : decode cX11_send 205 = .ok (.invokevirtual 28, 3) := by decide +kernel
theorem dX11_send_208 : decode cX11_send 208 = .ok (.iconst 1, 1) := by decide +kernel
theorem dX11_send_209 : decode cX11_send 209 = .ok (.isub, 1) := by decide +kernel
theorem dX11_send_210 : decode cX11_send 210 = .ok (.ireturn, 1) := by decide +kernel
set_option maxRecDepth 20000 in
theorem ggX11_isNoCrew_X11_isIn : GoodIn wsX11_isNoCrew wsX11_isIn := goodIn_r _ [4] (by decide +kernel) (by decide +kernel)
set_option maxRecDepth 20000 in
theorem gX11_isNoCrew_X11_isIn : GoodIn wsX11_isNoCrew (va_wsS RX11 34 yX11_isIn wsX11_isIn) := goodIn_app (goodIn_of _ (by decide +kernel)) ggX11_isNoCrew_X11_isIn
theorem dX11_isNoCrew_0 : decode cX11_isNoCrew 0 = .ok (.iload_n 0, 1) := by decide +kernel
theorem dX11_isNoCrew_1 : decode cX11_isNoCrew 1 = .ok (.iconst 0, 1) := by decide +kernel
theorem dX11_isNoCrew_2 : decode cX11_isNoCrew 2 = .ok (.iconst 3, 1) := by decide +kernel
theorem dX11_isNoCrew_3 : decode cX11_isNoCrew 3 = .ok (.invokestatic 34, 3) := by decide +kernel
theorem dX11_isNoCrew_6 : decode cX11_isNoCrew 6 = .ok (.ifCond .ne 7, 3) := by decide +kernel
theorem dX11_isNoCrew_9 : decode cX11_isNoCrew 9 = .ok (.iconst 1, 1) := by decide +kernel
theorem dX11_isNoCrew_10 : decode cX11_isNoCrew 10 = .ok (.goto 4, 3) := by decide +kernel
theorem dX11_isNoCrew_13 : decode cX11_isNoCrew 13 = .ok (.iconst 0, 1) := by decide +kernel
theorem dX11_isNoCrew_14 : decode cX11_isNoCrew 14 = .ok (.ireturn, 1) := by decide +kernel
set_option maxRecDepth 20000 in
theorem ggX11_receive_Jx4a65c_size_8abf5 : GoodIn wsX11_receive wsJx4a65c_size_8abf5 := goodIn_r _ [7, 8, 170, 171, 172] (by decide +kernel) (by decide +kernel)
set_option maxRecDepth 20000 in
theorem gX11_receive_Jx4a65c_size_8abf5 : GoodIn wsX11_receive (wsV RX11 28 RJx4a65c yJx4a65c_size_8abf5 wsJx4a65c_size_8abf5) := goodIn_app (goodIn_of _ (by decide +kernel)) ggX11_receive_Jx4a65c_size_8abf5
set_option maxRecDepth 20000 in
theorem ggX11_receive_X11_isIn : GoodIn wsX11_receive wsX11_isIn := goodIn_r _ [12] (by decide +kernel) (by decide +kernel)
set_option maxRecDepth 20000 in
theorem gX11_receive_X11_isIn : GoodIn wsX11_receive (va_wsS RX11 34 yX11_isIn wsX11_isIn) := goodIn_app (goodIn_of _ (by decide +kernel)) ggX11_receive_X11_isIn
set_option maxRecDepth 20000 in
theorem ggX11_receive_X11_isNoCrew : GoodIn wsX11_receive wsX11_isNoCrew := goodIn_r _ [15, 9, 10, 11, 12] (by decide +kernel) (by decide +kernel)
set_option maxRecDepth 20000 in
theorem gX11_receive_X11_isNoCrew : GoodIn wsX11_receive (va_wsS RX11 150 yX11_isNoCrew wsX11_isNoCrew) := goodIn_app (goodIn_of _ (by decide +kernel)) ggX11_receive_X11_isNoCrew
set_option maxRecDepth 20000 in
theorem ggX11_receive_X11_start : GoodIn wsX11_receive wsX11_start := goodIn_r _ [19, 20, 21, 22, 23, 11, 24, 158, 159] (by decide +kernel) (by decide +kernel)
set_option maxRecDepth 20000 in
theorem gX11_receive_X11_start : GoodIn wsX11_receive (wsV RX11 42 RX11 yX11_start wsX11_start) := goodIn_app (goodIn_of _ (by decide +kernel)) ggX11_receive_X11_start
set_option maxRecDepth 20000 in
theorem ggX11_receive_X6_isFor : GoodIn wsX11_receive wsX6_isFor := goodIn_r _ [29, 30, 31, 32, 33, 34, 6, 35, 8, 36, 37, 38, 39, 40, 41, 42, 43, 44, 45, 46, 47, 48, 160, 161, 162, 163, 164, 165, 166, 167, 168, 169, 170, 171, 172] (by decide +kernel) (by decide +kernel)
set_option maxRecDepth 20000 in
theorem gX11_receive_X6_isFor : GoodIn wsX11_receive (wsV RX11 153 RX6 yX6_isFor wsX6_isFor) := goodIn_app (goodIn_of _ (by decide +kernel)) ggX11_receive_X6_isFor
set_option maxRecDepth 20000 in
theorem ggX11_receive_X11_refuse : GoodIn wsX11_receive wsX11_refuse := goodIn_r _ [24, 20, 158, 159] (by decide +kernel) (by decide +kernel)
set_option maxRecDepth 20000 in
theorem gX11_receive_X11_refuse : GoodIn wsX11_receive (wsV RX11 20 RX11 yX11_refuse wsX11_refuse) := goodIn_app (goodIn_of _ (by decide +kernel)) ggX11_receive_X11_refuse
set_option maxRecDepth 20000 in
theorem ggX11_receive_X6_receive : GoodIn wsX11_receive wsX6_receive := goodIn_r _ [52, 30, 31, 53, 54, 32, 33, 34, 6, 35, 8, 36, 37, 38, 39, 40, 41, 42, 43, 44, 45, 46, 47, 48, 55, 56, 57, 28, 58, 59, 60, 61, 62, 63, 4, 5, 7, 64, 65, 66, 67, 68, 69, 70, 71, 72, 73, 74, 75, 76, 77, 78, 79, 80, 81, 82, 83, 84, 85, 86, 87, 88, 89, 90, 91, 92, 93, 94, 95, 96, 97, 98, 99, 100, 101, 102, 103, 104, 105, 106, 107, 108, 109, 110, 111, 112, 113, 114, 115, 116, 117, 118, 119, 120, 121, 122, 123, 124, 125, 126, 127, 128, 129, 130, 131, 132, 133, 134, 135, 136, 137, 138, 139, 140, 141, 142, 143, 144, 145, 146, 147, 148, 149, 150, 151, 152, 153, 154, 155, 156, 157, 160, 161, 162, 163, 164, 165, 166, 167, 168, 169, 170, 171, 172, 173, 174, 175, 176, 177, 178, 179, 180, 181, 182, 183, 184, 185, 186, 187, 188] (by decide +kernel) (by decide +kernel)
set_option maxRecDepth 20000 in
theorem gX11_receive_X6_receive : GoodIn wsX11_receive (wsV RX11 157 RX6 yX6_receive wsX6_receive) := goodIn_app (goodIn_of _ (by decide +kernel)) ggX11_receive_X6_receive
theorem dX11_receive_0 : decode cX11_receive 0 = .ok (.aload_n 0, 1) := by decide +kernel
theorem dX11_receive_1 : decode cX11_receive 1 = .ok (.iload_n 1, 1) := by decide +kernel
theorem dX11_receive_2 : decode cX11_receive 2 = .ok (.iconst 0, 1) := by decide +kernel
theorem dX11_receive_3 : decode cX11_receive 3 = .ok (.aload_n 0, 1) := by decide +kernel
theorem dX11_receive_4 : decode cX11_receive 4 = .ok (.getfield 10, 3) := by decide +kernel
theorem dX11_receive_7 : decode cX11_receive 7 = .ok (.getfield 141, 3) := by decide +kernel
theorem dX11_receive_10 : decode cX11_receive 10 = .ok (.invokevirtual 28, 3) := by decide +kernel
theorem dX11_receive_13 : decode cX11_receive 13 = .ok (.iconst 1, 1) := by decide +kernel
theorem dX11_receive_14 : decode cX11_receive 14 = .ok (.isub, 1) := by decide +kernel
theorem dX11_receive_15 : decode cX11_receive 15 = .ok (.invokestatic 34, 3) := by decide +kernel
theorem dX11_receive_18 : decode cX11_receive 18 = .ok (.ifCond .eq 10, 3) := by decide +kernel
theorem dX11_receive_21 : decode cX11_receive 21 = .ok (.iload_n 2, 1) := by decide +kernel
theorem dX11_receive_22 : decode cX11_receive 22 = .ok (.invokestatic 150, 3) := by decide +kernel
theorem dX11_receive_25 : decode cX11_receive 25 = .ok (.ifCond .eq 7, 3) := by decide +kernel
theorem dX11_receive_28 : decode cX11_receive 28 = .ok (.iconst 1, 1) := by decide +kernel
theorem dX11_receive_29 : decode cX11_receive 29 = .ok (.goto 4, 3) := by decide +kernel
theorem dX11_receive_32 : decode cX11_receive 32 = .ok (.iconst 0, 1) := by decide +kernel
theorem dX11_receive_33 : decode cX11_receive 33 = .ok (.iconst 1, 1) := by decide +kernel
theorem dX11_receive_34 : decode cX11_receive 34 = .ok (.invokevirtual 42, 3) := by decide +kernel
theorem dX11_receive_37 : decode cX11_receive 37 = .ok (.ifCond .ne 28, 3) := by decide +kernel
theorem dX11_receive_40 : decode cX11_receive 40 = .ok (.aload_n 0, 1) := by decide +kernel
theorem dX11_receive_41 : decode cX11_receive 41 = .ok (.aload_n 0, 1) := by decide +kernel
theorem dX11_receive_42 : decode cX11_receive 42 = .ok (.getfield 10, 3) := by decide +kernel
theorem dX11_receive_45 : decode cX11_receive 45 = .ok (.iload_n 1, 1) := by decide +kernel
theorem dX11_receive_46 : decode cX11_receive 46 = .ok (.iload_n 2, 1) := by decide +kernel
theorem dX11_receive_47 : decode cX11_receive 47 = .ok (.invokevirtual 153, 3) := by decide +kernel
theorem dX11_receive_50 : decode cX11_receive 50 = .ok (.ifCond .ne 7, 3) := by decide +kernel
theorem dX11_receive_53 : decode cX11_receive 53 = .ok (.iconst 1, 1) := by decide +kernel
theorem dX11_receive_54 : decode cX11_receive 54 = .ok (.goto 4, 3) := by decide +kernel
theorem dX11_receive_57 : decode cX11_receive 57 = .ok (.iconst 0, 1) := by decide +kernel
theorem dX11_receive_58 : decode cX11_receive 58 = .ok (.iconst 2, 1) := by decide +kernel
theorem dX11_receive_59 : decode cX11_receive 59 = .ok (.invokevirtual 20, 3) := by decide +kernel
theorem dX11_receive_62 : decode cX11_receive 62 = .ok (.ifCond .eq 5, 3) := by decide +kernel
theorem dX11_receive_65 : decode cX11_receive 65 = .ok (.iconst 0, 1) := by decide +kernel
theorem dX11_receive_66 : decode cX11_receive 66 = .ok (.ireturn, 1) := by decide +kernel
theorem dX11_receive_67 : decode cX11_receive 67 = .ok (.aload_n 0, 1) := by decide +kernel
theorem dX11_receive_68 : decode cX11_receive 68 = .ok (.getfield 10, 3) := by decide +kernel
theorem dX11_receive_71 : decode cX11_receive 71 = .ok (.iload_n 1, 1) := by decide +kernel
theorem dX11_receive_72 : decode cX11_receive 72 = .ok (.iload_n 2, 1) := by decide +kernel
theorem dX11_receive_73 : decode cX11_receive 73 = .ok (.invokevirtual 157, 3) := by decide +kernel
theorem dX11_receive_76 : decode cX11_receive 76 = .ok (.ireturn, 1) := by decide +kernel
set_option maxRecDepth 20000 in
theorem ggX11_has_X11_isNoCrew : GoodIn wsX11_has wsX11_isNoCrew := goodIn_r _ [6, 7, 8, 5, 9] (by decide +kernel) (by decide +kernel)
set_option maxRecDepth 20000 in
theorem gX11_has_X11_isNoCrew : GoodIn wsX11_has (va_wsS RX11 150 yX11_isNoCrew wsX11_isNoCrew) := goodIn_app (goodIn_of _ (by decide +kernel)) ggX11_has_X11_isNoCrew
set_option maxRecDepth 20000 in
theorem ggX11_has_X11_isNo : GoodIn wsX11_has wsX11_isNo := goodIn_r _ [13, 1, 14, 15, 16, 17, 18, 19, 20, 7, 8, 5, 9, 30, 31, 32, 33, 34, 35, 36, 37, 38, 39, 40, 41, 42, 43, 44] (by decide +kernel) (by decide +kernel)
set_option maxRecDepth 20000 in
theorem gX11_has_X11_isNo : GoodIn wsX11_has (wsV RX11 38 RX11 yX11_isNo wsX11_isNo) := goodIn_app (goodIn_of _ (by decide +kernel)) ggX11_has_X11_isNo
set_option maxRecDepth 20000 in
theorem ggX11_has_X11_start : GoodIn wsX11_has wsX11_start := goodIn_r _ [24, 25, 26, 27, 28, 5, 29, 30, 31] (by decide +kernel) (by decide +kernel)
set_option maxRecDepth 20000 in
theorem gX11_has_X11_start : GoodIn wsX11_has (wsV RX11 42 RX11 yX11_start wsX11_start) := goodIn_app (goodIn_of _ (by decide +kernel)) ggX11_has_X11_start
theorem dX11_has_0 : decode cX11_has 0 = .ok (.aload_n 0, 1) := by decide +kernel
theorem dX11_has_1 : decode cX11_has 1 = .ok (.iload_n 1, 1) := by decide +kernel
theorem dX11_has_2 : decode cX11_has 2 = .ok (.invokestatic 150, 3) := by decide +kernel
theorem dX11_has_5 : decode cX11_has 5 = .ok (.ifCond .ne 11, 3) := by decide +kernel
theorem dX11_has_8 : decode cX11_has 8 = .ok (.aload_n 0, 1) := by decide +kernel
theorem dX11_has_9 : decode cX11_has 9 = .ok (.iload_n 2, 1) := by decide +kernel
theorem dX11_has_10 : decode cX11_has 10 = .ok (.invokevirtual 38, 3) := by decide +kernel
theorem dX11_has_13 : decode cX11_has 13 = .ok (.ifCond .eq 7, 3) := by decide +kernel
theorem dX11_has_16 : decode cX11_has 16 = .ok (.iconst 1, 1) := by decide +kernel
theorem dX11_has_17 : decode cX11_has 17 = .ok (.goto 4, 3) := by decide +kernel
theorem dX11_has_20 : decode cX11_has 20 = .ok (.iconst 0, 1) := by decide +kernel
theorem dX11_has_21 : decode cX11_has 21 = .ok (.iconst 1, 1) := by decide +kernel
theorem dX11_has_22 : decode cX11_has 22 = .ok (.invokevirtual 42, 3) := by decide +kernel
theorem dX11_has_25 : decode cX11_has 25 = .ok (.ifCond .eq 7, 3) := by decide +kernel
theorem dX11_has_28 : decode cX11_has 28 = .ok (.iconst 0, 1) := by decide +kernel
theorem dX11_has_29 : decode cX11_has 29 = .ok (.goto 14, 3) := by decide +kernel
theorem dX11_has_32 : decode cX11_has 32 = .ok (.aload_n 0, 1) := by decide +kernel
theorem dX11_has_33 : decode cX11_has 33 = .ok (.getfield 10, 3) := by decide +kernel
theorem dX11_has_36 : decode cX11_has 36 = .ok (.getfield 160, 3) := by decide +kernel
theorem dX11_has_39 : decode cX11_has 39 = .ok (.iload_n 1, 1) := by decide +kernel
theorem dX11_has_40 : decode cX11_has 40 = .ok (.aaload, 1) := by decide +kernel
theorem dX11_has_41 : decode cX11_has 41 = .ok (.iload_n 2, 1) := by decide +kernel
theorem dX11_has_42 : decode cX11_has 42 = .ok (.iaload, 1) := by decide +kernel
theorem dX11_has_43 : decode cX11_has 43 = .ok (.ireturn, 1) := by decide +kernel
set_option maxRecDepth 20000 in
theorem ggX11_owes_X11_isNoCrew : GoodIn wsX11_owes wsX11_isNoCrew := goodIn_r _ [5, 6, 7, 4, 8] (by decide +kernel) (by decide +kernel)
set_option maxRecDepth 20000 in
theorem gX11_owes_X11_isNoCrew : GoodIn wsX11_owes (va_wsS RX11 150 yX11_isNoCrew wsX11_isNoCrew) := goodIn_app (goodIn_of _ (by decide +kernel)) ggX11_owes_X11_isNoCrew
set_option maxRecDepth 20000 in
theorem ggX11_owes_X11_start : GoodIn wsX11_owes wsX11_start := goodIn_r _ [12, 13, 14, 15, 16, 4, 17, 53, 54] (by decide +kernel) (by decide +kernel)
set_option maxRecDepth 20000 in
theorem gX11_owes_X11_start : GoodIn wsX11_owes (wsV RX11 42 RX11 yX11_start wsX11_start) := goodIn_app (goodIn_of _ (by decide +kernel)) ggX11_owes_X11_start
set_option maxRecDepth 20000 in
theorem ggX11_owes_X6_owes : GoodIn wsX11_owes wsX6_owes := goodIn_r _ [22, 23, 24, 25, 26, 27, 28, 29, 30, 31, 32, 33, 34, 21, 35, 36, 37, 38, 39, 40, 41, 42, 43, 44, 45, 46, 47, 48, 49, 50, 51, 52, 55, 56, 57, 58, 59, 60, 61, 62, 63, 64, 65, 66, 67] (by decide +kernel) (by decide +kernel)
set_option maxRecDepth 20000 in
theorem gX11_owes_X6_owes : GoodIn wsX11_owes (wsV RX11 164 RX6 yX6_owes wsX6_owes) := goodIn_app (goodIn_of _ (by decide +kernel)) ggX11_owes_X6_owes
theorem dX11_owes_0 : decode cX11_owes 0 = .ok (.aload_n 0, 1) := by decide +kernel
theorem dX11_owes_1 : decode cX11_owes 1 = .ok (.iload_n 1, 1) := by decide +kernel
theorem dX11_owes_2 : decode cX11_owes 2 = .ok (.invokestatic 150, 3) := by decide +kernel
theorem dX11_owes_5 : decode cX11_owes 5 = .ok (.iconst 1, 1) := by decide +kernel
theorem dX11_owes_6 : decode cX11_owes 6 = .ok (.invokevirtual 42, 3) := by decide +kernel
theorem dX11_owes_9 : decode cX11_owes 9 = .ok (.ifCond .eq 7, 3) := by decide +kernel
theorem dX11_owes_12 : decode cX11_owes 12 = .ok (.iconst 0, 1) := by decide +kernel
theorem dX11_owes_13 : decode cX11_owes 13 = .ok (.goto 11, 3) := by decide +kernel
theorem dX11_owes_16 : decode cX11_owes 16 = .ok (.aload_n 0, 1) := by decide +kernel
theorem dX11_owes_17 : decode cX11_owes 17 = .ok (.getfield 10, 3) := by decide +kernel
theorem dX11_owes_20 : decode cX11_owes 20 = .ok (.iload_n 1, 1) := by decide +kernel
theorem dX11_owes_21 : decode cX11_owes 21 = .ok (.invokevirtual 164, 3) := by decide +kernel
theorem dX11_owes_24 : decode cX11_owes 24 = .ok (.ireturn, 1) := by decide +kernel
set_option maxRecDepth 20000 in
theorem ggX11_query_X11_isNoSheet : GoodIn wsX11_query wsX11_isNoSheet := goodIn_r _ [12, 13, 14, 15, 11, 16, 1, 17, 18, 19, 20, 21, 22, 23, 24, 25, 26, 27, 28, 29, 30, 31, 32, 33, 34, 35, 216, 217, 218, 219, 220, 221, 222, 223, 224, 225, 226, 227, 232, 233, 234] (by decide +kernel) (by decide +kernel)
set_option maxRecDepth 20000 in
theorem gX11_query_X11_isNoSheet : GoodIn wsX11_query (wsV RX11 71 RX11 yX11_isNoSheet wsX11_isNoSheet) := goodIn_app (goodIn_of _ (by decide +kernel)) ggX11_query_X11_isNoSheet
set_option maxRecDepth 20000 in
theorem ggX11_query_X8_isNone : GoodIn wsX11_query wsX8_isNone := goodIn_r _ [38] (by decide +kernel) (by decide +kernel)
set_option maxRecDepth 20000 in
theorem gX11_query_X8_isNone : GoodIn wsX11_query (va_wsS RX11 74 yX8_isNone wsX8_isNone) := goodIn_app (goodIn_of _ (by decide +kernel)) ggX11_query_X8_isNone
set_option maxRecDepth 20000 in
theorem ggX11_query_X11_refuse : GoodIn wsX11_query wsX11_refuse := goodIn_r _ [35, 31, 216, 217] (by decide +kernel) (by decide +kernel)
set_option maxRecDepth 20000 in
theorem gX11_query_X11_refuse : GoodIn wsX11_query (wsV RX11 20 RX11 yX11_refuse wsX11_refuse) := goodIn_app (goodIn_of _ (by decide +kernel)) ggX11_query_X11_refuse
set_option maxRecDepth 20000 in
theorem ggX11_query_Jx4a65c_size_8abf5 : GoodIn wsX11_query wsJx4a65c_size_8abf5 := goodIn_r _ [22, 23, 232, 233, 234] (by decide +kernel) (by decide +kernel)
set_option maxRecDepth 20000 in
theorem gX11_query_Jx4a65c_size_8abf5 : GoodIn wsX11_query (wsV RX11 28 RJx4a65c yJx4a65c_size_8abf5 wsJx4a65c_size_8abf5) := goodIn_app (goodIn_of _ (by decide +kernel)) ggX11_query_Jx4a65c_size_8abf5
set_option maxRecDepth 20000 in
theorem ggX11_query_X11_of : GoodIn wsX11_query wsX11_of := goodIn_r _ [42, 1, 17, 43, 44, 45, 46, 21, 47, 23, 48, 49, 50, 51, 52, 53, 54, 55, 56, 57, 58, 59, 60, 216, 217, 218, 219, 220, 221, 222, 223, 224, 225, 226, 227, 232, 233, 234] (by decide +kernel) (by decide +kernel)
set_option maxRecDepth 20000 in
theorem gX11_query_X11_of : GoodIn wsX11_query (wsV RX11 78 RX11 yX11_of wsX11_of) := goodIn_app (goodIn_of _ (by decide +kernel)) ggX11_query_X11_of
set_option maxRecDepth 20000 in
theorem ggX11_query_X10_issued : GoodIn wsX11_query wsX10_issued := goodIn_r _ [65, 66, 67, 68, 69, 19, 20, 21, 22, 23, 70, 45, 46, 47, 48, 49, 50, 51, 52, 53, 54, 55, 56, 57, 58, 59, 60, 235, 236, 237, 238, 239, 240, 232, 233, 234] (by decide +kernel) (by decide +kernel)
set_option maxRecDepth 20000 in
theorem gX11_query_X10_issued : GoodIn wsX11_query (wsV RX11 125 RX10 yX10_issued wsX10_issued) := goodIn_app (goodIn_of _ (by decide +kernel)) ggX11_query_X10_issued
set_option maxRecDepth 20000 in
theorem ggX11_query_X8_init : GoodIn wsX11_query wsX8_init := goodIn_r _ [73, 74, 75, 76, 77, 78, 79, 80, 228, 229, 230, 231] (by decide +kernel) (by decide +kernel)
set_option maxRecDepth 20000 in
theorem gX11_query_X8_init : GoodIn wsX11_query (wsX8_init) := ggX11_query_X8_init
set_option maxRecDepth 20000 in
theorem ggX11_query_Jx4a65c_add_9ea2d : GoodIn wsX11_query wsJx4a65c_add_9ea2d := goodIn_r _ [84, 85, 86, 60, 23, 87, 88, 89, 21, 90, 91, 92, 93, 94, 95, 96, 97, 98, 99, 100, 101, 102, 103, 104, 105, 106, 107, 108, 109, 110, 111, 112, 113, 114, 115, 116, 117, 118, 119, 120, 121, 122, 123, 124, 125, 126, 127, 128, 129, 130, 131, 132, 133, 232, 233, 234] (by decide +kernel) (by decide +kernel)
set_option maxRecDepth 20000 in
theorem gX11_query_Jx4a65c_add_9ea2d : GoodIn wsX11_query (wsV RX11 67 RJx4a65c yJx4a65c_add_9ea2d wsJx4a65c_add_9ea2d) := goodIn_app (goodIn_of _ (by decide +kernel)) ggX11_query_Jx4a65c_add_9ea2d
set_option maxRecDepth 20000 in
theorem ggX11_query_X6_settle : GoodIn wsX11_query wsX6_settle := goodIn_r _ [138, 139, 140, 141, 142, 143, 19, 20, 21, 22, 23, 144, 45, 46, 47, 48, 49, 50, 51, 52, 53, 54, 55, 56, 57, 58, 59, 60, 145, 146, 147, 137, 148, 149, 150, 151, 152, 153, 154, 155, 156, 157, 158, 159, 160, 161, 162, 163, 164, 165, 62, 63, 64, 65, 66, 67, 68, 69, 70, 166, 167, 168, 169, 170, 171, 172, 173, 174, 175, 176, 177, 178, 179, 180, 181, 182, 183, 184, 185, 186, 187, 188, 189, 190, 191, 5, 192, 193, 194, 195, 196, 197, 4, 77, 198, 101, 102, 103, 78, 79, 199, 128, 129, 80, 200, 72, 73, 74, 75, 76, 201, 202, 203, 204, 205, 206, 207, 208, 209, 210, 211, 212, 213, 214, 215, 218, 219, 220, 221, 222, 223, 224, 225, 226, 227, 241, 242, 243, 244, 245, 246, 232, 233, 234, 235, 236, 237, 238, 239, 240, 228, 229, 230, 231] (by decide +kernel) (by decide +kernel)
set_option maxRecDepth 20000 in
theorem gX11_query_X6_settle : GoodIn wsX11_query (wsV RX11 102 RX6 yX6_settle wsX6_settle) := goodIn_app (goodIn_of _ (by decide +kernel)) ggX11_query_X6_settle
theorem dX11_query_0 : decode cX11_query 0 = .ok (.aload_n 0, 1) := by decide +kernel
theorem dX11_query_1 : decode cX11_query 1 = .ok (.iload_n 1, 1) := by decide +kernel
theorem dX11_query_2 : decode cX11_query 2 = .ok (.invokevirtual 71, 3) := by decide +kernel
theorem dX11_query_5 : decode cX11_query 5 = .ok (.ifCond .ne 60, 3) := by decide +kernel
theorem dX11_query_8 : decode cX11_query 8 = .ok (.aload_n 0, 1) := by decide +kernel
theorem dX11_query_9 : decode cX11_query 9 = .ok (.iload_n 2, 1) := by decide +kernel
theorem dX11_query_10 : decode cX11_query 10 = .ok (.iload_n 3, 1) := by decide +kernel
theorem dX11_query_11 : decode cX11_query 11 = .ok (.iload 4, 2) := by decide +kernel
theorem dX11_query_13 : decode cX11_query 13 = .ok (.iload 5, 2) := by decide +kernel
theorem dX11_query_15 : decode cX11_query 15 = .ok (.invokestatic 74, 3) := by decide +kernel
theorem dX11_query_18 : decode cX11_query 18 = .ok (.iconst 2, 1) := by decide +kernel
theorem dX11_query_19 : decode cX11_query 19 = .ok (.invokevirtual 20, 3) := by decide +kernel
theorem dX11_query_22 : decode cX11_query 22 = .ok (.ifCond .ne 43, 3) := by decide +kernel
theorem dX11_query_25 : decode cX11_query 25 = .ok (.aload_n 0, 1) := by decide +kernel
theorem dX11_query_26 : decode cX11_query 26 = .ok (.aload_n 0, 1) := by decide +kernel
theorem dX11_query_27 : decode cX11_query 27 = .ok (.getfield 10, 3) := by decide +kernel
theorem dX11_query_30 : decode cX11_query 30 = .ok (.getfield 167, 3) := by decide +kernel
theorem dX11_query_33 : decode cX11_query 33 = .ok (.invokevirtual 28, 3) := by decide +kernel
theorem dX11_query_36 : decode cX11_query 36 = .ok (.bipush 20, 2) := by decide +kernel
theorem dX11_query_38 : decode cX11_query 38 = .ok (.if_icmp .eq 15, 3) := by decide +kernel
theorem dX11_query_41 : decode cX11_query 41 = .ok (.aload_n 0, 1) := by decide +kernel
theorem dX11_query_42 : decode cX11_query 42 = .ok (.iload_n 1, 1) := by decide +kernel
theorem dX11_query_43 : decode cX11_query 43 = .ok (.invokevirtual 78, 3) := by decide +kernel
theorem dX11_query_46 : decode cX11_query 46 = .ok (.invokevirtual 125, 3) := by decide +kernel
theorem dX11_query_49 : decode cX11_query 49 = .ok (.iconst (-1), 1) := by decide +kernel
theorem dX11_query_50 : decode cX11_query 50 = .ok (.if_icmp .ne 7, 3) := by decide +kernel
theorem dX11_query_53 : decode cX11_query 53 = .ok (.iconst 1, 1) := by decide +kernel
theorem dX11_query_54 : decode cX11_query 54 = .ok (.goto 4, 3) := by decide +kernel
theorem dX11_query_57 : decode cX11_query 57 = .ok (.iconst 0, 1) := by decide +kernel
theorem dX11_query_58 : decode cX11_query 58 = .ok (.iconst 3, 1) := by decide +kernel
theorem dX11_query_59 : decode cX11_query 59 = .ok (.invokevirtual 20, 3) := by decide +kernel
theorem dX11_query_62 : decode cX11_query 62 = .ok (.ifCond .eq 5, 3) := by decide +kernel
theorem dX11_query_65 : decode cX11_query 65 = .ok (.iconst 0, 1) := by decide +kernel
theorem dX11_query_66 : decode cX11_query 66 = .ok (.ireturn, 1) := by decide +kernel
theorem dX11_query_67 : decode cX11_query 67 = .ok (.aload_n 0, 1) := by decide +kernel
theorem dX11_query_68 : decode cX11_query 68 = .ok (.getfield 10, 3) := by decide +kernel
theorem dX11_query_71 : decode cX11_query 71 = .ok (.getfield 167, 3) := by decide +kernel
theorem dX11_query_74 : decode cX11_query 74 = .ok (.new 59, 3) := by decide +kernel
theorem dX11_query_77 : decode cX11_query 77 = .ok (.dup, 1) := by decide +kernel
theorem dX11_query_78 : decode cX11_query 78 = .ok (.iload_n 2, 1) := by decide +kernel
theorem dX11_query_79 : decode cX11_query 79 = .ok (.iload_n 3, 1) := by decide +kernel
theorem dX11_query_80 : decode cX11_query 80 = .ok (.iload 4, 2) := by decide +kernel
theorem dX11_query_82 : decode cX11_query 82 = .ok (.iload 5, 2) := by decide +kernel
theorem dX11_query_84 : decode cX11_query 84 = .ok (.invokespecial 61, 3) := by decide +kernel
theorem dX11_query_87 : decode cX11_query 87 = .ok (.invokevirtual 67, 3) := by decide +kernel
theorem dX11_query_90 : decode cX11_query 90 = .ok (.pop, 1) := by decide +kernel
theorem dX11_query_91 : decode cX11_query 91 = .ok (.aload_n 0, 1) := by decide +kernel
theorem dX11_query_92 : decode cX11_query 92 = .ok (.getfield 10, 3) := by decide +kernel
theorem dX11_query_95 : decode cX11_query 95 = .ok (.getfield 170, 3) := by decide +kernel
theorem dX11_query_98 : decode cX11_query 98 = .ok (.iconst 2, 1) := by decide +kernel
theorem dX11_query_99 : decode cX11_query 99 = .ok (.newarray .int, 2) := by decide +kernel
theorem dX11_query_101 : decode cX11_query 101 = .ok (.dup, 1) := by decide +kernel
theorem dX11_query_102 : decode cX11_query 102 = .ok (.iconst 0, 1) := by decide +kernel
theorem dX11_query_103 : decode cX11_query 103 = .ok (.iload_n 1, 1) := by decide +kernel
theorem dX11_query_104 : decode cX11_query 104 = .ok (.iastore, 1) := by decide +kernel
theorem dX11_query_105 : decode cX11_query 105 = .ok (.dup, 1) := by decide +kernel
theorem dX11_query_106 : decode cX11_query 106 = .ok (.iconst 1, 1) := by decide +kernel
theorem dX11_query_107 : decode cX11_query 107 = .ok (.iconst 0, 1) := by decide +kernel
theorem dX11_query_108 : decode cX11_query 108 = .ok (.iastore, 1) := by decide +kernel
theorem dX11_query_109 : decode cX11_query 109 = .ok (.invokevirtual 67, 3) := by decide +kernel
theorem dX11_query_112 : decode cX11_query 112 = .ok (.pop, 1) := by decide +kernel
theorem dX11_query_113 : decode cX11_query 113 = .ok (.aload_n 0, 1) := by decide +kernel
theorem dX11_query_114 : decode cX11_query 114 = .ok (.getfield 10, 3) := by decide +kernel
theorem dX11_query_117 : decode cX11_query 117 = .ok (.invokevirtual 102, 3) := by decide +kernel
theorem dX11_query_120 : decode cX11_query 120 = .ok (.pop, 1) := by decide +kernel
theorem dX11_query_121 : decode cX11_query 121 = .ok (.aload_n 0, 1) := by decide +kernel
theorem dX11_query_122 : decode cX11_query 122 = .ok (.getfield 10, 3) := by decide +kernel
theorem dX11_query_125 : decode cX11_query 125 = .ok (.getfield 167, 3) := by decide +kernel
theorem dX11_query_128 : decode cX11_query 128 = .ok (.invokevirtual 28, 3) := by decide +kernel
theorem dX11_query_131 : decode cX11_query 131 = .ok (.iconst 1, 1) := by decide +kernel
theorem dX11_query_132 : decode cX11_query 132 = .ok (.isub, 1) := by decide +kernel
theorem dX11_query_133 : decode cX11_query 133 = .ok (.ireturn, 1) := by decide +kernel
set_option maxRecDepth 20000 in
theorem ggX11_isNoQuery_Jx4a65c_size_8abf5 : GoodIn wsX11_isNoQuery wsJx4a65c_size_8abf5 := goodIn_r _ [7, 8, 34, 35, 36] (by decide +kernel) (by decide +kernel)
set_option maxRecDepth 20000 in
theorem gX11_isNoQuery_Jx4a65c_size_8abf5 : GoodIn wsX11_isNoQuery (wsV RX11 28 RJx4a65c yJx4a65c_size_8abf5 wsJx4a65c_size_8abf5) := goodIn_app (goodIn_of _ (by decide +kernel)) ggX11_isNoQuery_Jx4a65c_size_8abf5
set_option maxRecDepth 20000 in
theorem ggX11_isNoQuery_X11_isIn : GoodIn wsX11_isNoQuery wsX11_isIn := goodIn_r _ [12] (by decide +kernel) (by decide +kernel)
set_option maxRecDepth 20000 in
theorem gX11_isNoQuery_X11_isIn : GoodIn wsX11_isNoQuery (va_wsS RX11 34 yX11_isIn wsX11_isIn) := goodIn_app (goodIn_of _ (by decide +kernel)) ggX11_isNoQuery_X11_isIn
set_option maxRecDepth 20000 in
theorem ggX11_isNoQuery_X11_start : GoodIn wsX11_isNoQuery wsX11_start := goodIn_r _ [16, 17, 18, 19, 20, 11, 21, 22, 23] (by decide +kernel) (by decide +kernel)
set_option maxRecDepth 20000 in
theorem gX11_isNoQuery_X11_start : GoodIn wsX11_isNoQuery (wsV RX11 42 RX11 yX11_start wsX11_start) := goodIn_app (goodIn_of _ (by decide +kernel)) ggX11_isNoQuery_X11_start
theorem dX11_isNoQuery_0 : decode cX11_isNoQuery 0 = .ok (.aload_n 0, 1) := by decide +kernel
theorem dX11_isNoQuery_1 : decode cX11_isNoQuery 1 = .ok (.iload_n 1, 1) := by decide +kernel
theorem dX11_isNoQuery_2 : decode cX11_isNoQuery 2 = .ok (.iconst 0, 1) := by decide +kernel
theorem dX11_isNoQuery_3 : decode cX11_isNoQuery 3 = .ok (.aload_n 0, 1) := by decide +kernel
theorem dX11_isNoQuery_4 : decode cX11_isNoQuery 4 = .ok (.getfield 10, 3) := by decide +kernel
theorem dX11_isNoQuery_7 : decode cX11_isNoQuery 7 = .ok (.getfield 167, 3) := by decide +kernel
theorem dX11_isNoQuery_10 : decode cX11_isNoQuery 10 = .ok (.invokevirtual 28, 3) := by decide +kernel
theorem dX11_isNoQuery_13 : decode cX11_isNoQuery 13 = .ok (.iconst 1, 1) := by decide +kernel
theorem dX11_isNoQuery_14 : decode cX11_isNoQuery 14 = .ok (.isub, 1) := by decide +kernel
theorem dX11_isNoQuery_15 : decode cX11_isNoQuery 15 = .ok (.invokestatic 34, 3) := by decide +kernel
theorem dX11_isNoQuery_18 : decode cX11_isNoQuery 18 = .ok (.ifCond .ne 7, 3) := by decide +kernel
theorem dX11_isNoQuery_21 : decode cX11_isNoQuery 21 = .ok (.iconst 1, 1) := by decide +kernel
theorem dX11_isNoQuery_22 : decode cX11_isNoQuery 22 = .ok (.goto 4, 3) := by decide +kernel
theorem dX11_isNoQuery_25 : decode cX11_isNoQuery 25 = .ok (.iconst 0, 1) := by decide +kernel
theorem dX11_isNoQuery_26 : decode cX11_isNoQuery 26 = .ok (.iconst 1, 1) := by decide +kernel
theorem dX11_isNoQuery_27 : decode cX11_isNoQuery 27 = .ok (.invokevirtual 42, 3) := by decide +kernel
theorem dX11_isNoQuery_30 : decode cX11_isNoQuery 30 = .ok (.ireturn, 1) := by decide +kernel
set_option maxRecDepth 20000 in
theorem ggX11_answer_X11_isNoQuery : GoodIn wsX11_answer wsX11_isNoQuery := goodIn_r _ [8, 1, 9, 10, 11, 12, 13, 14, 15, 16, 17, 7, 18, 19, 20, 21, 22, 23, 24, 25, 26, 27, 45, 46, 47, 48, 49, 50, 51, 52, 53, 54, 55, 56, 57, 58, 59] (by decide +kernel) (by decide +kernel)
set_option maxRecDepth 20000 in
theorem gX11_answer_X11_isNoQuery : GoodIn wsX11_answer (wsV RX11 173 RX11 yX11_isNoQuery wsX11_isNoQuery) := goodIn_app (goodIn_of _ (by decide +kernel)) ggX11_answer_X11_isNoQuery
set_option maxRecDepth 20000 in
theorem ggX11_answer_Jx4a65c_get_915e3 : GoodIn wsX11_answer wsJx4a65c_get_915e3 := goodIn_r _ [31, 15, 32, 33, 34, 35, 36, 37, 38, 39, 40, 41, 42, 13, 43, 44, 57, 58, 59] (by decide +kernel) (by decide +kernel)
set_option maxRecDepth 20000 in
theorem gX11_answer_Jx4a65c_get_915e3 : GoodIn wsX11_answer (wsV RX11 45 RJx4a65c yJx4a65c_get_915e3 wsJx4a65c_get_915e3) := goodIn_app (goodIn_of _ (by decide +kernel)) ggX11_answer_Jx4a65c_get_915e3
set_option maxRecDepth 20000 in
theorem ggX11_answer_X11_refuse : GoodIn wsX11_answer wsX11_refuse := goodIn_r _ [27, 23, 45, 46] (by decide +kernel) (by decide +kernel)
set_option maxRecDepth 20000 in
theorem gX11_answer_X11_refuse : GoodIn wsX11_answer (wsV RX11 20 RX11 yX11_refuse wsX11_refuse) := goodIn_app (goodIn_of _ (by decide +kernel)) ggX11_answer_X11_refuse
theorem dX11_answer_0 : decode cX11_answer 0 = .ok (.aload_n 0, 1) := by decide +kernel
theorem dX11_answer_1 : decode cX11_answer 1 = .ok (.iload_n 1, 1) := by decide +kernel
theorem dX11_answer_2 : decode cX11_answer 2 = .ok (.invokevirtual 173, 3) := by decide +kernel
theorem dX11_answer_5 : decode cX11_answer 5 = .ok (.ifCond .ne 35, 3) := by decide +kernel
theorem dX11_answer_8 : decode cX11_answer 8 = .ok (.aload_n 0, 1) := by decide +kernel
theorem dX11_answer_9 : decode cX11_answer 9 = .ok (.aload_n 0, 1) := by decide +kernel
theorem dX11_answer_10 : decode cX11_answer 10 = .ok (.getfield 10, 3) := by decide +kernel
theorem dX11_answer_13 : decode cX11_answer 13 = .ok (.getfield 170, 3) := by decide +kernel
theorem dX11_answer_16 : decode cX11_answer 16 = .ok (.iload_n 1, 1) := by decide +kernel
theorem dX11_answer_17 : decode cX11_answer 17 = .ok (.invokevirtual 45, 3) := by decide +kernel
theorem dX11_answer_20 : decode cX11_answer 20 = .ok (.checkcast 176, 3) := by decide +kernel
theorem dX11_answer_23 : decode cX11_answer 23 = .ok (.iconst 1, 1) := by decide +kernel
theorem dX11_answer_24 : decode cX11_answer 24 = .ok (.iaload, 1) := by decide +kernel
theorem dX11_answer_25 : decode cX11_answer 25 = .ok (.ifCond .eq 7, 3) := by decide +kernel
theorem dX11_answer_28 : decode cX11_answer 28 = .ok (.iconst 1, 1) := by decide +kernel
theorem dX11_answer_29 : decode cX11_answer 29 = .ok (.goto 4, 3) := by decide +kernel
theorem dX11_answer_32 : decode cX11_answer 32 = .ok (.iconst 0, 1) := by decide +kernel
theorem dX11_answer_33 : decode cX11_answer 33 = .ok (.iconst 2, 1) := by decide +kernel
theorem dX11_answer_34 : decode cX11_answer 34 = .ok (.invokevirtual 20, 3) := by decide +kernel
theorem dX11_answer_37 : decode cX11_answer 37 = .ok (.ifCond .eq 5, 3) := by decide +kernel
theorem dX11_answer_40 : decode cX11_answer 40 = .ok (.iconst 0, 1) := by decide +kernel
theorem dX11_answer_41 : decode cX11_answer 41 = .ok (.ireturn, 1) := by decide +kernel
theorem dX11_answer_42 : decode cX11_answer 42 = .ok (.aload_n 0, 1) := by decide +kernel
theorem dX11_answer_43 : decode cX11_answer 43 = .ok (.getfield 10, 3) := by decide +kernel
theorem dX11_answer_46 : decode cX11_answer 46 = .ok (.getfield 170, 3) := by decide +kernel
theorem dX11_answer_49 : decode cX11_answer 49 = .ok (.iload_n 1, 1) := by decide +kernel
theorem dX11_answer_50 : decode cX11_answer 50 = .ok (.invokevirtual 45, 3) := by decide +kernel
theorem dX11_answer_53 : decode cX11_answer 53 = .ok (.checkcast 176, 3) := by decide +kernel
theorem dX11_answer_56 : decode cX11_answer 56 = .ok (.iconst 1, 1) := by decide +kernel
theorem dX11_answer_57 : decode cX11_answer 57 = .ok (.iload_n 2, 1) := by decide +kernel
theorem dX11_answer_58 : decode cX11_answer 58 = .ok (.ifCond .eq 7, 3) := by decide +kernel
theorem dX11_answer_61 : decode cX11_answer 61 = .ok (.iconst 1, 1) := by decide +kernel
theorem dX11_answer_62 : decode cX11_answer 62 = .ok (.goto 4, 3) := by decide +kernel
theorem dX11_answer_65 : decode cX11_answer 65 = .ok (.iconst 2, 1) := by decide +kernel
theorem dX11_answer_66 : decode cX11_answer 66 = .ok (.iastore, 1) := by decide +kernel
theorem dX11_answer_67 : decode cX11_answer 67 = .ok (.aload_n 0, 1) := by decide +kernel
theorem dX11_answer_68 : decode cX11_answer 68 = .ok (.getfield 10, 3) := by decide +kernel
theorem dX11_answer_71 : decode cX11_answer 71 = .ok (.getfield 170, 3) := by decide +kernel
theorem dX11_answer_74 : decode cX11_answer 74 = .ok (.iload_n 1, 1) := by decide +kernel
theorem dX11_answer_75 : decode cX11_answer 75 = .ok (.invokevirtual 45, 3) := by decide +kernel
theorem dX11_answer_78 : decode cX11_answer 78 = .ok (.checkcast 176, 3) := by decide +kernel
theorem dX11_answer_81 : decode cX11_answer 81 = .ok (.iconst 1, 1) := by decide +kernel
theorem dX11_answer_82 : decode cX11_answer 82 = .ok (.iaload, 1) := by decide +kernel
theorem dX11_answer_83 : decode cX11_answer 83 = .ok (.ireturn, 1) := by decide +kernel
set_option maxRecDepth 20000 in
theorem ggX11_ofQuery_X11_isNoQuery : GoodIn wsX11_ofQuery wsX11_isNoQuery := goodIn_r _ [8, 1, 9, 10, 11, 12, 13, 14, 15, 16, 17, 7, 18, 19, 20, 21, 22, 23, 24, 25, 26, 27, 45, 46, 47, 48, 49, 50, 51, 52, 53, 54, 55, 56, 57, 58, 59] (by decide +kernel) (by decide +kernel)
set_option maxRecDepth 20000 in
theorem gX11_ofQuery_X11_isNoQuery : GoodIn wsX11_ofQuery (wsV RX11 173 RX11 yX11_isNoQuery wsX11_isNoQuery) := goodIn_app (goodIn_of _ (by decide +kernel)) ggX11_ofQuery_X11_isNoQuery
set_option maxRecDepth 20000 in
theorem ggX11_ofQuery_Jx4a65c_get_915e3 : GoodIn wsX11_ofQuery wsJx4a65c_get_915e3 := goodIn_r _ [31, 15, 32, 33, 34, 35, 36, 37, 38, 39, 40, 41, 42, 13, 43, 44, 57, 58, 59] (by decide +kernel) (by decide +kernel)
set_option maxRecDepth 20000 in
theorem gX11_ofQuery_Jx4a65c_get_915e3 : GoodIn wsX11_ofQuery (wsV RX11 45 RJx4a65c yJx4a65c_get_915e3 wsJx4a65c_get_915e3) := goodIn_app (goodIn_of _ (by decide +kernel)) ggX11_ofQuery_Jx4a65c_get_915e3
theorem dX11_ofQuery_0 : decode cX11_ofQuery 0 = .ok (.aload_n 0, 1) := by decide +kernel
theorem dX11_ofQuery_1 : decode cX11_ofQuery 1 = .ok (.iload_n 1, 1) := by decide +kernel
theorem dX11_ofQuery_2 : decode cX11_ofQuery 2 = .ok (.invokevirtual 173, 3) := by decide +kernel
theorem dX11_ofQuery_5 : decode cX11_ofQuery 5 = .ok (.ifCond .eq 7, 3) := by decide +kernel
theorem dX11_ofQuery_8 : decode cX11_ofQuery 8 = .ok (.iconst 0, 1) := by decide +kernel
theorem dX11_ofQuery_9 : decode cX11_ofQuery 9 = .ok (.goto 19, 3) := by decide +kernel
theorem dX11_ofQuery_12 : decode cX11_ofQuery 12 = .ok (.aload_n 0, 1) := by decide +kernel
theorem dX11_ofQuery_13 : decode cX11_ofQuery 13 = .ok (.getfield 10, 3) := by decide +kernel
theorem dX11_ofQuery_16 : decode cX11_ofQuery 16 = .ok (.getfield 170, 3) := by decide +kernel
theorem dX11_ofQuery_19 : decode cX11_ofQuery 19 = .ok (.iload_n 1, 1) := by decide +kernel
theorem dX11_ofQuery_20 : decode cX11_ofQuery 20 = .ok (.invokevirtual 45, 3) := by decide +kernel
theorem dX11_ofQuery_23 : decode cX11_ofQuery 23 = .ok (.checkcast 176, 3) := by decide +kernel
theorem dX11_ofQuery_26 : decode cX11_ofQuery 26 = .ok (.iconst 1, 1) := by decide +kernel
theorem dX11_ofQuery_27 : decode cX11_ofQuery 27 = .ok (.iaload, 1) := by decide +kernel
theorem dX11_ofQuery_28 : decode cX11_ofQuery 28 = .ok (.ireturn, 1) := by decide +kernel
set_option maxRecDepth 20000 in
theorem ggX11_isNoPair_X11_isNo : GoodIn wsX11_isNoPair wsX11_isNo := goodIn_r _ [5, 6, 7, 8, 9, 10, 11, 12, 13, 14, 15, 4, 16, 26, 27, 28, 29, 30, 31, 32, 33, 34, 35, 36, 37, 38, 39, 40] (by decide +kernel) (by decide +kernel)
set_option maxRecDepth 20000 in
theorem gX11_isNoPair_X11_isNo : GoodIn wsX11_isNoPair (wsV RX11 38 RX11 yX11_isNo wsX11_isNo) := goodIn_app (goodIn_of _ (by decide +kernel)) ggX11_isNoPair_X11_isNo
set_option maxRecDepth 20000 in
theorem ggX11_isNoPair_X11_start : GoodIn wsX11_isNoPair wsX11_start := goodIn_r _ [20, 21, 22, 23, 24, 4, 25, 26, 27] (by decide +kernel) (by decide +kernel)
set_option maxRecDepth 20000 in
theorem gX11_isNoPair_X11_start : GoodIn wsX11_isNoPair (wsV RX11 42 RX11 yX11_start wsX11_start) := goodIn_app (goodIn_of _ (by decide +kernel)) ggX11_isNoPair_X11_start
set_option maxRecDepth 20000 in
theorem ggX11_isNoPair_X11_refuse : GoodIn wsX11_isNoPair wsX11_refuse := goodIn_r _ [25, 21, 26, 27] (by decide +kernel) (by decide +kernel)
set_option maxRecDepth 20000 in
theorem gX11_isNoPair_X11_refuse : GoodIn wsX11_isNoPair (wsV RX11 20 RX11 yX11_refuse wsX11_refuse) := goodIn_app (goodIn_of _ (by decide +kernel)) ggX11_isNoPair_X11_refuse
theorem dX11_isNoPair_0 : decode cX11_isNoPair 0 = .ok (.aload_n 0, 1) := by decide +kernel
theorem dX11_isNoPair_1 : decode cX11_isNoPair 1 = .ok (.aload_n 0, 1) := by decide +kernel
theorem dX11_isNoPair_2 : decode cX11_isNoPair 2 = .ok (.iload_n 1, 1) := by decide +kernel
theorem dX11_isNoPair_3 : decode cX11_isNoPair 3 = .ok (.invokevirtual 38, 3) := by decide +kernel
theorem dX11_isNoPair_6 : decode cX11_isNoPair 6 = .ok (.ifCond .ne 11, 3) := by decide +kernel
theorem dX11_isNoPair_9 : decode cX11_isNoPair 9 = .ok (.aload_n 0, 1) := by decide +kernel
theorem dX11_isNoPair_10 : decode cX11_isNoPair 10 = .ok (.iload_n 2, 1) := by decide +kernel
theorem dX11_isNoPair_11 : decode cX11_isNoPair 11 = .ok (.invokevirtual 38, 3) := by decide +kernel
theorem dX11_isNoPair_14 : decode cX11_isNoPair 14 = .ok (.ifCond .eq 7, 3) := by decide +kernel
theorem dX11_isNoPair_17 : decode cX11_isNoPair 17 = .ok (.iconst 1, 1) := by decide +kernel
theorem dX11_isNoPair_18 : decode cX11_isNoPair 18 = .ok (.goto 4, 3) := by decide +kernel
theorem dX11_isNoPair_21 : decode cX11_isNoPair 21 = .ok (.iconst 0, 1) := by decide +kernel
theorem dX11_isNoPair_22 : decode cX11_isNoPair 22 = .ok (.iconst 1, 1) := by decide +kernel
theorem dX11_isNoPair_23 : decode cX11_isNoPair 23 = .ok (.invokevirtual 42, 3) := by decide +kernel
theorem dX11_isNoPair_26 : decode cX11_isNoPair 26 = .ok (.ifCond .ne 21, 3) := by decide +kernel
theorem dX11_isNoPair_29 : decode cX11_isNoPair 29 = .ok (.aload_n 0, 1) := by decide +kernel
theorem dX11_isNoPair_30 : decode cX11_isNoPair 30 = .ok (.iload_n 1, 1) := by decide +kernel
theorem dX11_isNoPair_31 : decode cX11_isNoPair 31 = .ok (.iload_n 2, 1) := by decide +kernel
theorem dX11_isNoPair_32 : decode cX11_isNoPair 32 = .ok (.if_icmp .ne 7, 3) := by decide +kernel
theorem dX11_isNoPair_35 : decode cX11_isNoPair 35 = .ok (.iconst 1, 1) := by decide +kernel
theorem dX11_isNoPair_36 : decode cX11_isNoPair 36 = .ok (.goto 4, 3) := by decide +kernel
theorem dX11_isNoPair_39 : decode cX11_isNoPair 39 = .ok (.iconst 0, 1) := by decide +kernel
theorem dX11_isNoPair_40 : decode cX11_isNoPair 40 = .ok (.iconst 2, 1) := by decide +kernel
theorem dX11_isNoPair_41 : decode cX11_isNoPair 41 = .ok (.invokevirtual 20, 3) := by decide +kernel
theorem dX11_isNoPair_44 : decode cX11_isNoPair 44 = .ok (.ifCond .eq 7, 3) := by decide +kernel
theorem dX11_isNoPair_47 : decode cX11_isNoPair 47 = .ok (.iconst 1, 1) := by decide +kernel
theorem dX11_isNoPair_48 : decode cX11_isNoPair 48 = .ok (.goto 4, 3) := by decide +kernel
theorem dX11_isNoPair_51 : decode cX11_isNoPair 51 = .ok (.iconst 0, 1) := by decide +kernel
theorem dX11_isNoPair_52 : decode cX11_isNoPair 52 = .ok (.ireturn, 1) := by decide +kernel
set_option maxRecDepth 20000 in
theorem ggX11_clash_X11_isNoPair : GoodIn wsX11_clash wsX11_isNoPair := goodIn_r _ [6, 7, 8, 9, 5, 10, 1, 11, 12, 13, 14, 15, 16, 17, 18, 19, 20, 21, 22, 23, 24, 25, 26, 27, 28, 29, 101, 102, 103, 104, 105, 106, 107, 108, 109, 110, 111, 112, 113, 114, 115] (by decide +kernel) (by decide +kernel)
set_option maxRecDepth 20000 in
theorem gX11_clash_X11_isNoPair : GoodIn wsX11_clash (wsV RX11 178 RX11 yX11_isNoPair wsX11_isNoPair) := goodIn_app (goodIn_of _ (by decide +kernel)) ggX11_clash_X11_isNoPair
set_option maxRecDepth 20000 in
theorem ggX11_clash_X6_clash : GoodIn wsX11_clash wsX6_clash := goodIn_r _ [34, 35, 36, 37, 38, 39, 40, 41, 42, 43, 44, 45, 15, 46, 17, 47, 48, 49, 50, 51, 52, 53, 54, 55, 56, 57, 58, 59, 60, 61, 62, 63, 64, 65, 66, 67, 68, 69, 70, 71, 72, 13, 14, 16, 73, 74, 75, 76, 77, 78, 79, 80, 81, 82, 83, 84, 85, 86, 87, 88, 89, 90, 91, 92, 93, 94, 95, 96, 103, 104, 105, 106, 107, 108, 109, 110, 111, 112, 116, 117, 118, 119, 120, 121, 122, 123, 124, 125, 113, 114, 115] (by decide +kernel) (by decide +kernel)
set_option maxRecDepth 20000 in
theorem gX11_clash_X6_clash : GoodIn wsX11_clash (wsV RX11 181 RX6 yX6_clash wsX6_clash) := goodIn_app (goodIn_of _ (by decide +kernel)) ggX11_clash_X6_clash
set_option maxRecDepth 20000 in
theorem ggX11_clash_X8_fields : GoodIn wsX11_clash wsX8_fields := goodIn_r _ [100, 85, 79, 89, 84, 122, 123, 124, 125] (by decide +kernel) (by decide +kernel)
set_option maxRecDepth 20000 in
theorem gX11_clash_X8_fields : GoodIn wsX11_clash (wsV RX11 96 RX8 yX8_fields wsX8_fields) := goodIn_app (goodIn_of _ (by decide +kernel)) ggX11_clash_X8_fields
theorem dX11_clash_0 : decode cX11_clash 0 = .ok (.aload_n 0, 1) := by decide +kernel
theorem dX11_clash_1 : decode cX11_clash 1 = .ok (.iload_n 1, 1) := by decide +kernel
theorem dX11_clash_2 : decode cX11_clash 2 = .ok (.iload_n 2, 1) := by decide +kernel
theorem dX11_clash_3 : decode cX11_clash 3 = .ok (.invokevirtual 178, 3) := by decide +kernel
theorem dX11_clash_6 : decode cX11_clash 6 = .ok (.ifCond .eq 7, 3) := by decide +kernel
theorem dX11_clash_9 : decode cX11_clash 9 = .ok (.iconst 0, 1) := by decide +kernel
theorem dX11_clash_10 : decode cX11_clash 10 = .ok (.goto 15, 3) := by decide +kernel
theorem dX11_clash_13 : decode cX11_clash 13 = .ok (.aload_n 0, 1) := by decide +kernel
theorem dX11_clash_14 : decode cX11_clash 14 = .ok (.getfield 10, 3) := by decide +kernel
theorem dX11_clash_17 : decode cX11_clash 17 = .ok (.iload_n 1, 1) := by decide +kernel
theorem dX11_clash_18 : decode cX11_clash 18 = .ok (.iload_n 2, 1) := by decide +kernel
theorem dX11_clash_19 : decode cX11_clash 19 = .ok (.invokevirtual 181, 3) := by decide +kernel
theorem dX11_clash_22 : decode cX11_clash 22 = .ok (.invokevirtual 96, 3) := by decide +kernel
theorem dX11_clash_25 : decode cX11_clash 25 = .ok (.ireturn, 1) := by decide +kernel
set_option maxRecDepth 20000 in
theorem ggX11_excuse_X11_isNoPair : GoodIn wsX11_excuse wsX11_isNoPair := goodIn_r _ [7, 8, 9, 10, 6, 11, 1, 12, 13, 14, 15, 16, 17, 18, 19, 20, 21, 22, 23, 24, 25, 26, 27, 28, 29, 30, 154, 155, 156, 157, 158, 159, 160, 161, 162, 163, 164, 165, 166, 167, 168] (by decide +kernel) (by decide +kernel)
set_option maxRecDepth 20000 in
theorem gX11_excuse_X11_isNoPair : GoodIn wsX11_excuse (wsV RX11 178 RX11 yX11_isNoPair wsX11_isNoPair) := goodIn_app (goodIn_of _ (by decide +kernel)) ggX11_excuse_X11_isNoPair
set_option maxRecDepth 20000 in
theorem ggX11_excuse_X6_settle : GoodIn wsX11_excuse wsX6_settle := goodIn_r _ [35, 36, 37, 38, 39, 40, 14, 15, 16, 17, 18, 41, 42, 43, 44, 45, 46, 47, 48, 49, 50, 51, 52, 53, 54, 55, 56, 57, 58, 59, 60, 34, 61, 62, 63, 64, 65, 66, 67, 68, 69, 70, 71, 72, 73, 74, 75, 76, 77, 78, 79, 80, 81, 82, 83, 84, 85, 86, 87, 88, 89, 90, 91, 92, 93, 94, 95, 96, 97, 98, 99, 100, 101, 102, 103, 104, 105, 106, 107, 108, 109, 110, 111, 112, 113, 114, 115, 116, 117, 118, 119, 120, 121, 122, 123, 124, 125, 126, 127, 128, 129, 130, 131, 132, 133, 134, 135, 136, 137, 138, 139, 140, 141, 142, 143, 144, 145, 146, 147, 148, 149, 150, 151, 152, 153, 156, 157, 158, 159, 160, 161, 162, 163, 164, 165, 169, 170, 171, 172, 173, 174, 166, 167, 168, 175, 176, 177, 178, 179, 180, 181, 182, 183, 184] (by decide +kernel) (by decide +kernel)
set_option maxRecDepth 20000 in
theorem gX11_excuse_X6_settle : GoodIn wsX11_excuse (wsV RX11 102 RX6 yX6_settle wsX6_settle) := goodIn_app (goodIn_of _ (by decide +kernel)) ggX11_excuse_X6_settle
theorem dX11_excuse_0 : decode cX11_excuse 0 = .ok (.aload_n 0, 1) := by decide +kernel
theorem dX11_excuse_1 : decode cX11_excuse 1 = .ok (.iload_n 1, 1) := by decide +kernel
theorem dX11_excuse_2 : decode cX11_excuse 2 = .ok (.iload_n 2, 1) := by decide +kernel
theorem dX11_excuse_3 : decode cX11_excuse 3 = .ok (.invokevirtual 178, 3) := by decide +kernel
theorem dX11_excuse_6 : decode cX11_excuse 6 = .ok (.ifCond .eq 5, 3) := by decide +kernel
theorem dX11_excuse_9 : decode cX11_excuse 9 = .ok (.iconst 0, 1) := by decide +kernel
theorem dX11_excuse_10 : decode cX11_excuse 10 = .ok (.ireturn, 1) := by decide +kernel
theorem dX11_excuse_11 : decode cX11_excuse 11 = .ok (.aload_n 0, 1) := by decide +kernel
theorem dX11_excuse_12 : decode cX11_excuse 12 = .ok (.getfield 10, 3) := by decide +kernel
theorem dX11_excuse_15 : decode cX11_excuse 15 = .ok (.getfield 185, 3) := by decide +kernel
theorem dX11_excuse_18 : decode cX11_excuse 18 = .ok (.iload_n 1, 1) := by decide +kernel
theorem dX11_excuse_19 : decode cX11_excuse 19 = .ok (.aaload, 1) := by decide +kernel
theorem dX11_excuse_20 : decode cX11_excuse 20 = .ok (.iload_n 2, 1) := by decide +kernel
theorem dX11_excuse_21 : decode cX11_excuse 21 = .ok (.baload, 1) := by decide +kernel
theorem dX11_excuse_22 : decode cX11_excuse 22 = .ok (.ifCond .ne 7, 3) := by decide +kernel
theorem dX11_excuse_25 : decode cX11_excuse 25 = .ok (.iconst 1, 1) := by decide +kernel
theorem dX11_excuse_26 : decode cX11_excuse 26 = .ok (.goto 4, 3) := by decide +kernel
theorem dX11_excuse_29 : decode cX11_excuse 29 = .ok (.iconst 0, 1) := by decide +kernel
theorem dX11_excuse_30 : decode cX11_excuse 30 = .ok (.istore_n 3, 1) := by decide +kernel
theorem dX11_excuse_31 : decode cX11_excuse 31 = .ok (.aload_n 0, 1) := by decide +kernel
theorem dX11_excuse_32 : decode cX11_excuse 32 = .ok (.getfield 10, 3) := by decide +kernel
theorem dX11_excuse_35 : decode cX11_excuse 35 = .ok (.getfield 185, 3) := by decide +kernel
theorem dX11_excuse_38 : decode cX11_excuse 38 = .ok (.iload_n 1, 1) := by decide +kernel
theorem dX11_excuse_39 : decode cX11_excuse 39 = .ok (.aaload, 1) := by decide +kernel
theorem dX11_excuse_40 : decode cX11_excuse 40 = .ok (.iload_n 2, 1) := by decide +kernel
theorem dX11_excuse_41 : decode cX11_excuse 41 = .ok (.iload_n 3, 1) := by decide +kernel
theorem dX11_excuse_42 : decode cX11_excuse 42 = .ok (.bastore, 1) := by decide +kernel
theorem dX11_excuse_43 : decode cX11_excuse 43 = .ok (.aload_n 0, 1) := by decide +kernel
theorem dX11_excuse_44 : decode cX11_excuse 44 = .ok (.getfield 10, 3) := by decide +kernel
theorem dX11_excuse_47 : decode cX11_excuse 47 = .ok (.getfield 185, 3) := by decide +kernel
theorem dX11_excuse_50 : decode cX11_excuse 50 = .ok (.iload_n 2, 1) := by decide +kernel
theorem dX11_excuse_51 : decode cX11_excuse 51 = .ok (.aaload, 1) := by decide +kernel
theorem dX11_excuse_52 : decode cX11_excuse 52 = .ok (.iload_n 1, 1) := by decide +kernel
theorem dX11_excuse_53 : decode cX11_excuse 53 = .ok (.iload_n 3, 1) := by decide +kernel
theorem dX11_excuse_54 : decode cX11_excuse 54 = .ok (.bastore, 1) := by decide +kernel
theorem dX11_excuse_55 : decode cX11_excuse 55 = .ok (.aload_n 0, 1) := by decide +kernel
theorem dX11_excuse_56 : decode cX11_excuse 56 = .ok (.getfield 10, 3) := by decide +kernel
theorem dX11_excuse_59 : decode cX11_excuse 59 = .ok (.invokevirtual 102, 3) := by decide +kernel
theorem dX11_excuse_62 : decode cX11_excuse 62 = .ok (.pop, 1) := by decide +kernel
theorem dX11_excuse_63 : decode cX11_excuse 63 = .ok (.iload_n 3, 1) := by decide +kernel
theorem dX11_excuse_64 : decode cX11_excuse 64 = .ok (.ireturn, 1) := by decide +kernel
set_option maxRecDepth 20000 in
theorem ggX11_clouds_X11_isNoSheet : GoodIn wsX11_clouds wsX11_isNoSheet := goodIn_r _ [9, 10, 11, 12, 8, 13, 1, 14, 15, 16, 17, 18, 19, 20, 21, 22, 23, 24, 25, 26, 27, 28, 29, 30, 31, 32, 118, 119, 124, 125, 126, 127, 128, 129, 130, 131, 132, 133, 134, 135, 136] (by decide +kernel) (by decide +kernel)
set_option maxRecDepth 20000 in
theorem gX11_clouds_X11_isNoSheet : GoodIn wsX11_clouds (wsV RX11 71 RX11 yX11_isNoSheet wsX11_isNoSheet) := goodIn_app (goodIn_of _ (by decide +kernel)) ggX11_clouds_X11_isNoSheet
set_option maxRecDepth 20000 in
theorem ggX11_clouds_X11_isIn : GoodIn wsX11_clouds wsX11_isIn := goodIn_r _ [23] (by decide +kernel) (by decide +kernel)
set_option maxRecDepth 20000 in
theorem gX11_clouds_X11_isIn : GoodIn wsX11_clouds (va_wsS RX11 34 yX11_isIn wsX11_isIn) := goodIn_app (goodIn_of _ (by decide +kernel)) ggX11_clouds_X11_isIn
set_option maxRecDepth 20000 in
theorem ggX11_clouds_X11_refuse : GoodIn wsX11_clouds wsX11_refuse := goodIn_r _ [32, 28, 118, 119] (by decide +kernel) (by decide +kernel)
set_option maxRecDepth 20000 in
theorem gX11_clouds_X11_refuse : GoodIn wsX11_clouds (wsV RX11 20 RX11 yX11_refuse wsX11_refuse) := goodIn_app (goodIn_of _ (by decide +kernel)) ggX11_clouds_X11_refuse
set_option maxRecDepth 20000 in
theorem ggX11_clouds_X8_init : GoodIn wsX11_clouds wsX8_init := goodIn_r _ [35, 36, 37, 38, 39, 40, 41, 42, 120, 121, 122, 123] (by decide +kernel) (by decide +kernel)
set_option maxRecDepth 20000 in
theorem gX11_clouds_X8_init : GoodIn wsX11_clouds (wsX8_init) := ggX11_clouds_X8_init
set_option maxRecDepth 20000 in
theorem ggX11_clouds_X6_clouds : GoodIn wsX11_clouds wsX6_clouds := goodIn_r _ [47, 48, 49, 50, 51, 52, 53, 16, 17, 18, 19, 20, 54, 55, 56, 57, 58, 59, 60, 61, 62, 63, 64, 65, 66, 67, 68, 69, 70, 71, 72, 73, 4, 74, 75, 76, 77, 78, 79, 3, 39, 80, 81, 82, 83, 40, 41, 84, 85, 86, 42, 87, 34, 35, 36, 37, 38, 88, 89, 90, 91, 92, 93, 94, 46, 95, 96, 97, 98, 99, 100, 101, 102, 103, 104, 105, 106, 107, 108, 109, 110, 111, 112, 113, 114, 115, 116, 117, 124, 125, 126, 127, 128, 129, 130, 131, 132, 133, 134, 135, 136, 120, 121, 122, 123, 137, 138, 139, 140, 141, 142] (by decide +kernel) (by decide +kernel)
set_option maxRecDepth 20000 in
theorem gX11_clouds_X6_clouds : GoodIn wsX11_clouds (wsV RX11 189 RX6 yX6_clouds wsX6_clouds) := goodIn_app (goodIn_of _ (by decide +kernel)) ggX11_clouds_X6_clouds
theorem dX11_clouds_0 : decode cX11_clouds 0 = .ok (.aload_n 0, 1) := by decide +kernel
theorem dX11_clouds_1 : decode cX11_clouds 1 = .ok (.iload_n 1, 1) := by decide +kernel
theorem dX11_clouds_2 : decode cX11_clouds 2 = .ok (.invokevirtual 71, 3) := by decide +kernel
theorem dX11_clouds_5 : decode cX11_clouds 5 = .ok (.ifCond .ne 36, 3) := by decide +kernel
theorem dX11_clouds_8 : decode cX11_clouds 8 = .ok (.aload_n 0, 1) := by decide +kernel
theorem dX11_clouds_9 : decode cX11_clouds 9 = .ok (.iload_n 2, 1) := by decide +kernel
theorem dX11_clouds_10 : decode cX11_clouds 10 = .ok (.iconst 0, 1) := by decide +kernel
theorem dX11_clouds_11 : decode cX11_clouds 11 = .ok (.bipush 19, 2) := by decide +kernel
theorem dX11_clouds_13 : decode cX11_clouds 13 = .ok (.invokestatic 34, 3) := by decide +kernel
theorem dX11_clouds_16 : decode cX11_clouds 16 = .ok (.ifCond .eq 13, 3) := by decide +kernel
theorem dX11_clouds_19 : decode cX11_clouds 19 = .ok (.iload_n 3, 1) := by decide +kernel
theorem dX11_clouds_20 : decode cX11_clouds 20 = .ok (.iconst 0, 1) := by decide +kernel
theorem dX11_clouds_21 : decode cX11_clouds 21 = .ok (.bipush 19, 2) := by decide +kernel
theorem dX11_clouds_23 : decode cX11_clouds 23 = .ok (.invokestatic 34, 3) := by decide +kernel
theorem dX11_clouds_26 : decode cX11_clouds 26 = .ok (.ifCond .ne 7, 3) := by decide +kernel
theorem dX11_clouds_29 : decode cX11_clouds 29 = .ok (.iconst 1, 1) := by decide +kernel
theorem dX11_clouds_30 : decode cX11_clouds 30 = .ok (.goto 4, 3) := by decide +kernel
theorem dX11_clouds_33 : decode cX11_clouds 33 = .ok (.iconst 0, 1) := by decide +kernel
theorem dX11_clouds_34 : decode cX11_clouds 34 = .ok (.iconst 2, 1) := by decide +kernel
theorem dX11_clouds_35 : decode cX11_clouds 35 = .ok (.invokevirtual 20, 3) := by decide +kernel
theorem dX11_clouds_38 : decode cX11_clouds 38 = .ok (.ifCond .eq 7, 3) := by decide +kernel
theorem dX11_clouds_41 : decode cX11_clouds 41 = .ok (.iconst 0, 1) := by decide +kernel
theorem dX11_clouds_42 : decode cX11_clouds 42 = .ok (.goto 22, 3) := by decide +kernel
theorem dX11_clouds_45 : decode cX11_clouds 45 = .ok (.aload_n 0, 1) := by decide +kernel
theorem dX11_clouds_46 : decode cX11_clouds 46 = .ok (.getfield 10, 3) := by decide +kernel
theorem dX11_clouds_49 : decode cX11_clouds 49 = .ok (.iload_n 1, 1) := by decide +kernel
theorem dX11_clouds_50 : decode cX11_clouds 50 = .ok (.new 59, 3) := by decide +kernel
theorem dX11_clouds_53 : decode cX11_clouds 53 = .ok (.dup, 1) := by decide +kernel
theorem dX11_clouds_54 : decode cX11_clouds 54 = .ok (.iload_n 2, 1) := by decide +kernel
theorem dX11_clouds_55 : decode cX11_clouds 55 = .ok (.iload_n 3, 1) := by decide +kernel
theorem dX11_clouds_56 : decode cX11_clouds 56 = .ok (.iload_n 2, 1) := by decide +kernel
theorem dX11_clouds_57 : decode cX11_clouds 57 = .ok (.iload_n 3, 1) := by decide +kernel
theorem dX11_clouds_58 : decode cX11_clouds 58 = .ok (.invokespecial 61, 3) := by decide +kernel
theorem dX11_clouds_61 : decode cX11_clouds 61 = .ok (.invokevirtual 189, 3) := by decide +kernel
theorem dX11_clouds_64 : decode cX11_clouds 64 = .ok (.ireturn, 1) := by decide +kernel
set_option maxRecDepth 20000 in
theorem ggX11_pack_X11_isNoCrew : GoodIn wsX11_pack wsX11_isNoCrew := goodIn_r _ [9, 10, 11, 8, 12] (by decide +kernel) (by decide +kernel)
set_option maxRecDepth 20000 in
theorem gX11_pack_X11_isNoCrew : GoodIn wsX11_pack (va_wsS RX11 150 yX11_isNoCrew wsX11_isNoCrew) := goodIn_app (goodIn_of _ (by decide +kernel)) ggX11_pack_X11_isNoCrew
set_option maxRecDepth 20000 in
theorem ggX11_pack_X11_start : GoodIn wsX11_pack wsX11_start := goodIn_r _ [16, 17, 18, 19, 20, 8, 21, 109, 110] (by decide +kernel) (by decide +kernel)
set_option maxRecDepth 20000 in
theorem gX11_pack_X11_start : GoodIn wsX11_pack (wsV RX11 42 RX11 yX11_start wsX11_start) := goodIn_app (goodIn_of _ (by decide +kernel)) ggX11_pack_X11_start
set_option maxRecDepth 20000 in
theorem ggX11_pack_X11_isNoSet : GoodIn wsX11_pack wsX11_isNoSet := goodIn_r _ [25, 1, 26, 27, 28, 29, 30, 31, 32, 109, 110, 111, 112, 113, 114, 115, 116, 117, 118, 119, 120, 127, 128, 129] (by decide +kernel) (by decide +kernel)
set_option maxRecDepth 20000 in
theorem gX11_pack_X11_isNoSet : GoodIn wsX11_pack (wsV RX11 138 RX11 yX11_isNoSet wsX11_isNoSet) := goodIn_app (goodIn_of _ (by decide +kernel)) ggX11_pack_X11_isNoSet
set_option maxRecDepth 20000 in
theorem ggX11_pack_X11_isIn : GoodIn wsX11_pack wsX11_isIn := goodIn_r _ [12] (by decide +kernel) (by decide +kernel)
set_option maxRecDepth 20000 in
theorem gX11_pack_X11_isIn : GoodIn wsX11_pack (va_wsS RX11 34 yX11_isIn wsX11_isIn) := goodIn_app (goodIn_of _ (by decide +kernel)) ggX11_pack_X11_isIn
set_option maxRecDepth 20000 in
theorem ggX11_pack_X11_refuse : GoodIn wsX11_pack wsX11_refuse := goodIn_r _ [21, 17, 109, 110] (by decide +kernel) (by decide +kernel)
set_option maxRecDepth 20000 in
theorem gX11_pack_X11_refuse : GoodIn wsX11_pack (wsV RX11 20 RX11 yX11_refuse wsX11_refuse) := goodIn_app (goodIn_of _ (by decide +kernel)) ggX11_pack_X11_refuse
set_option maxRecDepth 20000 in
theorem ggX11_pack_Jx4a65c_size_8abf5 : GoodIn wsX11_pack wsJx4a65c_size_8abf5 := goodIn_r _ [31, 32, 127, 128, 129] (by decide +kernel) (by decide +kernel)
set_option maxRecDepth 20000 in
theorem gX11_pack_Jx4a65c_size_8abf5 : GoodIn wsX11_pack (wsV RX11 28 RJx4a65c yJx4a65c_size_8abf5 wsJx4a65c_size_8abf5) := goodIn_app (goodIn_of _ (by decide +kernel)) ggX11_pack_Jx4a65c_size_8abf5
set_option maxRecDepth 20000 in
theorem ggX11_pack_X7_init : GoodIn wsX11_pack wsX7_init := goodIn_r _ [35, 36, 37, 38, 39, 40, 41, 42, 43, 44, 45, 46, 47, 48, 49, 50, 51, 52, 53, 54, 130, 131, 132, 133, 121, 122, 123, 124, 125, 126] (by decide +kernel) (by decide +kernel)
set_option maxRecDepth 20000 in
theorem gX11_pack_X7_init : GoodIn wsX11_pack (wsX7_init) := ggX11_pack_X7_init
set_option maxRecDepth 20000 in
theorem ggX11_pack_Jx4a65c_add_9ea2d : GoodIn wsX11_pack wsJx4a65c_add_9ea2d := goodIn_r _ [58, 59, 60, 61, 32, 62, 63, 64, 30, 65, 66, 67, 68, 69, 70, 71, 72, 73, 74, 75, 76, 77, 78, 79, 80, 81, 82, 83, 84, 85, 86, 87, 88, 89, 90, 91, 92, 93, 94, 95, 96, 97, 98, 99, 100, 101, 102, 103, 104, 105, 106, 107, 108, 127, 128, 129] (by decide +kernel) (by decide +kernel)
set_option maxRecDepth 20000 in
theorem gX11_pack_Jx4a65c_add_9ea2d : GoodIn wsX11_pack (wsV RX11 67 RJx4a65c yJx4a65c_add_9ea2d wsJx4a65c_add_9ea2d) := goodIn_app (goodIn_of _ (by decide +kernel)) ggX11_pack_Jx4a65c_add_9ea2d
theorem dX11_pack_0 : decode cX11_pack 0 = .ok (.aload_n 0, 1) := by decide +kernel
theorem dX11_pack_1 : decode cX11_pack 1 = .ok (.iload_n 1, 1) := by decide +kernel
theorem dX11_pack_2 : decode cX11_pack 2 = .ok (.invokestatic 150, 3) := by decide +kernel
theorem dX11_pack_5 : decode cX11_pack 5 = .ok (.iconst 1, 1) := by decide +kernel
theorem dX11_pack_6 : decode cX11_pack 6 = .ok (.invokevirtual 42, 3) := by decide +kernel
theorem dX11_pack_9 : decode cX11_pack 9 = .ok (.ifCond .ne 62, 3) := by decide +kernel
theorem dX11_pack_12 : decode cX11_pack 12 = .ok (.aload_n 0, 1) := by decide +kernel
theorem dX11_pack_13 : decode cX11_pack 13 = .ok (.aload_n 0, 1) := by decide +kernel
theorem dX11_pack_14 : decode cX11_pack 14 = .ok (.iload_n 2, 1) := by decide +kernel
theorem dX11_pack_15 : decode cX11_pack 15 = .ok (.invokevirtual 138, 3) := by decide +kernel
theorem dX11_pack_18 : decode cX11_pack 18 = .ok (.ifCond .ne 13, 3) := by decide +kernel
theorem dX11_pack_21 : decode cX11_pack 21 = .ok (.iload_n 3, 1) := by decide +kernel
theorem dX11_pack_22 : decode cX11_pack 22 = .ok (.iconst 1, 1) := by decide +kernel
theorem dX11_pack_23 : decode cX11_pack 23 = .ok (.bipush 9, 2) := by decide +kernel
theorem dX11_pack_25 : decode cX11_pack 25 = .ok (.invokestatic 34, 3) := by decide +kernel
theorem dX11_pack_28 : decode cX11_pack 28 = .ok (.ifCond .ne 7, 3) := by decide +kernel
theorem dX11_pack_31 : decode cX11_pack 31 = .ok (.iconst 1, 1) := by decide +kernel
theorem dX11_pack_32 : decode cX11_pack 32 = .ok (.goto 4, 3) := by decide +kernel
theorem dX11_pack_35 : decode cX11_pack 35 = .ok (.iconst 0, 1) := by decide +kernel
theorem dX11_pack_36 : decode cX11_pack 36 = .ok (.iconst 2, 1) := by decide +kernel
theorem dX11_pack_37 : decode cX11_pack 37 = .ok (.invokevirtual 20, 3) := by decide +kernel
theorem dX11_pack_40 : decode cX11_pack 40 = .ok (.ifCond .ne 31, 3) := by decide +kernel
theorem dX11_pack_43 : decode cX11_pack 43 = .ok (.aload_n 0, 1) := by decide +kernel
theorem dX11_pack_44 : decode cX11_pack 44 = .ok (.aload_n 0, 1) := by decide +kernel
theorem dX11_pack_45 : decode cX11_pack 45 = .ok (.getfield 10, 3) := by decide +kernel
theorem dX11_pack_48 : decode cX11_pack 48 = .ok (.getfield 193, 3) := by decide +kernel
theorem dX11_pack_51 : decode cX11_pack 51 = .ok (.invokevirtual 28, 3) := by decide +kernel
theorem dX11_pack_54 : decode cX11_pack 54 = .ok (.bipush 8, 2) := by decide +kernel
theorem dX11_pack_56 : decode cX11_pack 56 = .ok (.if_icmp .ne 7, 3) := by decide +kernel
theorem dX11_pack_59 : decode cX11_pack 59 = .ok (.iconst 1, 1) := by decide +kernel
theorem dX11_pack_60 : decode cX11_pack 60 = .ok (.goto 4, 3) := by decide +kernel
theorem dX11_pack_63 : decode cX11_pack 63 = .ok (.iconst 0, 1) := by decide +kernel
theorem dX11_pack_64 : decode cX11_pack 64 = .ok (.iconst 3, 1) := by decide +kernel
theorem dX11_pack_65 : decode cX11_pack 65 = .ok (.invokevirtual 20, 3) := by decide +kernel
theorem dX11_pack_68 : decode cX11_pack 68 = .ok (.ifCond .eq 5, 3) := by decide +kernel
theorem dX11_pack_71 : decode cX11_pack 71 = .ok (.iconst 0, 1) := by decide +kernel
theorem dX11_pack_72 : decode cX11_pack 72 = .ok (.ireturn, 1) := by decide +kernel
theorem dX11_pack_73 : decode cX11_pack 73 = .ok (.aload_n 0, 1) := by decide +kernel
theorem dX11_pack_74 : decode cX11_pack 74 = .ok (.getfield 10, 3) := by decide +kernel
theorem dX11_pack_77 : decode cX11_pack 77 = .ok (.getfield 193, 3) := by decide +kernel
theorem dX11_pack_80 : decode cX11_pack 80 = .ok (.new 196, 3) := by decide +kernel
theorem dX11_pack_83 : decode cX11_pack 83 = .ok (.dup, 1) := by decide +kernel
theorem dX11_pack_84 : decode cX11_pack 84 = .ok (.iload_n 1, 1) := by decide +kernel
theorem dX11_pack_85 : decode cX11_pack 85 = .ok (.iload_n 2, 1) := by decide +kernel
theorem dX11_pack_86 : decode cX11_pack 86 = .ok (.iload_n 3, 1) := by decide +kernel
theorem dX11_pack_87 : decode cX11_pack 87 = .ok (.invokespecial 198, 3) := by decide +kernel
theorem dX11_pack_90 : decode cX11_pack 90 = .ok (.invokevirtual 67, 3) := by decide +kernel
theorem dX11_pack_93 : decode cX11_pack 93 = .ok (.pop, 1) := by decide +kernel
theorem dX11_pack_94 : decode cX11_pack 94 = .ok (.aload_n 0, 1) := by decide +kernel
theorem dX11_pack_95 : decode cX11_pack 95 = .ok (.getfield 10, 3) := by decide +kernel
theorem dX11_pack_98 : decode cX11_pack 98 = .ok (.getfield 193, 3) := by decide +kernel
theorem dX11_pack_101 : decode cX11_pack 101 = .ok (.invokevirtual 28, 3) := by decide +kernel
theorem dX11_pack_104 : decode cX11_pack 104 = .ok (.iconst 1, 1) := by decide +kernel
theorem dX11_pack_105 : decode cX11_pack 105 = .ok (.isub, 1) := by decide +kernel
theorem dX11_pack_106 : decode cX11_pack 106 = .ok (.ireturn, 1) := by decide +kernel
set_option maxRecDepth 20000 in
theorem ggX11_isNoPack_Jx4a65c_size_8abf5 : GoodIn wsX11_isNoPack wsJx4a65c_size_8abf5 := goodIn_r _ [7, 8, 34, 35, 36] (by decide +kernel) (by decide +kernel)
set_option maxRecDepth 20000 in
theorem gX11_isNoPack_Jx4a65c_size_8abf5 : GoodIn wsX11_isNoPack (wsV RX11 28 RJx4a65c yJx4a65c_size_8abf5 wsJx4a65c_size_8abf5) := goodIn_app (goodIn_of _ (by decide +kernel)) ggX11_isNoPack_Jx4a65c_size_8abf5
set_option maxRecDepth 20000 in
theorem ggX11_isNoPack_X11_isIn : GoodIn wsX11_isNoPack wsX11_isIn := goodIn_r _ [12] (by decide +kernel) (by decide +kernel)
set_option maxRecDepth 20000 in
theorem gX11_isNoPack_X11_isIn : GoodIn wsX11_isNoPack (va_wsS RX11 34 yX11_isIn wsX11_isIn) := goodIn_app (goodIn_of _ (by decide +kernel)) ggX11_isNoPack_X11_isIn
set_option maxRecDepth 20000 in
theorem ggX11_isNoPack_X11_start : GoodIn wsX11_isNoPack wsX11_start := goodIn_r _ [16, 17, 18, 19, 20, 11, 21, 22, 23] (by decide +kernel) (by decide +kernel)
set_option maxRecDepth 20000 in
theorem gX11_isNoPack_X11_start : GoodIn wsX11_isNoPack (wsV RX11 42 RX11 yX11_start wsX11_start) := goodIn_app (goodIn_of _ (by decide +kernel)) ggX11_isNoPack_X11_start
theorem dX11_isNoPack_0 : decode cX11_isNoPack 0 = .ok (.aload_n 0, 1) := by decide +kernel
theorem dX11_isNoPack_1 : decode cX11_isNoPack 1 = .ok (.iload_n 1, 1) := by decide +kernel
theorem dX11_isNoPack_2 : decode cX11_isNoPack 2 = .ok (.iconst 0, 1) := by decide +kernel
theorem dX11_isNoPack_3 : decode cX11_isNoPack 3 = .ok (.aload_n 0, 1) := by decide +kernel
theorem dX11_isNoPack_4 : decode cX11_isNoPack 4 = .ok (.getfield 10, 3) := by decide +kernel
theorem dX11_isNoPack_7 : decode cX11_isNoPack 7 = .ok (.getfield 193, 3) := by decide +kernel
theorem dX11_isNoPack_10 : decode cX11_isNoPack 10 = .ok (.invokevirtual 28, 3) := by decide +kernel
theorem dX11_isNoPack_13 : decode cX11_isNoPack 13 = .ok (.iconst 1, 1) := by decide +kernel
theorem dX11_isNoPack_14 : decode cX11_isNoPack 14 = .ok (.isub, 1) := by decide +kernel
theorem dX11_isNoPack_15 : decode cX11_isNoPack 15 = .ok (.invokestatic 34, 3) := by decide +kernel
theorem dX11_isNoPack_18 : decode cX11_isNoPack 18 = .ok (.ifCond .ne 7, 3) := by decide +kernel
theorem dX11_isNoPack_21 : decode cX11_isNoPack 21 = .ok (.iconst 1, 1) := by decide +kernel
theorem dX11_isNoPack_22 : decode cX11_isNoPack 22 = .ok (.goto 4, 3) := by decide +kernel
theorem dX11_isNoPack_25 : decode cX11_isNoPack 25 = .ok (.iconst 0, 1) := by decide +kernel
theorem dX11_isNoPack_26 : decode cX11_isNoPack 26 = .ok (.iconst 1, 1) := by decide +kernel
theorem dX11_isNoPack_27 : decode cX11_isNoPack 27 = .ok (.invokevirtual 42, 3) := by decide +kernel
theorem dX11_isNoPack_30 : decode cX11_isNoPack 30 = .ok (.ireturn, 1) := by decide +kernel
set_option maxRecDepth 20000 in
theorem ggX11_place_X11_isNoPack : GoodIn wsX11_place wsX11_isNoPack := goodIn_r _ [13, 1, 2, 14, 15, 16, 17, 18, 19, 20, 21, 12, 22, 23, 24, 25, 26, 27, 28, 29, 30, 31, 159, 160, 161, 162, 163, 164, 165, 166, 167, 168, 169, 170, 181, 182, 183] (by decide +kernel) (by decide +kernel)
set_option maxRecDepth 20000 in
theorem gX11_place_X11_isNoPack : GoodIn wsX11_place (wsV RX11 201 RX11 yX11_isNoPack wsX11_isNoPack) := goodIn_app (goodIn_of _ (by decide +kernel)) ggX11_place_X11_isNoPack
set_option maxRecDepth 20000 in
theorem ggX11_place_X8_isNone : GoodIn wsX11_place wsX8_isNone := goodIn_r _ [34] (by decide +kernel) (by decide +kernel)
set_option maxRecDepth 20000 in
theorem gX11_place_X8_isNone : GoodIn wsX11_place (va_wsS RX11 74 yX8_isNone wsX8_isNone) := goodIn_app (goodIn_of _ (by decide +kernel)) ggX11_place_X8_isNone
set_option maxRecDepth 20000 in
theorem ggX11_place_X11_refuse : GoodIn wsX11_place wsX11_refuse := goodIn_r _ [31, 27, 159, 160] (by decide +kernel) (by decide +kernel)
set_option maxRecDepth 20000 in
theorem gX11_place_X11_refuse : GoodIn wsX11_place (wsV RX11 20 RX11 yX11_refuse wsX11_refuse) := goodIn_app (goodIn_of _ (by decide +kernel)) ggX11_place_X11_refuse
set_option maxRecDepth 20000 in
theorem ggX11_place_Jx4a65c_get_915e3 : GoodIn wsX11_place wsJx4a65c_get_915e3 := goodIn_r _ [38, 19, 39, 40, 41, 42, 43, 44, 45, 46, 47, 48, 49, 17, 50, 51, 181, 182, 183] (by decide +kernel) (by decide +kernel)
set_option maxRecDepth 20000 in
theorem gX11_place_Jx4a65c_get_915e3 : GoodIn wsX11_place (wsV RX11 45 RJx4a65c yJx4a65c_get_915e3 wsJx4a65c_get_915e3) := goodIn_app (goodIn_of _ (by decide +kernel)) ggX11_place_Jx4a65c_get_915e3
set_option maxRecDepth 20000 in
theorem ggX11_place_X8_init : GoodIn wsX11_place wsX8_init := goodIn_r _ [54, 55, 56, 57, 58, 59, 60, 61, 177, 178, 179, 180] (by decide +kernel) (by decide +kernel)
set_option maxRecDepth 20000 in
theorem gX11_place_X8_init : GoodIn wsX11_place (wsX8_init) := ggX11_place_X8_init
set_option maxRecDepth 20000 in
theorem ggX11_place_X6_settle : GoodIn wsX11_place wsX6_settle := goodIn_r _ [66, 67, 68, 69, 70, 71, 15, 16, 17, 18, 19, 72, 36, 37, 38, 39, 40, 41, 42, 43, 44, 45, 46, 47, 48, 49, 50, 51, 73, 74, 75, 65, 76, 77, 78, 79, 80, 81, 82, 83, 84, 85, 86, 87, 88, 89, 90, 91, 92, 93, 94, 95, 96, 97, 98, 99, 100, 101, 102, 103, 104, 105, 106, 107, 108, 109, 110, 111, 112, 113, 114, 115, 116, 117, 118, 119, 120, 121, 122, 123, 124, 125, 126, 127, 128, 7, 129, 130, 131, 132, 133, 134, 6, 58, 135, 136, 137, 138, 59, 60, 139, 140, 141, 61, 142, 53, 54, 55, 56, 57, 143, 144, 145, 146, 147, 148, 149, 150, 151, 152, 153, 154, 155, 156, 157, 161, 162, 163, 164, 165, 166, 167, 168, 169, 170, 171, 172, 173, 174, 175, 176, 181, 182, 183, 184, 185, 186, 187, 188, 189, 177, 178, 179, 180] (by decide +kernel) (by decide +kernel)
set_option maxRecDepth 20000 in
theorem gX11_place_X6_settle : GoodIn wsX11_place (wsV RX11 102 RX6 yX6_settle wsX6_settle) := goodIn_app (goodIn_of _ (by decide +kernel)) ggX11_place_X6_settle
set_option maxRecDepth 20000 in
theorem ggX11_place_X8_fields : GoodIn wsX11_place wsX8_fields := goodIn_r _ [146, 60, 58, 61, 59, 177, 178, 179, 180] (by decide +kernel) (by decide +kernel)
set_option maxRecDepth 20000 in
theorem gX11_place_X8_fields : GoodIn wsX11_place (wsV RX11 96 RX8 yX8_fields wsX8_fields) := goodIn_app (goodIn_of _ (by decide +kernel)) ggX11_place_X8_fields
theorem dX11_place_0 : decode cX11_place 0 = .ok (.aload_n 0, 1) := by decide +kernel
theorem dX11_place_1 : decode cX11_place 1 = .ok (.iload_n 1, 1) := by decide +kernel
theorem dX11_place_2 : decode cX11_place 2 = .ok (.invokevirtual 201, 3) := by decide +kernel
theorem dX11_place_5 : decode cX11_place 5 = .ok (.ifCond .ne 54, 3) := by decide +kernel
theorem dX11_place_8 : decode cX11_place 8 = .ok (.aload_n 0, 1) := by decide +kernel
theorem dX11_place_9 : decode cX11_place 9 = .ok (.iload_n 2, 1) := by decide +kernel
theorem dX11_place_10 : decode cX11_place 10 = .ok (.iload_n 3, 1) := by decide +kernel
theorem dX11_place_11 : decode cX11_place 11 = .ok (.iload 4, 2) := by decide +kernel
theorem dX11_place_13 : decode cX11_place 13 = .ok (.iload 5, 2) := by decide +kernel
theorem dX11_place_15 : decode cX11_place 15 = .ok (.invokestatic 74, 3) := by decide +kernel
theorem dX11_place_18 : decode cX11_place 18 = .ok (.iconst 2, 1) := by decide +kernel
theorem dX11_place_19 : decode cX11_place 19 = .ok (.invokevirtual 20, 3) := by decide +kernel
theorem dX11_place_22 : decode cX11_place 22 = .ok (.ifCond .ne 37, 3) := by decide +kernel
theorem dX11_place_25 : decode cX11_place 25 = .ok (.aload_n 0, 1) := by decide +kernel
theorem dX11_place_26 : decode cX11_place 26 = .ok (.aload_n 0, 1) := by decide +kernel
theorem dX11_place_27 : decode cX11_place 27 = .ok (.getfield 10, 3) := by decide +kernel
theorem dX11_place_30 : decode cX11_place 30 = .ok (.getfield 193, 3) := by decide +kernel
theorem dX11_place_33 : decode cX11_place 33 = .ok (.iload_n 1, 1) := by decide +kernel
theorem dX11_place_34 : decode cX11_place 34 = .ok (.invokevirtual 45, 3) := by decide +kernel
theorem dX11_place_37 : decode cX11_place 37 = .ok (.checkcast 196, 3) := by decide +kernel
theorem dX11_place_40 : decode cX11_place 40 = .ok (.getfield 204, 3) := by decide +kernel
theorem dX11_place_43 : decode cX11_place 43 = .ok (.iconst 3, 1) := by decide +kernel
theorem dX11_place_44 : decode cX11_place 44 = .ok (.if_icmp .ne 7, 3) := by decide +kernel
theorem dX11_place_47 : decode cX11_place 47 = .ok (.iconst 1, 1) := by decide +kernel
theorem dX11_place_48 : decode cX11_place 48 = .ok (.goto 4, 3) := by decide +kernel
theorem dX11_place_51 : decode cX11_place 51 = .ok (.iconst 0, 1) := by decide +kernel
theorem dX11_place_52 : decode cX11_place 52 = .ok (.iconst 3, 1) := by decide +kernel
theorem dX11_place_53 : decode cX11_place 53 = .ok (.invokevirtual 20, 3) := by decide +kernel
theorem dX11_place_56 : decode cX11_place 56 = .ok (.ifCond .eq 5, 3) := by decide +kernel
theorem dX11_place_59 : decode cX11_place 59 = .ok (.iconst 0, 1) := by decide +kernel
theorem dX11_place_60 : decode cX11_place 60 = .ok (.ireturn, 1) := by decide +kernel
theorem dX11_place_61 : decode cX11_place 61 = .ok (.aload_n 0, 1) := by decide +kernel
theorem dX11_place_62 : decode cX11_place 62 = .ok (.getfield 10, 3) := by decide +kernel
theorem dX11_place_65 : decode cX11_place 65 = .ok (.getfield 193, 3) := by decide +kernel
theorem dX11_place_68 : decode cX11_place 68 = .ok (.iload_n 1, 1) := by decide +kernel
theorem dX11_place_69 : decode cX11_place 69 = .ok (.invokevirtual 45, 3) := by decide +kernel
theorem dX11_place_72 : decode cX11_place 72 = .ok (.checkcast 196, 3) := by decide +kernel
theorem dX11_place_75 : decode cX11_place 75 = .ok (.new 59, 3) := by decide +kernel
theorem dX11_place_78 : decode cX11_place 78 = .ok (.dup, 1) := by decide +kernel
theorem dX11_place_79 : decode cX11_place 79 = .ok (.iload_n 2, 1) := by decide +kernel
theorem dX11_place_80 : decode cX11_place 80 = .ok (.iload_n 3, 1) := by decide +kernel
theorem dX11_place_81 : decode cX11_place 81 = .ok (.iload 4, 2) := by decide +kernel
theorem dX11_place_83 : decode cX11_place 83 = .ok (.iload 5, 2) := by decide +kernel
theorem dX11_place_85 : decode cX11_place 85 = .ok (.invokespecial 61, 3) := by decide +kernel
theorem dX11_place_88 : decode cX11_place 88 = .ok (.putfield 207, 3) := by decide +kernel
theorem dX11_place_91 : decode cX11_place 91 = .ok (.aload_n 0, 1) := by decide +kernel
theorem dX11_place_92 : decode cX11_place 92 = .ok (.getfield 10, 3) := by decide +kernel
theorem dX11_place_95 : decode cX11_place 95 = .ok (.invokevirtual 102, 3) := by decide +kernel
theorem dX11_place_98 : decode cX11_place 98 = .ok (.pop, 1) := by decide +kernel
theorem dX11_place_99 : decode cX11_place 99 = .ok (.aload_n 0, 1) := by decide +kernel
theorem dX11_place_100 : decode cX11_place 100 = .ok (.getfield 10, 3) := by decide +kernel
theorem dX11_place_103 : decode cX11_place 103 = .ok (.getfield 193, 3) := by decide +kernel
theorem dX11_place_106 : decode cX11_place 106 = .ok (.iload_n 1, 1) := by decide +kernel
theorem dX11_place_107 : decode cX11_place 107 = .ok (.invokevirtual 45, 3) := by decide +kernel
theorem dX11_place_110 : decode cX11_place 110 = .ok (.checkcast 196, 3) := by decide +kernel
theorem dX11_place_113 : decode cX11_place 113 = .ok (.getfield 207, 3) := by decide +kernel
theorem dX11_place_116 : decode cX11_place 116 = .ok (.invokevirtual 96, 3) := by decide +kernel
theorem dX11_place_119 : decode cX11_place 119 = .ok (.ireturn, 1) := by decide +kernel
set_option maxRecDepth 20000 in
theorem ggX11_start__X11_isNoPack : GoodIn wsX11_start_ wsX11_isNoPack := goodIn_r _ [10, 1, 2, 11, 12, 13, 14, 15, 16, 17, 18, 9, 19, 20, 21, 22, 23, 24, 25, 26, 27, 28, 154, 155, 156, 157, 158, 159, 160, 161, 162, 163, 164, 165, 172, 173, 174] (by decide +kernel) (by decide +kernel)
set_option maxRecDepth 20000 in
theorem gX11_start__X11_isNoPack : GoodIn wsX11_start_ (wsV RX11 201 RX11 yX11_isNoPack wsX11_isNoPack) := goodIn_app (goodIn_of _ (by decide +kernel)) ggX11_start__X11_isNoPack
set_option maxRecDepth 20000 in
theorem ggX11_start__Jx4a65c_get_915e3 : GoodIn wsX11_start_ wsJx4a65c_get_915e3 := goodIn_r _ [32, 16, 33, 34, 35, 36, 37, 38, 39, 40, 41, 42, 43, 14, 44, 45, 172, 173, 174] (by decide +kernel) (by decide +kernel)
set_option maxRecDepth 20000 in
theorem gX11_start__Jx4a65c_get_915e3 : GoodIn wsX11_start_ (wsV RX11 45 RJx4a65c yJx4a65c_get_915e3 wsJx4a65c_get_915e3) := goodIn_app (goodIn_of _ (by decide +kernel)) ggX11_start__Jx4a65c_get_915e3
set_option maxRecDepth 20000 in
theorem ggX11_start__X6_canRun : GoodIn wsX11_start_ wsX6_canRun := goodIn_r _ [50, 51, 52, 53, 54, 55, 56, 57, 58, 59, 49, 60, 61, 62, 12, 13, 14, 15, 16, 63, 64, 65, 66, 67, 68, 69, 70, 71, 72, 73, 74, 75, 76, 77, 30, 31, 32, 33, 34, 35, 36, 37, 38, 39, 40, 41, 42, 43, 44, 45, 78, 79, 80, 81, 82, 83, 84, 85, 86, 87, 88, 89, 90, 91, 92, 93, 94, 95, 96, 97, 98, 99, 100, 101, 102, 103, 104, 105, 106, 107, 108, 109, 110, 111, 112, 113, 114, 115, 116, 117, 118, 119, 120, 121, 122, 123, 124, 125, 126, 127, 128, 129, 130, 131, 132, 133, 134, 135, 136, 137, 138, 139, 140, 141, 142, 143, 144, 145, 146, 147, 148, 149, 150, 151, 152, 153, 166, 167, 168, 169, 170, 171, 156, 157, 158, 159, 160, 161, 162, 163, 164, 165, 172, 173, 174, 175, 176, 177, 178, 179, 180, 181, 182, 183, 184] (by decide +kernel) (by decide +kernel)
set_option maxRecDepth 20000 in
theorem gX11_start__X6_canRun : GoodIn wsX11_start_ (wsV RX11 208 RX6 yX6_canRun wsX6_canRun) := goodIn_app (goodIn_of _ (by decide +kernel)) ggX11_start__X6_canRun
set_option maxRecDepth 20000 in
theorem ggX11_start__X11_refuse : GoodIn wsX11_start_ wsX11_refuse := goodIn_r _ [28, 24, 154, 155] (by decide +kernel) (by decide +kernel)
set_option maxRecDepth 20000 in
theorem gX11_start__X11_refuse : GoodIn wsX11_start_ (wsV RX11 20 RX11 yX11_refuse wsX11_refuse) := goodIn_app (goodIn_of _ (by decide +kernel)) ggX11_start__X11_refuse
theorem dX11_start__0 : decode cX11_start_ 0 = .ok (.aload_n 0, 1) := by decide +kernel
theorem dX11_start__1 : decode cX11_start_ 1 = .ok (.iload_n 1, 1) := by decide +kernel
theorem dX11_start__2 : decode cX11_start_ 2 = .ok (.invokevirtual 201, 3) := by decide +kernel
theorem dX11_start__5 : decode cX11_start_ 5 = .ok (.ifCond .ne 40, 3) := by decide +kernel
theorem dX11_start__8 : decode cX11_start_ 8 = .ok (.aload_n 0, 1) := by decide +kernel
theorem dX11_start__9 : decode cX11_start_ 9 = .ok (.aload_n 0, 1) := by decide +kernel
theorem dX11_start__10 : decode cX11_start_ 10 = .ok (.getfield 10, 3) := by decide +kernel
theorem dX11_start__13 : decode cX11_start_ 13 = .ok (.aload_n 0, 1) := by decide +kernel
theorem dX11_start__14 : decode cX11_start_ 14 = .ok (.getfield 10, 3) := by decide +kernel
theorem dX11_start__17 : decode cX11_start_ 17 = .ok (.getfield 193, 3) := by decide +kernel
theorem dX11_start__20 : decode cX11_start_ 20 = .ok (.iload_n 1, 1) := by decide +kernel
theorem dX11_start__21 : decode cX11_start_ 21 = .ok (.invokevirtual 45, 3) := by decide +kernel
theorem dX11_start__24 : decode cX11_start_ 24 = .ok (.checkcast 196, 3) := by decide +kernel
theorem dX11_start__27 : decode cX11_start_ 27 = .ok (.invokevirtual 208, 3) := by decide +kernel
theorem dX11_start__30 : decode cX11_start_ 30 = .ok (.ifCond .ne 7, 3) := by decide +kernel
theorem dX11_start__33 : decode cX11_start_ 33 = .ok (.iconst 1, 1) := by decide +kernel
theorem dX11_start__34 : decode cX11_start_ 34 = .ok (.goto 4, 3) := by decide +kernel
theorem dX11_start__37 : decode cX11_start_ 37 = .ok (.iconst 0, 1) := by decide +kernel
theorem dX11_start__38 : decode cX11_start_ 38 = .ok (.iconst 2, 1) := by decide +kernel
theorem dX11_start__39 : decode cX11_start_ 39 = .ok (.invokevirtual 20, 3) := by decide +kernel
theorem dX11_start__42 : decode cX11_start_ 42 = .ok (.ifCond .eq 5, 3) := by decide +kernel
theorem dX11_start__45 : decode cX11_start_ 45 = .ok (.iconst 0, 1) := by decide +kernel
theorem dX11_start__46 : decode cX11_start_ 46 = .ok (.ireturn, 1) := by decide +kernel
theorem dX11_start__47 : decode cX11_start_ 47 = .ok (.aload_n 0, 1) := by decide +kernel
theorem dX11_start__48 : decode cX11_start_ 48 = .ok (.getfield 10, 3) := by decide +kernel
theorem dX11_start__51 : decode cX11_start_ 51 = .ok (.getfield 193, 3) := by decide +kernel
theorem dX11_start__54 : decode cX11_start_ 54 = .ok (.iload_n 1, 1) := by decide +kernel
theorem dX11_start__55 : decode cX11_start_ 55 = .ok (.invokevirtual 45, 3) := by decide +kernel
theorem dX11_start__58 : decode cX11_start_ 58 = .ok (.checkcast 196, 3) := by decide +kernel
theorem dX11_start__61 : decode cX11_start_ 61 = .ok (.iconst 1, 1) := by decide +kernel
theorem dX11_start__62 : decode cX11_start_ 62 = .ok (.putfield 204, 3) := by decide +kernel
theorem dX11_start__65 : decode cX11_start_ 65 = .ok (.aload_n 0, 1) := by decide +kernel
theorem dX11_start__66 : decode cX11_start_ 66 = .ok (.getfield 10, 3) := by decide +kernel
theorem dX11_start__69 : decode cX11_start_ 69 = .ok (.getfield 193, 3) := by decide +kernel
theorem dX11_start__72 : decode cX11_start_ 72 = .ok (.iload_n 1, 1) := by decide +kernel
theorem dX11_start__73 : decode cX11_start_ 73 = .ok (.invokevirtual 45, 3) := by decide +kernel
theorem dX11_start__76 : decode cX11_start_ 76 = .ok (.checkcast 196, 3) := by decide +kernel
theorem dX11_start__79 : decode cX11_start_ 79 = .ok (.getfield 212, 3) := by decide +kernel
theorem dX11_start__82 : decode cX11_start_ 82 = .ok (.ireturn, 1) := by decide +kernel
set_option maxRecDepth 20000 in
theorem ggX11_day_X6_dayOn : GoodIn wsX11_day wsX6_dayOn := goodIn_r _ [7, 8, 9, 10, 11, 12, 13, 14, 15, 16, 17, 18, 19, 20, 21, 22, 23, 24, 25, 26, 27, 28, 29, 30, 31, 32, 33, 34, 35, 36, 37, 38, 39, 40, 41, 42, 43, 44, 45, 46, 47, 6, 48, 49, 50, 51, 52, 53, 54, 55, 56, 57, 58, 59, 60, 61, 62, 63, 64, 65, 66, 67, 68, 69, 70, 71, 72, 73, 74, 75, 76, 77, 78, 79, 80, 81, 82, 83, 84, 85, 86, 87, 88, 89, 90, 91, 92, 93, 94, 95, 96, 97, 98, 99, 100, 101, 102, 103, 104, 105, 106, 107, 108, 109, 110, 111, 112, 113, 114, 115, 116, 117, 118, 119, 120, 121, 122, 123, 124, 125, 126, 127, 128, 129, 130, 131, 132, 133, 134, 135, 136, 139, 140, 141, 142, 143, 144, 145, 146, 147, 148, 149, 150, 151, 152, 153, 154, 155, 156, 157, 158, 159, 160, 161, 162, 163, 164, 165, 166, 167] (by decide +kernel) (by decide +kernel)
set_option maxRecDepth 20000 in
theorem gX11_day_X6_dayOn : GoodIn wsX11_day (wsV RX11 215 RX6 yX6_dayOn wsX6_dayOn) := goodIn_app (goodIn_of _ (by decide +kernel)) ggX11_day_X6_dayOn
theorem dX11_day_0 : decode cX11_day 0 = .ok (.aload_n 0, 1) := by decide +kernel
theorem dX11_day_1 : decode cX11_day 1 = .ok (.iconst 0, 1) := by decide +kernel
theorem dX11_day_2 : decode cX11_day 2 = .ok (.putfield 16, 3) := by decide +kernel
theorem dX11_day_5 : decode cX11_day 5 = .ok (.aload_n 0, 1) := by decide +kernel
theorem dX11_day_6 : decode cX11_day 6 = .ok (.getfield 10, 3) := by decide +kernel
theorem dX11_day_9 : decode cX11_day 9 = .ok (.invokevirtual 215, 3) := by decide +kernel
theorem dX11_day_12 : decode cX11_day 12 = .ok (.ireturn, 1) := by decide +kernel
set_option maxRecDepth 20000 in
theorem ggX11_ofPackNow_X6_firstWrong : GoodIn wsX11_ofPackNow wsX6_firstWrong := goodIn_r _ [12, 13, 14, 15, 16, 17, 18, 19, 20, 21, 22, 23, 24, 25, 26, 27, 28, 11, 29, 30, 31, 32, 33, 34, 35, 36, 37, 38, 39, 40, 41, 42, 43, 44, 45, 46, 47, 48, 49, 50, 51, 52, 53, 54, 55, 56, 57, 58, 59, 60, 61, 62, 63, 64, 65, 66, 67, 68, 69, 70, 71, 72, 73, 74, 75, 76, 77, 78, 79, 80, 81, 82, 83, 84, 85, 86, 87, 88, 89, 90, 91, 92, 93, 94, 95, 96, 97, 98, 99, 100, 101, 102, 103, 104, 105, 106, 107, 108, 109, 110, 111, 112, 113, 114, 115, 116, 117, 118, 119, 120, 121, 122, 123, 124, 125, 126, 127, 137, 138, 139, 140, 141, 142, 143, 144, 145, 146, 147, 148, 149, 131, 132, 133, 134, 135, 136, 150, 151, 152, 153, 154, 155, 156, 157, 158, 159] (by decide +kernel) (by decide +kernel)
set_option maxRecDepth 20000 in
theorem gX11_ofPackNow_X6_firstWrong : GoodIn wsX11_ofPackNow (wsV RX11 218 RX6 yX6_firstWrong wsX6_firstWrong) := goodIn_app (goodIn_of _ (by decide +kernel)) ggX11_ofPackNow_X6_firstWrong
set_option maxRecDepth 20000 in
theorem ggX11_ofPackNow_X6_wrong : GoodIn wsX11_ofPackNow wsX6_wrong := goodIn_r _ [29, 13, 30, 31, 32, 33, 34, 35, 36, 37, 17, 38, 19, 39, 40, 41, 42, 43, 44, 45, 46, 47, 48, 49, 50, 51, 52, 53, 54, 55, 56, 57, 58, 59, 60, 15, 16, 18, 61, 62, 63, 64, 11, 65, 66, 67, 14, 68, 69, 70, 71, 72, 73, 74, 75, 76, 77, 78, 79, 80, 81, 82, 83, 84, 85, 86, 87, 88, 89, 90, 91, 92, 93, 94, 95, 96, 97, 98, 99, 100, 101, 102, 103, 104, 105, 106, 107, 108, 109, 110, 111, 112, 113, 114, 115, 116, 117, 118, 119, 120, 121, 122, 123, 124, 125, 126, 127, 137, 138, 139, 140, 141, 142, 143, 144, 145, 146, 131, 132, 133, 134, 135, 136, 150, 151, 152, 147, 148, 149, 153, 154, 155, 156, 157, 158, 159] (by decide +kernel) (by decide +kernel)
set_option maxRecDepth 20000 in
theorem gX11_ofPackNow_X6_wrong : GoodIn wsX11_ofPackNow (wsV RX11 227 RX6 yX6_wrong wsX6_wrong) := goodIn_app (goodIn_of _ (by decide +kernel)) ggX11_ofPackNow_X6_wrong
theorem dX11_ofPackNow_0 : decode cX11_ofPackNow 0 = .ok (.aload_n 0, 1) := by decide +kernel
theorem dX11_ofPackNow_1 : decode cX11_ofPackNow 1 = .ok (.getfield 10, 3) := by decide +kernel
theorem dX11_ofPackNow_4 : decode cX11_ofPackNow 4 = .ok (.aload_n 1, 1) := by decide +kernel
theorem dX11_ofPackNow_5 : decode cX11_ofPackNow 5 = .ok (.invokevirtual 218, 3) := by decide +kernel
theorem dX11_ofPackNow_8 : decode cX11_ofPackNow 8 = .ok (.istore_n 3, 1) := by decide +kernel
theorem dX11_ofPackNow_9 : decode cX11_ofPackNow 9 = .ok (.bipush 7, 2) := by decide +kernel
theorem dX11_ofPackNow_11 : decode cX11_ofPackNow 11 = .ok (.newarray .int, 2) := by decide +kernel
theorem dX11_ofPackNow_13 : decode cX11_ofPackNow 13 = .ok (.dup, 1) := by decide +kernel
theorem dX11_ofPackNow_14 : decode cX11_ofPackNow 14 = .ok (.iconst 0, 1) := by decide +kernel
theorem dX11_ofPackNow_15 : decode cX11_ofPackNow 15 = .ok (.aload_n 1, 1) := by decide +kernel
theorem dX11_ofPackNow_16 : decode cX11_ofPackNow 16 = .ok (.getfield 222, 3) := by decide +kernel
theorem dX11_ofPackNow_19 : decode cX11_ofPackNow 19 = .ok (.iastore, 1) := by decide +kernel
theorem dX11_ofPackNow_20 : decode cX11_ofPackNow 20 = .ok (.dup, 1) := by decide +kernel
theorem dX11_ofPackNow_21 : decode cX11_ofPackNow 21 = .ok (.iconst 1, 1) := by decide +kernel
theorem dX11_ofPackNow_22 : decode cX11_ofPackNow 22 = .ok (.aload_n 1, 1) := by decide +kernel
theorem dX11_ofPackNow_23 : decode cX11_ofPackNow 23 = .ok (.getfield 225, 3) := by decide +kernel
theorem dX11_ofPackNow_26 : decode cX11_ofPackNow 26 = .ok (.iastore, 1) := by decide +kernel
theorem dX11_ofPackNow_27 : decode cX11_ofPackNow 27 = .ok (.dup, 1) := by decide +kernel
theorem dX11_ofPackNow_28 : decode cX11_ofPackNow 28 = .ok (.iconst 2, 1) := by decide +kernel
theorem dX11_ofPackNow_29 : decode cX11_ofPackNow 29 = .ok (.aload_n 1, 1) := by decide +kernel
theorem dX11_ofPackNow_30 : decode cX11_ofPackNow 30 = .ok (.getfield 204, 3) := by decide +kernel
theorem dX11_ofPackNow_33 : decode cX11_ofPackNow 33 = .ok (.iastore, 1) := by decide +kernel
theorem dX11_ofPackNow_34 : decode cX11_ofPackNow 34 = .ok (.dup, 1) := by decide +kernel
theorem dX11_ofPackNow_35 : decode cX11_ofPackNow 35 = .ok (.iconst 3, 1) := by decide +kernel
theorem dX11_ofPackNow_36 : decode cX11_ofPackNow 36 = .ok (.aload_n 1, 1) := by decide +kernel
theorem dX11_ofPackNow_37 : decode cX11_ofPackNow 37 = .ok (.getfield 212, 3) := by decide +kernel
theorem dX11_ofPackNow_40 : decode cX11_ofPackNow 40 = .ok (.iastore, 1) := by decide +kernel
theorem dX11_ofPackNow_41 : decode cX11_ofPackNow 41 = .ok (.dup, 1) := by decide +kernel
theorem dX11_ofPackNow_42 : decode cX11_ofPackNow 42 = .ok (.iconst 4, 1) := by decide +kernel
theorem dX11_ofPackNow_43 : decode cX11_ofPackNow 43 = .ok (.iload_n 3, 1) := by decide +kernel
theorem dX11_ofPackNow_44 : decode cX11_ofPackNow 44 = .ok (.iastore, 1) := by decide +kernel
theorem dX11_ofPackNow_45 : decode cX11_ofPackNow 45 = .ok (.dup, 1) := by decide +kernel
theorem dX11_ofPackNow_46 : decode cX11_ofPackNow 46 = .ok (.iconst 5, 1) := by decide +kernel
