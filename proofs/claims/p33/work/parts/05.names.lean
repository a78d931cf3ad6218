theorem dX5_brokenTo_1 : decode cX5_brokenTo 1 = .ok (.istore_n 2, 1) := by decide +kernel
theorem dX5_brokenTo_2 : decode cX5_brokenTo 2 = .ok (.iconst 0, 1) := by decide +kernel
theorem dX5_brokenTo_3 : decode cX5_brokenTo 3 = .ok (.istore_n 3, 1) := by decide +kernel
theorem dX5_brokenTo_4 : decode cX5_brokenTo 4 = .ok (.iload_n 3, 1) := by decide +kernel
theorem dX5_brokenTo_5 : decode cX5_brokenTo 5 = .ok (.aload_n 0, 1) := by decide +kernel
theorem dX5_brokenTo_6 : decode cX5_brokenTo 6 = .ok (.getfield 52, 3) := by decide +kernel
theorem dX5_brokenTo_9 : decode cX5_brokenTo 9 = .ok (.if_icmp .ge 38, 3) := by decide +kernel
theorem dX5_brokenTo_12 : decode cX5_brokenTo 12 = .ok (.aload_n 0, 1) := by decide +kernel
theorem dX5_brokenTo_13 : decode cX5_brokenTo 13 = .ok (.getfield 17, 3) := by decide +kernel
theorem dX5_brokenTo_16 : decode cX5_brokenTo 16 = .ok (.iload_n 3, 1) := by decide +kernel
theorem dX5_brokenTo_17 : decode cX5_brokenTo 17 = .ok (.aaload, 1) := by decide +kernel
theorem dX5_brokenTo_18 : decode cX5_brokenTo 18 = .ok (.getfield 394, 3) := by decide +kernel
theorem dX5_brokenTo_21 : decode cX5_brokenTo 21 = .ok (.iload_n 1, 1) := by decide +kernel
theorem dX5_brokenTo_22 : decode cX5_brokenTo 22 = .ok (.if_icmp .ne 19, 3) := by decide +kernel
theorem dX5_brokenTo_25 : decode cX5_brokenTo 25 = .ok (.aload_n 0, 1) := by decide +kernel
theorem dX5_brokenTo_26 : decode cX5_brokenTo 26 = .ok (.aload_n 0, 1) := by decide +kernel
theorem dX5_brokenTo_27 : decode cX5_brokenTo 27 = .ok (.getfield 17, 3) := by decide +kernel
theorem dX5_brokenTo_30 : decode cX5_brokenTo 30 = .ok (.iload_n 3, 1) := by decide +kernel
theorem dX5_brokenTo_31 : decode cX5_brokenTo 31 = .ok (.aaload, 1) := by decide +kernel
theorem dX5_brokenTo_32 : decode cX5_brokenTo 32 = .ok (.invokevirtual 187, 3) := by decide +kernel
theorem dX5_brokenTo_35 : decode cX5_brokenTo 35 = .ok (.ifCond .eq 6, 3) := by decide +kernel
theorem dX5_brokenTo_38 : decode cX5_brokenTo 38 = .ok (.iinc 2 1, 3) := by decide +kernel
theorem dX5_brokenTo_41 : decode cX5_brokenTo 41 = .ok (.iinc 3 1, 3) := by decide +kernel
theorem dX5_brokenTo_44 : decode cX5_brokenTo 44 = .ok (.goto (-40), 3) := by decide +kernel
theorem dX5_brokenTo_47 : decode cX5_brokenTo 47 = .ok (.iload_n 2, 1) := by decide +kernel
theorem dX5_brokenTo_48 : decode cX5_brokenTo 48 = .ok (.ireturn, 1) := by decide +kernel
set_option maxRecDepth 20000 in
theorem ggX5_brokenOfAll_X5_isBroken : GoodIn wsX5_brokenOfAll wsX5_isBroken := goodIn_r _ [7, 8, 9, 10, 6, 11, 12, 13, 14, 15, 16, 17, 18, 19, 20, 21, 22, 23, 24, 25, 26, 27, 28, 29, 30, 31, 32, 33, 34, 35, 36, 37] (by decide +kernel) (by decide +kernel)
set_option maxRecDepth 20000 in
theorem gX5_brokenOfAll_X5_isBroken : GoodIn wsX5_brokenOfAll (wsV RX5 187 RX5 yX5_isBroken wsX5_isBroken) := goodIn_app (goodIn_of _ (by decide +kernel)) ggX5_brokenOfAll_X5_isBroken
theorem dX5_brokenOfAll_0 : decode cX5_brokenOfAll 0 = .ok (.iconst 0, 1) := by decide +kernel
theorem dX5_brokenOfAll_1 : decode cX5_brokenOfAll 1 = .ok (.istore_n 1, 1) := by decide +kernel
theorem dX5_brokenOfAll_2 : decode cX5_brokenOfAll 2 = .ok (.iconst 0, 1) := by decide +kernel
theorem dX5_brokenOfAll_3 : decode cX5_brokenOfAll 3 = .ok (.istore_n 2, 1) := by decide +kernel
theorem dX5_brokenOfAll_4 : decode cX5_brokenOfAll 4 = .ok (.iload_n 2, 1) := by decide +kernel
theorem dX5_brokenOfAll_5 : decode cX5_brokenOfAll 5 = .ok (.aload_n 0, 1) := by decide +kernel
theorem dX5_brokenOfAll_6 : decode cX5_brokenOfAll 6 = .ok (.getfield 52, 3) := by decide +kernel
theorem dX5_brokenOfAll_9 : decode cX5_brokenOfAll 9 = .ok (.if_icmp .ge 25, 3) := by decide +kernel
theorem dX5_brokenOfAll_12 : decode cX5_brokenOfAll 12 = .ok (.aload_n 0, 1) := by decide +kernel
theorem dX5_brokenOfAll_13 : decode cX5_brokenOfAll 13 = .ok (.aload_n 0, 1) := by decide +kernel
theorem dX5_brokenOfAll_14 : decode cX5_brokenOfAll 14 = .ok (.getfield 17, 3) := by decide +kernel
theorem dX5_brokenOfAll_17 : decode cX5_brokenOfAll 17 = .ok (.iload_n 2, 1) := by decide +kernel
theorem dX5_brokenOfAll_18 : decode cX5_brokenOfAll 18 = .ok (.aaload, 1) := by decide +kernel
theorem dX5_brokenOfAll_19 : decode cX5_brokenOfAll 19 = .ok (.invokevirtual 187, 3) := by decide +kernel
theorem dX5_brokenOfAll_22 : decode cX5_brokenOfAll 22 = .ok (.ifCond .eq 6, 3) := by decide +kernel
theorem dX5_brokenOfAll_25 : decode cX5_brokenOfAll 25 = .ok (.iinc 1 1, 3) := by decide +kernel
theorem dX5_brokenOfAll_28 : decode cX5_brokenOfAll 28 = .ok (.iinc 2 1, 3) := by decide +kernel
theorem dX5_brokenOfAll_31 : decode cX5_brokenOfAll 31 = .ok (.goto (-27), 3) := by decide +kernel
theorem dX5_brokenOfAll_34 : decode cX5_brokenOfAll 34 = .ok (.iload_n 1, 1) := by decide +kernel
theorem dX5_brokenOfAll_35 : decode cX5_brokenOfAll 35 = .ok (.ireturn, 1) := by decide +kernel
set_option maxRecDepth 20000 in
theorem ggX5_isReadyToIssue_X3_lastStatus : GoodIn wsX5_isReadyToIssue wsX3_lastStatus := goodIn_r _ [5, 6, 7, 8, 9, 3, 10, 11, 12, 40, 41, 42, 43, 44, 45, 46, 47, 48, 49] (by decide +kernel) (by decide +kernel)
set_option maxRecDepth 20000 in
theorem gX5_isReadyToIssue_X3_lastStatus_n97 : GoodIn wsX5_isReadyToIssue (wsX3_lastStatus) := ggX5_isReadyToIssue_X3_lastStatus
set_option maxRecDepth 20000 in
theorem ggX5_isReadyToIssue_X5_brokenFrom : GoodIn wsX5_isReadyToIssue wsX5_brokenFrom := goodIn_r _ [17, 18, 19, 20, 21, 22, 16, 23, 1, 24, 25, 26, 27, 28, 29, 30, 31, 32, 33, 34, 35, 36, 37, 38, 39, 50, 51, 52, 40, 41, 42, 43, 44, 45, 46, 47, 48, 49] (by decide +kernel) (by decide +kernel)
set_option maxRecDepth 20000 in
theorem gX5_isReadyToIssue_X5_brokenFrom : GoodIn wsX5_isReadyToIssue (wsV RX5 127 RX5 yX5_brokenFrom wsX5_brokenFrom) := goodIn_app (goodIn_of _ (by decide +kernel)) ggX5_isReadyToIssue_X5_brokenFrom
theorem dX5_isReadyToIssue_0 : decode cX5_isReadyToIssue 0 = .ok (.aload_n 0, 1) := by decide +kernel
theorem dX5_isReadyToIssue_1 : decode cX5_isReadyToIssue 1 = .ok (.getfield 11, 3) := by decide +kernel
theorem dX5_isReadyToIssue_4 : decode cX5_isReadyToIssue 4 = .ok (.iload_n 1, 1) := by decide +kernel
theorem dX5_isReadyToIssue_5 : decode cX5_isReadyToIssue 5 = .ok (.aaload, 1) := by decide +kernel
theorem dX5_isReadyToIssue_6 : decode cX5_isReadyToIssue 6 = .ok (.invokevirtual 97, 3) := by decide +kernel
theorem dX5_isReadyToIssue_9 : decode cX5_isReadyToIssue 9 = .ok (.iconst 1, 1) := by decide +kernel
theorem dX5_isReadyToIssue_10 : decode cX5_isReadyToIssue 10 = .ok (.if_icmp .ne 15, 3) := by decide +kernel
theorem dX5_isReadyToIssue_13 : decode cX5_isReadyToIssue 13 = .ok (.aload_n 0, 1) := by decide +kernel
theorem dX5_isReadyToIssue_14 : decode cX5_isReadyToIssue 14 = .ok (.iload_n 1, 1) := by decide +kernel
theorem dX5_isReadyToIssue_15 : decode cX5_isReadyToIssue 15 = .ok (.invokevirtual 127, 3) := by decide +kernel
theorem dX5_isReadyToIssue_18 : decode cX5_isReadyToIssue 18 = .ok (.ifCond .ne 7, 3) := by decide +kernel
theorem dX5_isReadyToIssue_21 : decode cX5_isReadyToIssue 21 = .ok (.iconst 1, 1) := by decide +kernel
theorem dX5_isReadyToIssue_22 : decode cX5_isReadyToIssue 22 = .ok (.goto 4, 3) := by decide +kernel
theorem dX5_isReadyToIssue_25 : decode cX5_isReadyToIssue 25 = .ok (.iconst 0, 1) := by decide +kernel
theorem dX5_isReadyToIssue_26 : decode cX5_isReadyToIssue 26 = .ok (.ireturn, 1) := by decide +kernel
set_option maxRecDepth 20000 in
theorem ggX5_areAllIssued_X5_isIn : GoodIn wsX5_areAllIssued wsX5_isIn := goodIn_r _ [6] (by decide +kernel) (by decide +kernel)
set_option maxRecDepth 20000 in
theorem gX5_areAllIssued_X5_isIn : GoodIn wsX5_areAllIssued (va_wsS RX5 216 yX5_isIn wsX5_isIn) := goodIn_app (goodIn_of _ (by decide +kernel)) ggX5_areAllIssued_X5_isIn
theorem dX5_areAllIssued_0 : decode cX5_areAllIssued 0 = .ok (.iconst 0, 1) := by decide +kernel
theorem dX5_areAllIssued_1 : decode cX5_areAllIssued 1 = .ok (.istore_n 2, 1) := by decide +kernel
theorem dX5_areAllIssued_2 : decode cX5_areAllIssued 2 = .ok (.iload_n 2, 1) := by decide +kernel
theorem dX5_areAllIssued_3 : decode cX5_areAllIssued 3 = .ok (.aload_n 0, 1) := by decide +kernel
theorem dX5_areAllIssued_4 : decode cX5_areAllIssued 4 = .ok (.getfield 48, 3) := by decide +kernel
theorem dX5_areAllIssued_7 : decode cX5_areAllIssued 7 = .ok (.if_icmp .ge 32, 3) := by decide +kernel
theorem dX5_areAllIssued_10 : decode cX5_areAllIssued 10 = .ok (.iload_n 1, 1) := by decide +kernel
theorem dX5_areAllIssued_11 : decode cX5_areAllIssued 11 = .ok (.iload_n 2, 1) := by decide +kernel
theorem dX5_areAllIssued_12 : decode cX5_areAllIssued 12 = .ok (.invokestatic 216, 3) := by decide +kernel
theorem dX5_areAllIssued_15 : decode cX5_areAllIssued 15 = .ok (.ifCond .eq 18, 3) := by decide +kernel
theorem dX5_areAllIssued_18 : decode cX5_areAllIssued 18 = .ok (.aload_n 0, 1) := by decide +kernel
theorem dX5_areAllIssued_19 : decode cX5_areAllIssued 19 = .ok (.getfield 11, 3) := by decide +kernel
theorem dX5_areAllIssued_22 : decode cX5_areAllIssued 22 = .ok (.iload_n 2, 1) := by decide +kernel
theorem dX5_areAllIssued_23 : decode cX5_areAllIssued 23 = .ok (.aaload, 1) := by decide +kernel
theorem dX5_areAllIssued_24 : decode cX5_areAllIssued 24 = .ok (.getfield 156, 3) := by decide +kernel
theorem dX5_areAllIssued_27 : decode cX5_areAllIssued 27 = .ok (.iconst (-1), 1) := by decide +kernel
theorem dX5_areAllIssued_28 : decode cX5_areAllIssued 28 = .ok (.if_icmp .ne 5, 3) := by decide +kernel
theorem dX5_areAllIssued_31 : decode cX5_areAllIssued 31 = .ok (.iconst 0, 1) := by decide +kernel
theorem dX5_areAllIssued_32 : decode cX5_areAllIssued 32 = .ok (.ireturn, 1) := by decide +kernel
theorem dX5_areAllIssued_33 : decode cX5_areAllIssued 33 = .ok (.iinc 2 1, 3) := by decide +kernel
theorem dX5_areAllIssued_36 : decode cX5_areAllIssued 36 = .ok (.goto (-34), 3) := by decide +kernel
theorem dX5_areAllIssued_39 : decode cX5_areAllIssued 39 = .ok (.iconst 1, 1) := by decide +kernel
theorem dX5_areAllIssued_40 : decode cX5_areAllIssued 40 = .ok (.ireturn, 1) := by decide +kernel
set_option maxRecDepth 20000 in
theorem ggX5_packSheets_X5_isIn : GoodIn wsX5_packSheets wsX5_isIn := goodIn_r _ [6] (by decide +kernel) (by decide +kernel)
set_option maxRecDepth 20000 in
theorem gX5_packSheets_X5_isIn : GoodIn wsX5_packSheets (va_wsS RX5 216 yX5_isIn wsX5_isIn) := goodIn_app (goodIn_of _ (by decide +kernel)) ggX5_packSheets_X5_isIn
theorem dX5_packSheets_0 : decode cX5_packSheets 0 = .ok (.iconst 0, 1) := by decide +kernel
theorem dX5_packSheets_1 : decode cX5_packSheets 1 = .ok (.istore_n 3, 1) := by decide +kernel
theorem dX5_packSheets_2 : decode cX5_packSheets 2 = .ok (.iload_n 3, 1) := by decide +kernel
theorem dX5_packSheets_3 : decode cX5_packSheets 3 = .ok (.aload_n 0, 1) := by decide +kernel
theorem dX5_packSheets_4 : decode cX5_packSheets 4 = .ok (.getfield 48, 3) := by decide +kernel
theorem dX5_packSheets_7 : decode cX5_packSheets 7 = .ok (.if_icmp .ge 32, 3) := by decide +kernel
theorem dX5_packSheets_10 : decode cX5_packSheets 10 = .ok (.iload_n 2, 1) := by decide +kernel
theorem dX5_packSheets_11 : decode cX5_packSheets 11 = .ok (.iload_n 3, 1) := by decide +kernel
theorem dX5_packSheets_12 : decode cX5_packSheets 12 = .ok (.invokestatic 216, 3) := by decide +kernel
theorem dX5_packSheets_15 : decode cX5_packSheets 15 = .ok (.ifCond .eq 18, 3) := by decide +kernel
theorem dX5_packSheets_18 : decode cX5_packSheets 18 = .ok (.aload_n 1, 1) := by decide +kernel
theorem dX5_packSheets_19 : decode cX5_packSheets 19 = .ok (.getfield 403, 3) := by decide +kernel
theorem dX5_packSheets_22 : decode cX5_packSheets 22 = .ok (.iload_n 3, 1) := by decide +kernel
theorem dX5_packSheets_23 : decode cX5_packSheets 23 = .ok (.aload_n 0, 1) := by decide +kernel
theorem dX5_packSheets_24 : decode cX5_packSheets 24 = .ok (.getfield 11, 3) := by decide +kernel
theorem dX5_packSheets_27 : decode cX5_packSheets 27 = .ok (.iload_n 3, 1) := by decide +kernel
theorem dX5_packSheets_28 : decode cX5_packSheets 28 = .ok (.aaload, 1) := by decide +kernel
theorem dX5_packSheets_29 : decode cX5_packSheets 29 = .ok (.getfield 156, 3) := by decide +kernel
theorem dX5_packSheets_32 : decode cX5_packSheets 32 = .ok (.iastore, 1) := by decide +kernel
theorem dX5_packSheets_33 : decode cX5_packSheets 33 = .ok (.iinc 3 1, 3) := by decide +kernel
theorem dX5_packSheets_36 : decode cX5_packSheets 36 = .ok (.goto (-34), 3) := by decide +kernel
theorem dX5_packSheets_39 : decode cX5_packSheets 39 = .ok (.return_, 1) := by decide +kernel
theorem dX5_takeLater_0 : decode cX5_takeLater 0 = .ok (.iconst 0, 1) := by decide +kernel
theorem dX5_takeLater_1 : decode cX5_takeLater 1 = .ok (.istore_n 2, 1) := by decide +kernel
theorem dX5_takeLater_2 : decode cX5_takeLater 2 = .ok (.iconst 0, 1) := by decide +kernel
theorem dX5_takeLater_3 : decode cX5_takeLater 3 = .ok (.istore_n 3, 1) := by decide +kernel
theorem dX5_takeLater_4 : decode cX5_takeLater 4 = .ok (.iload_n 3, 1) := by decide +kernel
theorem dX5_takeLater_5 : decode cX5_takeLater 5 = .ok (.bipush 10, 2) := by decide +kernel
theorem dX5_takeLater_7 : decode cX5_takeLater 7 = .ok (.if_icmp .ge 33, 3) := by decide +kernel
theorem dX5_takeLater_10 : decode cX5_takeLater 10 = .ok (.aload_n 0, 1) := by decide +kernel
theorem dX5_takeLater_11 : decode cX5_takeLater 11 = .ok (.getfield 403, 3) := by decide +kernel
theorem dX5_takeLater_14 : decode cX5_takeLater 14 = .ok (.iload_n 3, 1) := by decide +kernel
theorem dX5_takeLater_15 : decode cX5_takeLater 15 = .ok (.iaload, 1) := by decide +kernel
theorem dX5_takeLater_16 : decode cX5_takeLater 16 = .ok (.aload_n 1, 1) := by decide +kernel
theorem dX5_takeLater_17 : decode cX5_takeLater 17 = .ok (.iload_n 3, 1) := by decide +kernel
theorem dX5_takeLater_18 : decode cX5_takeLater 18 = .ok (.iaload, 1) := by decide +kernel
theorem dX5_takeLater_19 : decode cX5_takeLater 19 = .ok (.if_icmp .le 15, 3) := by decide +kernel
theorem dX5_takeLater_22 : decode cX5_takeLater 22 = .ok (.aload_n 1, 1) := by decide +kernel
theorem dX5_takeLater_23 : decode cX5_takeLater 23 = .ok (.iload_n 3, 1) := by decide +kernel
theorem dX5_takeLater_24 : decode cX5_takeLater 24 = .ok (.aload_n 0, 1) := by decide +kernel
theorem dX5_takeLater_25 : decode cX5_takeLater 25 = .ok (.getfield 403, 3) := by decide +kernel
theorem dX5_takeLater_28 : decode cX5_takeLater 28 = .ok (.iload_n 3, 1) := by decide +kernel
theorem dX5_takeLater_29 : decode cX5_takeLater 29 = .ok (.iaload, 1) := by decide +kernel
theorem dX5_takeLater_30 : decode cX5_takeLater 30 = .ok (.iastore, 1) := by decide +kernel
theorem dX5_takeLater_31 : decode cX5_takeLater 31 = .ok (.iinc 2 1, 3) := by decide +kernel
theorem dX5_takeLater_34 : decode cX5_takeLater 34 = .ok (.iinc 3 1, 3) := by decide +kernel
theorem dX5_takeLater_37 : decode cX5_takeLater 37 = .ok (.goto (-33), 3) := by decide +kernel
theorem dX5_takeLater_40 : decode cX5_takeLater 40 = .ok (.iload_n 2, 1) := by decide +kernel
theorem dX5_takeLater_41 : decode cX5_takeLater 41 = .ok (.ireturn, 1) := by decide +kernel
theorem dX5_closePromised_0 : decode cX5_closePromised 0 = .ok (.iconst 0, 1) := by decide +kernel
theorem dX5_closePromised_1 : decode cX5_closePromised 1 = .ok (.istore_n 2, 1) := by decide +kernel
theorem dX5_closePromised_2 : decode cX5_closePromised 2 = .ok (.iload_n 2, 1) := by decide +kernel
theorem dX5_closePromised_3 : decode cX5_closePromised 3 = .ok (.aload_n 0, 1) := by decide +kernel
theorem dX5_closePromised_4 : decode cX5_closePromised 4 = .ok (.getfield 58, 3) := by decide +kernel
theorem dX5_closePromised_7 : decode cX5_closePromised 7 = .ok (.if_icmp .ge 45, 3) := by decide +kernel
theorem dX5_closePromised_10 : decode cX5_closePromised 10 = .ok (.aload_n 0, 1) := by decide +kernel
theorem dX5_closePromised_11 : decode cX5_closePromised 11 = .ok (.getfield 29, 3) := by decide +kernel
theorem dX5_closePromised_14 : decode cX5_closePromised 14 = .ok (.iload_n 2, 1) := by decide +kernel
theorem dX5_closePromised_15 : decode cX5_closePromised 15 = .ok (.aaload, 1) := by decide +kernel
theorem dX5_closePromised_16 : decode cX5_closePromised 16 = .ok (.getfield 406, 3) := by decide +kernel
theorem dX5_closePromised_19 : decode cX5_closePromised 19 = .ok (.iload_n 1, 1) := by decide +kernel
theorem dX5_closePromised_20 : decode cX5_closePromised 20 = .ok (.if_icmp .ne 26, 3) := by decide +kernel
theorem dX5_closePromised_23 : decode cX5_closePromised 23 = .ok (.aload_n 0, 1) := by decide +kernel
theorem dX5_closePromised_24 : decode cX5_closePromised 24 = .ok (.getfield 29, 3) := by decide +kernel
theorem dX5_closePromised_27 : decode cX5_closePromised 27 = .ok (.iload_n 2, 1) := by decide +kernel
theorem dX5_closePromised_28 : decode cX5_closePromised 28 = .ok (.aaload, 1) := by decide +kernel
theorem dX5_closePromised_29 : decode cX5_closePromised 29 = .ok (.getfield 237, 3) := by decide +kernel
theorem dX5_closePromised_32 : decode cX5_closePromised 32 = .ok (.iconst 1, 1) := by decide +kernel
theorem dX5_closePromised_33 : decode cX5_closePromised 33 = .ok (.if_icmp .ne 13, 3) := by decide +kernel
theorem dX5_closePromised_36 : decode cX5_closePromised 36 = .ok (.aload_n 0, 1) := by decide +kernel
theorem dX5_closePromised_37 : decode cX5_closePromised 37 = .ok (.getfield 29, 3) := by decide +kernel
theorem dX5_closePromised_40 : decode cX5_closePromised 40 = .ok (.iload_n 2, 1) := by decide +kernel
theorem dX5_closePromised_41 : decode cX5_closePromised 41 = .ok (.aaload, 1) := by decide +kernel
theorem dX5_closePromised_42 : decode cX5_closePromised 42 = .ok (.iconst 2, 1) := by decide +kernel
theorem dX5_closePromised_43 : decode cX5_closePromised 43 = .ok (.putfield 237, 3) := by decide +kernel
theorem dX5_closePromised_46 : decode cX5_closePromised 46 = .ok (.iinc 2 1, 3) := by decide +kernel
theorem dX5_closePromised_49 : decode cX5_closePromised 49 = .ok (.goto (-47), 3) := by decide +kernel
theorem dX5_closePromised_52 : decode cX5_closePromised 52 = .ok (.return_, 1) := by decide +kernel
theorem dX5_queriesNotClosed_0 : decode cX5_queriesNotClosed 0 = .ok (.iconst 0, 1) := by decide +kernel
theorem dX5_queriesNotClosed_1 : decode cX5_queriesNotClosed 1 = .ok (.istore_n 1, 1) := by decide +kernel
theorem dX5_queriesNotClosed_2 : decode cX5_queriesNotClosed 2 = .ok (.iconst 0, 1) := by decide +kernel
theorem dX5_queriesNotClosed_3 : decode cX5_queriesNotClosed 3 = .ok (.istore_n 2, 1) := by decide +kernel
theorem dX5_queriesNotClosed_4 : decode cX5_queriesNotClosed 4 = .ok (.iload_n 2, 1) := by decide +kernel
theorem dX5_queriesNotClosed_5 : decode cX5_queriesNotClosed 5 = .ok (.aload_n 0, 1) := by decide +kernel
theorem dX5_queriesNotClosed_6 : decode cX5_queriesNotClosed 6 = .ok (.getfield 58, 3) := by decide +kernel
theorem dX5_queriesNotClosed_9 : decode cX5_queriesNotClosed 9 = .ok (.if_icmp .ge 25, 3) := by decide +kernel
theorem dX5_queriesNotClosed_12 : decode cX5_queriesNotClosed 12 = .ok (.aload_n 0, 1) := by decide +kernel
theorem dX5_queriesNotClosed_13 : decode cX5_queriesNotClosed 13 = .ok (.getfield 29, 3) := by decide +kernel
theorem dX5_queriesNotClosed_16 : decode cX5_queriesNotClosed 16 = .ok (.iload_n 2, 1) := by decide +kernel
theorem dX5_queriesNotClosed_17 : decode cX5_queriesNotClosed 17 = .ok (.aaload, 1) := by decide +kernel
theorem dX5_queriesNotClosed_18 : decode cX5_queriesNotClosed 18 = .ok (.getfield 237, 3) := by decide +kernel
theorem dX5_queriesNotClosed_21 : decode cX5_queriesNotClosed 21 = .ok (.iconst 2, 1) := by decide +kernel
theorem dX5_queriesNotClosed_22 : decode cX5_queriesNotClosed 22 = .ok (.if_icmp .eq 6, 3) := by decide +kernel
theorem dX5_queriesNotClosed_25 : decode cX5_queriesNotClosed 25 = .ok (.iinc 1 1, 3) := by decide +kernel
theorem dX5_queriesNotClosed_28 : decode cX5_queriesNotClosed 28 = .ok (.iinc 2 1, 3) := by decide +kernel
theorem dX5_queriesNotClosed_31 : decode cX5_queriesNotClosed 31 = .ok (.goto (-27), 3) := by decide +kernel
theorem dX5_queriesNotClosed_34 : decode cX5_queriesNotClosed 34 = .ok (.iload_n 1, 1) := by decide +kernel
theorem dX5_queriesNotClosed_35 : decode cX5_queriesNotClosed 35 = .ok (.ireturn, 1) := by decide +kernel
set_option maxRecDepth 20000 in
theorem ggX5_clashRegion_X5_isIn : GoodIn wsX5_clashRegion wsX5_isIn := goodIn_r _ [5] (by decide +kernel) (by decide +kernel)
set_option maxRecDepth 20000 in
theorem gX5_clashRegion_X5_isIn : GoodIn wsX5_clashRegion (va_wsS RX5 216 yX5_isIn wsX5_isIn) := goodIn_app (goodIn_of _ (by decide +kernel)) ggX5_clashRegion_X5_isIn
theorem dX5_clashRegion_0 : decode cX5_clashRegion 0 = .ok (.aload_n 0, 1) := by decide +kernel
theorem dX5_clashRegion_1 : decode cX5_clashRegion 1 = .ok (.getfield 11, 3) := by decide +kernel
theorem dX5_clashRegion_4 : decode cX5_clashRegion 4 = .ok (.iload_n 1, 1) := by decide +kernel
theorem dX5_clashRegion_5 : decode cX5_clashRegion 5 = .ok (.aaload, 1) := by decide +kernel
theorem dX5_clashRegion_6 : decode cX5_clashRegion 6 = .ok (.astore_n 3, 1) := by decide +kernel
theorem dX5_clashRegion_7 : decode cX5_clashRegion 7 = .ok (.aload_n 0, 1) := by decide +kernel
theorem dX5_clashRegion_8 : decode cX5_clashRegion 8 = .ok (.getfield 11, 3) := by decide +kernel
theorem dX5_clashRegion_11 : decode cX5_clashRegion 11 = .ok (.iload_n 2, 1) := by decide +kernel
theorem dX5_clashRegion_12 : decode cX5_clashRegion 12 = .ok (.aaload, 1) := by decide +kernel
theorem dX5_clashRegion_13 : decode cX5_clashRegion 13 = .ok (.astore 4, 2) := by decide +kernel
theorem dX5_clashRegion_15 : decode cX5_clashRegion 15 = .ok (.aload_n 3, 1) := by decide +kernel
theorem dX5_clashRegion_16 : decode cX5_clashRegion 16 = .ok (.getfield 153, 3) := by decide +kernel
theorem dX5_clashRegion_19 : decode cX5_clashRegion 19 = .ok (.aload 4, 2) := by decide +kernel
theorem dX5_clashRegion_21 : decode cX5_clashRegion 21 = .ok (.getfield 153, 3) := by decide +kernel
theorem dX5_clashRegion_24 : decode cX5_clashRegion 24 = .ok (.if_icmp .eq 14, 3) := by decide +kernel
theorem dX5_clashRegion_27 : decode cX5_clashRegion 27 = .ok (.aload_n 3, 1) := by decide +kernel
theorem dX5_clashRegion_28 : decode cX5_clashRegion 28 = .ok (.getfield 249, 3) := by decide +kernel
theorem dX5_clashRegion_31 : decode cX5_clashRegion 31 = .ok (.iload_n 2, 1) := by decide +kernel
theorem dX5_clashRegion_32 : decode cX5_clashRegion 32 = .ok (.invokestatic 216, 3) := by decide +kernel
theorem dX5_clashRegion_35 : decode cX5_clashRegion 35 = .ok (.ifCond .eq 5, 3) := by decide +kernel
theorem dX5_clashRegion_38 : decode cX5_clashRegion 38 = .ok (.lconst 0, 1) := by decide +kernel
theorem dX5_clashRegion_39 : decode cX5_clashRegion 39 = .ok (.lreturn, 1) := by decide +kernel
theorem dX5_clashRegion_40 : decode cX5_clashRegion 40 = .ok (.aload_n 3, 1) := by decide +kernel
theorem dX5_clashRegion_41 : decode cX5_clashRegion 41 = .ok (.getfield 159, 3) := by decide +kernel
theorem dX5_clashRegion_44 : decode cX5_clashRegion 44 = .ok (.aload 4, 2) := by decide +kernel
theorem dX5_clashRegion_46 : decode cX5_clashRegion 46 = .ok (.getfield 159, 3) := by decide +kernel
theorem dX5_clashRegion_49 : decode cX5_clashRegion 49 = .ok (.land, 1) := by decide +kernel
theorem dX5_clashRegion_50 : decode cX5_clashRegion 50 = .ok (.lreturn, 1) := by decide +kernel
set_option maxRecDepth 20000 in
theorem ggX5_clashesOf_X5_clashRegion : GoodIn wsX5_clashesOf wsX5_clashRegion := goodIn_r _ [6, 7, 8, 9, 5, 10, 16, 17, 18, 19, 20, 21, 22, 23, 24, 25, 26, 27, 28, 29, 30, 31, 32, 33, 34, 35, 36, 37, 38] (by decide +kernel) (by decide +kernel)
set_option maxRecDepth 20000 in
theorem gX5_clashesOf_X5_clashRegion : GoodIn wsX5_clashesOf (wsV RX5 245 RX5 yX5_clashRegion wsX5_clashRegion) := goodIn_app (goodIn_of _ (by decide +kernel)) ggX5_clashesOf_X5_clashRegion
set_option maxRecDepth 20000 in
theorem ggX5_clashesOf_X5_hasField : GoodIn wsX5_clashesOf wsX5_hasField := goodIn_r _ [13, 14, 15] (by decide +kernel) (by decide +kernel)
set_option maxRecDepth 20000 in
theorem gX5_clashesOf_X5_hasField : GoodIn wsX5_clashesOf (va_wsS RX5 409 yX5_hasField wsX5_hasField) := goodIn_app (goodIn_of _ (by decide +kernel)) ggX5_clashesOf_X5_hasField
theorem dX5_clashesOf_0 : decode cX5_clashesOf 0 = .ok (.iconst 0, 1) := by decide +kernel
theorem dX5_clashesOf_1 : decode cX5_clashesOf 1 = .ok (.istore_n 2, 1) := by decide +kernel
theorem dX5_clashesOf_2 : decode cX5_clashesOf 2 = .ok (.iconst 0, 1) := by decide +kernel
theorem dX5_clashesOf_3 : decode cX5_clashesOf 3 = .ok (.istore_n 3, 1) := by decide +kernel
theorem dX5_clashesOf_4 : decode cX5_clashesOf 4 = .ok (.iload_n 3, 1) := by decide +kernel
theorem dX5_clashesOf_5 : decode cX5_clashesOf 5 = .ok (.aload_n 0, 1) := by decide +kernel
theorem dX5_clashesOf_6 : decode cX5_clashesOf 6 = .ok (.getfield 48, 3) := by decide +kernel
theorem dX5_clashesOf_9 : decode cX5_clashesOf 9 = .ok (.if_icmp .ge 24, 3) := by decide +kernel
theorem dX5_clashesOf_12 : decode cX5_clashesOf 12 = .ok (.aload_n 0, 1) := by decide +kernel
theorem dX5_clashesOf_13 : decode cX5_clashesOf 13 = .ok (.iload_n 1, 1) := by decide +kernel
theorem dX5_clashesOf_14 : decode cX5_clashesOf 14 = .ok (.iload_n 3, 1) := by decide +kernel
theorem dX5_clashesOf_15 : decode cX5_clashesOf 15 = .ok (.invokevirtual 245, 3) := by decide +kernel
theorem dX5_clashesOf_18 : decode cX5_clashesOf 18 = .ok (.invokestatic 409, 3) := by decide +kernel
theorem dX5_clashesOf_21 : decode cX5_clashesOf 21 = .ok (.ifCond .eq 6, 3) := by decide +kernel
theorem dX5_clashesOf_24 : decode cX5_clashesOf 24 = .ok (.iinc 2 1, 3) := by decide +kernel
theorem dX5_clashesOf_27 : decode cX5_clashesOf 27 = .ok (.iinc 3 1, 3) := by decide +kernel
theorem dX5_clashesOf_30 : decode cX5_clashesOf 30 = .ok (.goto (-26), 3) := by decide +kernel
theorem dX5_clashesOf_33 : decode cX5_clashesOf 33 = .ok (.iload_n 2, 1) := by decide +kernel
theorem dX5_clashesOf_34 : decode cX5_clashesOf 34 = .ok (.ireturn, 1) := by decide +kernel
set_option maxRecDepth 20000 in
theorem ggX5_clashingPairs_X5_clashRegion : GoodIn wsX5_clashingPairs wsX5_clashRegion := goodIn_r _ [6, 7, 8, 9, 5, 10, 16, 17, 18, 19, 20, 21, 22, 23, 24, 25, 26, 27, 28, 29, 30, 31, 32, 33, 34, 35, 36, 37, 38] (by decide +kernel) (by decide +kernel)
set_option maxRecDepth 20000 in
theorem gX5_clashingPairs_X5_clashRegion : GoodIn wsX5_clashingPairs (wsV RX5 245 RX5 yX5_clashRegion wsX5_clashRegion) := goodIn_app (goodIn_of _ (by decide +kernel)) ggX5_clashingPairs_X5_clashRegion
set_option maxRecDepth 20000 in
theorem ggX5_clashingPairs_X5_hasField : GoodIn wsX5_clashingPairs wsX5_hasField := goodIn_r _ [13, 14, 15] (by decide +kernel) (by decide +kernel)
set_option maxRecDepth 20000 in
theorem gX5_clashingPairs_X5_hasField : GoodIn wsX5_clashingPairs (va_wsS RX5 409 yX5_hasField wsX5_hasField) := goodIn_app (goodIn_of _ (by decide +kernel)) ggX5_clashingPairs_X5_hasField
theorem dX5_clashingPairs_0 : decode cX5_clashingPairs 0 = .ok (.iconst 0, 1) := by decide +kernel
theorem dX5_clashingPairs_1 : decode cX5_clashingPairs 1 = .ok (.istore_n 1, 1) := by decide +kernel
theorem dX5_clashingPairs_2 : decode cX5_clashingPairs 2 = .ok (.iconst 0, 1) := by decide +kernel
theorem dX5_clashingPairs_3 : decode cX5_clashingPairs 3 = .ok (.istore_n 2, 1) := by decide +kernel
theorem dX5_clashingPairs_4 : decode cX5_clashingPairs 4 = .ok (.iload_n 2, 1) := by decide +kernel
theorem dX5_clashingPairs_5 : decode cX5_clashingPairs 5 = .ok (.aload_n 0, 1) := by decide +kernel
theorem dX5_clashingPairs_6 : decode cX5_clashingPairs 6 = .ok (.getfield 48, 3) := by decide +kernel
theorem dX5_clashingPairs_9 : decode cX5_clashingPairs 9 = .ok (.if_icmp .ge 42, 3) := by decide +kernel
theorem dX5_clashingPairs_12 : decode cX5_clashingPairs 12 = .ok (.iload_n 2, 1) := by decide +kernel
theorem dX5_clashingPairs_13 : decode cX5_clashingPairs 13 = .ok (.iconst 1, 1) := by decide +kernel
theorem dX5_clashingPairs_14 : decode cX5_clashingPairs 14 = .ok (.iadd, 1) := by decide +kernel
theorem dX5_clashingPairs_15 : decode cX5_clashingPairs 15 = .ok (.istore_n 3, 1) := by decide +kernel
theorem dX5_clashingPairs_16 : decode cX5_clashingPairs 16 = .ok (.iload_n 3, 1) := by decide +kernel
theorem dX5_clashingPairs_17 : decode cX5_clashingPairs 17 = .ok (.aload_n 0, 1) := by decide +kernel
theorem dX5_clashingPairs_18 : decode cX5_clashingPairs 18 = .ok (.getfield 48, 3) := by decide +kernel
theorem dX5_clashingPairs_21 : decode cX5_clashingPairs 21 = .ok (.if_icmp .ge 24, 3) := by decide +kernel
theorem dX5_clashingPairs_24 : decode cX5_clashingPairs 24 = .ok (.aload_n 0, 1) := by decide +kernel
theorem dX5_clashingPairs_25 : decode cX5_clashingPairs 25 = .ok (.iload_n 2, 1) := by decide +kernel
theorem dX5_clashingPairs_26 : decode cX5_clashingPairs 26 = .ok (.iload_n 3, 1) := by decide +kernel
theorem dX5_clashingPairs_27 : decode cX5_clashingPairs 27 = .ok (.invokevirtual 245, 3) := by decide +kernel
theorem dX5_clashingPairs_30 : decode cX5_clashingPairs 30 = .ok (.invokestatic 409, 3) := by decide +kernel
theorem dX5_clashingPairs_33 : decode cX5_clashingPairs 33 = .ok (.ifCond .eq 6, 3) := by decide +kernel
theorem dX5_clashingPairs_36 : decode cX5_clashingPairs 36 = .ok (.iinc 1 1, 3) := by decide +kernel
theorem dX5_clashingPairs_39 : decode cX5_clashingPairs 39 = .ok (.iinc 3 1, 3) := by decide +kernel
theorem dX5_clashingPairs_42 : decode cX5_clashingPairs 42 = .ok (.goto (-26), 3) := by decide +kernel
theorem dX5_clashingPairs_45 : decode cX5_clashingPairs 45 = .ok (.iinc 2 1, 3) := by decide +kernel
theorem dX5_clashingPairs_48 : decode cX5_clashingPairs 48 = .ok (.goto (-44), 3) := by decide +kernel
theorem dX5_clashingPairs_51 : decode cX5_clashingPairs 51 = .ok (.iload_n 1, 1) := by decide +kernel
theorem dX5_clashingPairs_52 : decode cX5_clashingPairs 52 = .ok (.ireturn, 1) := by decide +kernel
set_option maxRecDepth 20000 in
theorem ggX5_cloudsOver_X5_hasField : GoodIn wsX5_cloudsOver wsX5_hasField := goodIn_r _ [7, 8, 9] (by decide +kernel) (by decide +kernel)
set_option maxRecDepth 20000 in
theorem gX5_cloudsOver_X5_hasField : GoodIn wsX5_cloudsOver (va_wsS RX5 409 yX5_hasField wsX5_hasField) := goodIn_app (goodIn_of _ (by decide +kernel)) ggX5_cloudsOver_X5_hasField
set_option maxRecDepth 20000 in
theorem ggX5_cloudsOver_X5_clashRegion : GoodIn wsX5_cloudsOver wsX5_clashRegion := goodIn_r _ [13, 14, 15, 16, 6, 17, 18, 19, 20, 21, 22, 23, 24, 25, 26, 27, 28, 29, 30, 34, 35, 36, 37, 38, 39, 40, 41, 42, 43] (by decide +kernel) (by decide +kernel)
set_option maxRecDepth 20000 in
theorem gX5_cloudsOver_X5_clashRegion : GoodIn wsX5_cloudsOver (wsV RX5 245 RX5 yX5_clashRegion wsX5_clashRegion) := goodIn_app (goodIn_of _ (by decide +kernel)) ggX5_cloudsOver_X5_clashRegion
theorem dX5_cloudsOver_0 : decode cX5_cloudsOver 0 = .ok (.iconst 0, 1) := by decide +kernel
theorem dX5_cloudsOver_1 : decode cX5_cloudsOver 1 = .ok (.istore 4, 2) := by decide +kernel
theorem dX5_cloudsOver_3 : decode cX5_cloudsOver 3 = .ok (.iconst 0, 1) := by decide +kernel
theorem dX5_cloudsOver_4 : decode cX5_cloudsOver 4 = .ok (.istore 5, 2) := by decide +kernel
theorem dX5_cloudsOver_6 : decode cX5_cloudsOver 6 = .ok (.iload 5, 2) := by decide +kernel
theorem dX5_cloudsOver_8 : decode cX5_cloudsOver 8 = .ok (.aload_n 0, 1) := by decide +kernel
theorem dX5_cloudsOver_9 : decode cX5_cloudsOver 9 = .ok (.getfield 58, 3) := by decide +kernel
theorem dX5_cloudsOver_12 : decode cX5_cloudsOver 12 = .ok (.if_icmp .ge 52, 3) := by decide +kernel
theorem dX5_cloudsOver_15 : decode cX5_cloudsOver 15 = .ok (.aload_n 0, 1) := by decide +kernel
theorem dX5_cloudsOver_16 : decode cX5_cloudsOver 16 = .ok (.getfield 29, 3) := by decide +kernel
theorem dX5_cloudsOver_19 : decode cX5_cloudsOver 19 = .ok (.iload 5, 2) := by decide +kernel
theorem dX5_cloudsOver_21 : decode cX5_cloudsOver 21 = .ok (.aaload, 1) := by decide +kernel
theorem dX5_cloudsOver_22 : decode cX5_cloudsOver 22 = .ok (.astore 6, 2) := by decide +kernel
theorem dX5_cloudsOver_24 : decode cX5_cloudsOver 24 = .ok (.aload 6, 2) := by decide +kernel
theorem dX5_cloudsOver_26 : decode cX5_cloudsOver 26 = .ok (.getfield 406, 3) := by decide +kernel
theorem dX5_cloudsOver_29 : decode cX5_cloudsOver 29 = .ok (.iload_n 1, 1) := by decide +kernel
theorem dX5_cloudsOver_30 : decode cX5_cloudsOver 30 = .ok (.if_icmp .ne 28, 3) := by decide +kernel
theorem dX5_cloudsOver_33 : decode cX5_cloudsOver 33 = .ok (.aload 6, 2) := by decide +kernel
theorem dX5_cloudsOver_35 : decode cX5_cloudsOver 35 = .ok (.getfield 237, 3) := by decide +kernel
theorem dX5_cloudsOver_38 : decode cX5_cloudsOver 38 = .ok (.iconst 2, 1) := by decide +kernel
theorem dX5_cloudsOver_39 : decode cX5_cloudsOver 39 = .ok (.if_icmp .eq 19, 3) := by decide +kernel
theorem dX5_cloudsOver_42 : decode cX5_cloudsOver 42 = .ok (.aload 6, 2) := by decide +kernel
theorem dX5_cloudsOver_44 : decode cX5_cloudsOver 44 = .ok (.getfield 413, 3) := by decide +kernel
theorem dX5_cloudsOver_47 : decode cX5_cloudsOver 47 = .ok (.lload_n 2, 1) := by decide +kernel
theorem dX5_cloudsOver_48 : decode cX5_cloudsOver 48 = .ok (.land, 1) := by decide +kernel
theorem dX5_cloudsOver_49 : decode cX5_cloudsOver 49 = .ok (.invokestatic 409, 3) := by decide +kernel
theorem dX5_cloudsOver_52 : decode cX5_cloudsOver 52 = .ok (.ifCond .eq 6, 3) := by decide +kernel
theorem dX5_cloudsOver_55 : decode cX5_cloudsOver 55 = .ok (.iinc 4 1, 3) := by decide +kernel
theorem dX5_cloudsOver_58 : decode cX5_cloudsOver 58 = .ok (.iinc 5 1, 3) := by decide +kernel
theorem dX5_cloudsOver_61 : decode cX5_cloudsOver 61 = .ok (.goto (-55), 3) := by decide +kernel
theorem dX5_cloudsOver_64 : decode cX5_cloudsOver 64 = .ok (.iconst 0, 1) := by decide +kernel
theorem dX5_cloudsOver_65 : decode cX5_cloudsOver 65 = .ok (.istore 5, 2) := by decide +kernel
theorem dX5_cloudsOver_67 : decode cX5_cloudsOver 67 = .ok (.iload 5, 2) := by decide +kernel
theorem dX5_cloudsOver_69 : decode cX5_cloudsOver 69 = .ok (.aload_n 0, 1) := by decide +kernel
theorem dX5_cloudsOver_70 : decode cX5_cloudsOver 70 = .ok (.getfield 48, 3) := by decide +kernel
theorem dX5_cloudsOver_73 : decode cX5_cloudsOver 73 = .ok (.if_icmp .ge 27, 3) := by decide +kernel
theorem dX5_cloudsOver_76 : decode cX5_cloudsOver 76 = .ok (.aload_n 0, 1) := by decide +kernel
theorem dX5_cloudsOver_77 : decode cX5_cloudsOver 77 = .ok (.iload_n 1, 1) := by decide +kernel
theorem dX5_cloudsOver_78 : decode cX5_cloudsOver 78 = .ok (.iload 5, 2) := by decide +kernel
theorem dX5_cloudsOver_80 : decode cX5_cloudsOver 80 = .ok (.invokevirtual 245, 3) := by decide +kernel
theorem dX5_cloudsOver_83 : decode cX5_cloudsOver 83 = .ok (.lload_n 2, 1) := by decide +kernel
theorem dX5_cloudsOver_84 : decode cX5_cloudsOver 84 = .ok (.land, 1) := by decide +kernel
theorem dX5_cloudsOver_85 : decode cX5_cloudsOver 85 = .ok (.invokestatic 409, 3) := by decide +kernel
theorem dX5_cloudsOver_88 : decode cX5_cloudsOver 88 = .ok (.ifCond .eq 6, 3) := by decide +kernel
theorem dX5_cloudsOver_91 : decode cX5_cloudsOver 91 = .ok (.iinc 4 1, 3) := by decide +kernel
theorem dX5_cloudsOver_94 : decode cX5_cloudsOver 94 = .ok (.iinc 5 1, 3) := by decide +kernel
theorem dX5_cloudsOver_97 : decode cX5_cloudsOver 97 = .ok (.goto (-30), 3) := by decide +kernel
theorem dX5_cloudsOver_100 : decode cX5_cloudsOver 100 = .ok (.iload 4, 2) := by decide +kernel
theorem dX5_cloudsOver_102 : decode cX5_cloudsOver 102 = .ok (.ireturn, 1) := by decide +kernel
set_option maxRecDepth 20000 in
theorem ggX5_wrongWith_X5_brokenFrom : GoodIn wsX5_wrongWith wsX5_brokenFrom := goodIn_r _ [6, 7, 8, 9, 10, 11, 5, 12, 1, 13, 14, 15, 32, 33, 34, 35, 36, 37, 38, 39, 40, 41, 42, 43, 44, 61, 62, 63, 45, 46, 47, 48, 49, 50, 51, 52, 53, 54] (by decide +kernel) (by decide +kernel)
set_option maxRecDepth 20000 in
theorem gX5_wrongWith_X5_brokenFrom : GoodIn wsX5_wrongWith (wsV RX5 127 RX5 yX5_brokenFrom wsX5_brokenFrom) := goodIn_app (goodIn_of _ (by decide +kernel)) ggX5_wrongWith_X5_brokenFrom
set_option maxRecDepth 20000 in
theorem ggX5_wrongWith_X5_cloudsOver : GoodIn wsX5_wrongWith wsX5_cloudsOver := goodIn_r _ [19, 20, 21, 22, 23, 24, 5, 25, 26, 27, 28, 29, 30, 31, 1, 13, 14, 15, 32, 33, 34, 35, 36, 37, 38, 39, 40, 41, 42, 43, 44, 64, 65, 66, 45, 46, 47, 48, 49, 50, 51, 52, 53, 54] (by decide +kernel) (by decide +kernel)
set_option maxRecDepth 20000 in
theorem gX5_wrongWith_X5_cloudsOver : GoodIn wsX5_wrongWith (wsV RX5 252 RX5 yX5_cloudsOver wsX5_cloudsOver) := goodIn_app (goodIn_of _ (by decide +kernel)) ggX5_wrongWith_X5_cloudsOver
theorem dX5_wrongWith_0 : decode cX5_wrongWith 0 = .ok (.aload_n 0, 1) := by decide +kernel
theorem dX5_wrongWith_1 : decode cX5_wrongWith 1 = .ok (.getfield 11, 3) := by decide +kernel
theorem dX5_wrongWith_4 : decode cX5_wrongWith 4 = .ok (.iload_n 1, 1) := by decide +kernel
theorem dX5_wrongWith_5 : decode cX5_wrongWith 5 = .ok (.aaload, 1) := by decide +kernel
theorem dX5_wrongWith_6 : decode cX5_wrongWith 6 = .ok (.astore 4, 2) := by decide +kernel
theorem dX5_wrongWith_8 : decode cX5_wrongWith 8 = .ok (.aload 4, 2) := by decide +kernel
theorem dX5_wrongWith_10 : decode cX5_wrongWith 10 = .ok (.getfield 156, 3) := by decide +kernel
theorem dX5_wrongWith_13 : decode cX5_wrongWith 13 = .ok (.iconst (-1), 1) := by decide +kernel
theorem dX5_wrongWith_14 : decode cX5_wrongWith 14 = .ok (.if_icmp .ne 5, 3) := by decide +kernel
theorem dX5_wrongWith_17 : decode cX5_wrongWith 17 = .ok (.iconst 1, 1) := by decide +kernel
theorem dX5_wrongWith_18 : decode cX5_wrongWith 18 = .ok (.ireturn, 1) := by decide +kernel
theorem dX5_wrongWith_19 : decode cX5_wrongWith 19 = .ok (.aload_n 3, 1) := by decide +kernel
theorem dX5_wrongWith_20 : decode cX5_wrongWith 20 = .ok (.iload_n 1, 1) := by decide +kernel
theorem dX5_wrongWith_21 : decode cX5_wrongWith 21 = .ok (.iaload, 1) := by decide +kernel
theorem dX5_wrongWith_22 : decode cX5_wrongWith 22 = .ok (.aload 4, 2) := by decide +kernel
theorem dX5_wrongWith_24 : decode cX5_wrongWith 24 = .ok (.getfield 156, 3) := by decide +kernel
theorem dX5_wrongWith_27 : decode cX5_wrongWith 27 = .ok (.if_icmp .eq 5, 3) := by decide +kernel
theorem dX5_wrongWith_30 : decode cX5_wrongWith 30 = .ok (.iconst 2, 1) := by decide +kernel
theorem dX5_wrongWith_31 : decode cX5_wrongWith 31 = .ok (.ireturn, 1) := by decide +kernel
theorem dX5_wrongWith_32 : decode cX5_wrongWith 32 = .ok (.aload_n 0, 1) := by decide +kernel
theorem dX5_wrongWith_33 : decode cX5_wrongWith 33 = .ok (.iload_n 1, 1) := by decide +kernel
theorem dX5_wrongWith_34 : decode cX5_wrongWith 34 = .ok (.invokevirtual 127, 3) := by decide +kernel
theorem dX5_wrongWith_37 : decode cX5_wrongWith 37 = .ok (.ifCond .le 5, 3) := by decide +kernel
theorem dX5_wrongWith_40 : decode cX5_wrongWith 40 = .ok (.iconst 3, 1) := by decide +kernel
theorem dX5_wrongWith_41 : decode cX5_wrongWith 41 = .ok (.ireturn, 1) := by decide +kernel
theorem dX5_wrongWith_42 : decode cX5_wrongWith 42 = .ok (.aload_n 0, 1) := by decide +kernel
theorem dX5_wrongWith_43 : decode cX5_wrongWith 43 = .ok (.iload_n 1, 1) := by decide +kernel
theorem dX5_wrongWith_44 : decode cX5_wrongWith 44 = .ok (.aload_n 2, 1) := by decide +kernel
theorem dX5_wrongWith_45 : decode cX5_wrongWith 45 = .ok (.getfield 267, 3) := by decide +kernel
theorem dX5_wrongWith_48 : decode cX5_wrongWith 48 = .ok (.invokevirtual 252, 3) := by decide +kernel
theorem dX5_wrongWith_51 : decode cX5_wrongWith 51 = .ok (.ifCond .le 5, 3) := by decide +kernel
theorem dX5_wrongWith_54 : decode cX5_wrongWith 54 = .ok (.iconst 4, 1) := by decide +kernel
theorem dX5_wrongWith_55 : decode cX5_wrongWith 55 = .ok (.ireturn, 1) := by decide +kernel
theorem dX5_wrongWith_56 : decode cX5_wrongWith 56 = .ok (.aload 4, 2) := by decide +kernel
theorem dX5_wrongWith_58 : decode cX5_wrongWith 58 = .ok (.getfield 166, 3) := by decide +kernel
theorem dX5_wrongWith_61 : decode cX5_wrongWith 61 = .ok (.iconst 3, 1) := by decide +kernel
theorem dX5_wrongWith_62 : decode cX5_wrongWith 62 = .ok (.if_icmp .lt 7, 3) := by decide +kernel
theorem dX5_wrongWith_65 : decode cX5_wrongWith 65 = .ok (.iconst 5, 1) := by decide +kernel
theorem dX5_wrongWith_66 : decode cX5_wrongWith 66 = .ok (.goto 4, 3) := by decide +kernel
theorem dX5_wrongWith_69 : decode cX5_wrongWith 69 = .ok (.iconst 0, 1) := by decide +kernel
theorem dX5_wrongWith_70 : decode cX5_wrongWith 70 = .ok (.ireturn, 1) := by decide +kernel
set_option maxRecDepth 20000 in
theorem ggX5_firstUnfit_X5_isIn : GoodIn wsX5_firstUnfit wsX5_isIn := goodIn_r _ [5] (by decide +kernel) (by decide +kernel)
set_option maxRecDepth 20000 in
theorem gX5_firstUnfit_X5_isIn : GoodIn wsX5_firstUnfit (va_wsS RX5 216 yX5_isIn wsX5_isIn) := goodIn_app (goodIn_of _ (by decide +kernel)) ggX5_firstUnfit_X5_isIn
set_option maxRecDepth 20000 in
theorem ggX5_firstUnfit_X5_wrongWith : GoodIn wsX5_firstUnfit wsX5_wrongWith := goodIn_r _ [9, 10, 11, 12, 13, 4, 14, 15, 16, 17, 18, 19, 20, 2, 3, 5, 21, 22, 23, 24, 25, 26, 1, 27, 28, 29, 30, 31, 32, 33, 34, 35, 36, 37, 38, 39, 40, 41, 42, 43, 44, 45, 46, 47, 48, 55, 56, 57, 58, 59, 60, 61, 62, 63, 64, 49, 50, 51, 52, 53, 54, 65, 66, 67, 68, 69, 70] (by decide +kernel) (by decide +kernel)
set_option maxRecDepth 20000 in
theorem gX5_firstUnfit_X5_wrongWith : GoodIn wsX5_firstUnfit (wsV RX5 414 RX5 yX5_wrongWith wsX5_wrongWith) := goodIn_app (goodIn_of _ (by decide +kernel)) ggX5_firstUnfit_X5_wrongWith
theorem dX5_firstUnfit_0 : decode cX5_firstUnfit 0 = .ok (.iconst 0, 1) := by decide +kernel
theorem dX5_firstUnfit_1 : decode cX5_firstUnfit 1 = .ok (.istore_n 3, 1) := by decide +kernel
theorem dX5_firstUnfit_2 : decode cX5_firstUnfit 2 = .ok (.iload_n 3, 1) := by decide +kernel
theorem dX5_firstUnfit_3 : decode cX5_firstUnfit 3 = .ok (.aload_n 0, 1) := by decide +kernel
theorem dX5_firstUnfit_4 : decode cX5_firstUnfit 4 = .ok (.getfield 48, 3) := by decide +kernel
theorem dX5_firstUnfit_7 : decode cX5_firstUnfit 7 = .ok (.if_icmp .ge 32, 3) := by decide +kernel
theorem dX5_firstUnfit_10 : decode cX5_firstUnfit 10 = .ok (.aload_n 1, 1) := by decide +kernel
theorem dX5_firstUnfit_11 : decode cX5_firstUnfit 11 = .ok (.getfield 289, 3) := by decide +kernel
theorem dX5_firstUnfit_14 : decode cX5_firstUnfit 14 = .ok (.iload_n 3, 1) := by decide +kernel
theorem dX5_firstUnfit_15 : decode cX5_firstUnfit 15 = .ok (.invokestatic 216, 3) := by decide +kernel
theorem dX5_firstUnfit_18 : decode cX5_firstUnfit 18 = .ok (.ifCond .eq 15, 3) := by decide +kernel
theorem dX5_firstUnfit_21 : decode cX5_firstUnfit 21 = .ok (.aload_n 0, 1) := by decide +kernel
theorem dX5_firstUnfit_22 : decode cX5_firstUnfit 22 = .ok (.iload_n 3, 1) := by decide +kernel
theorem dX5_firstUnfit_23 : decode cX5_firstUnfit 23 = .ok (.aload_n 1, 1) := by decide +kernel
theorem dX5_firstUnfit_24 : decode cX5_firstUnfit 24 = .ok (.aload_n 2, 1) := by decide +kernel
theorem dX5_firstUnfit_25 : decode cX5_firstUnfit 25 = .ok (.invokevirtual 414, 3) := by decide +kernel
theorem dX5_firstUnfit_28 : decode cX5_firstUnfit 28 = .ok (.ifCond .eq 5, 3) := by decide +kernel
theorem dX5_firstUnfit_31 : decode cX5_firstUnfit 31 = .ok (.iload_n 3, 1) := by decide +kernel
theorem dX5_firstUnfit_32 : decode cX5_firstUnfit 32 = .ok (.ireturn, 1) := by decide +kernel
theorem dX5_firstUnfit_33 : decode cX5_firstUnfit 33 = .ok (.iinc 3 1, 3) := by decide +kernel
theorem dX5_firstUnfit_36 : decode cX5_firstUnfit 36 = .ok (.goto (-34), 3) := by decide +kernel
theorem dX5_firstUnfit_39 : decode cX5_firstUnfit 39 = .ok (.iconst (-1), 1) := by decide +kernel
theorem dX5_firstUnfit_40 : decode cX5_firstUnfit 40 = .ok (.ireturn, 1) := by decide +kernel
set_option maxRecDepth 20000 in
theorem ggX5_wrongWithFirst_X5_firstUnfit : GoodIn wsX5_wrongWithFirst wsX5_firstUnfit := goodIn_r _ [6, 7, 8, 9, 5, 10, 11, 12, 13, 14, 15, 16, 17, 18, 19, 20, 21, 22, 23, 24, 25, 26, 27, 28, 29, 30, 31, 32, 33, 34, 35, 36, 37, 38, 39, 40, 41, 42, 43, 44, 45, 46, 47, 48, 49, 50, 51, 52, 53, 54, 55, 56, 57, 58, 59, 60, 61, 62, 63, 64, 65, 66, 67, 68, 69, 70, 71, 72, 73, 74, 75] (by decide +kernel) (by decide +kernel)
set_option maxRecDepth 20000 in
theorem gX5_wrongWithFirst_X5_firstUnfit : GoodIn wsX5_wrongWithFirst (wsV RX5 277 RX5 yX5_firstUnfit wsX5_firstUnfit) := goodIn_app (goodIn_of _ (by decide +kernel)) ggX5_wrongWithFirst_X5_firstUnfit
set_option maxRecDepth 20000 in
theorem ggX5_wrongWithFirst_X5_wrongWith : GoodIn wsX5_wrongWithFirst wsX5_wrongWith := goodIn_r _ [14, 15, 16, 17, 18, 5, 19, 20, 21, 22, 23, 24, 25, 8, 9, 10, 26, 27, 28, 29, 30, 31, 7, 32, 33, 34, 35, 36, 37, 38, 39, 40, 41, 42, 43, 44, 45, 46, 47, 48, 49, 50, 51, 52, 53, 60, 61, 62, 63, 64, 65, 66, 67, 68, 69, 54, 55, 56, 57, 58, 59, 70, 71, 72, 73, 74, 75] (by decide +kernel) (by decide +kernel)
set_option maxRecDepth 20000 in
theorem gX5_wrongWithFirst_X5_wrongWith : GoodIn wsX5_wrongWithFirst (wsV RX5 414 RX5 yX5_wrongWith wsX5_wrongWith) := goodIn_app (goodIn_of _ (by decide +kernel)) ggX5_wrongWithFirst_X5_wrongWith
theorem dX5_wrongWithFirst_0 : decode cX5_wrongWithFirst 0 = .ok (.aload_n 0, 1) := by decide +kernel
theorem dX5_wrongWithFirst_1 : decode cX5_wrongWithFirst 1 = .ok (.getfield 41, 3) := by decide +kernel
theorem dX5_wrongWithFirst_4 : decode cX5_wrongWithFirst 4 = .ok (.aload_n 1, 1) := by decide +kernel
theorem dX5_wrongWithFirst_5 : decode cX5_wrongWithFirst 5 = .ok (.getfield 274, 3) := by decide +kernel
theorem dX5_wrongWithFirst_8 : decode cX5_wrongWithFirst 8 = .ok (.aaload, 1) := by decide +kernel
theorem dX5_wrongWithFirst_9 : decode cX5_wrongWithFirst 9 = .ok (.astore_n 2, 1) := by decide +kernel
theorem dX5_wrongWithFirst_10 : decode cX5_wrongWithFirst 10 = .ok (.aload_n 0, 1) := by decide +kernel
theorem dX5_wrongWithFirst_11 : decode cX5_wrongWithFirst 11 = .ok (.aload_n 1, 1) := by decide +kernel
theorem dX5_wrongWithFirst_12 : decode cX5_wrongWithFirst 12 = .ok (.aload_n 2, 1) := by decide +kernel
theorem dX5_wrongWithFirst_13 : decode cX5_wrongWithFirst 13 = .ok (.invokevirtual 277, 3) := by decide +kernel
theorem dX5_wrongWithFirst_16 : decode cX5_wrongWithFirst 16 = .ok (.istore_n 3, 1) := by decide +kernel
theorem dX5_wrongWithFirst_17 : decode cX5_wrongWithFirst 17 = .ok (.iload_n 3, 1) := by decide +kernel
theorem dX5_wrongWithFirst_18 : decode cX5_wrongWithFirst 18 = .ok (.iconst (-1), 1) := by decide +kernel
theorem dX5_wrongWithFirst_19 : decode cX5_wrongWithFirst 19 = .ok (.if_icmp .ne 7, 3) := by decide +kernel
theorem dX5_wrongWithFirst_22 : decode cX5_wrongWithFirst 22 = .ok (.iconst 0, 1) := by decide +kernel
theorem dX5_wrongWithFirst_23 : decode cX5_wrongWithFirst 23 = .ok (.goto 10, 3) := by decide +kernel
theorem dX5_wrongWithFirst_26 : decode cX5_wrongWithFirst 26 = .ok (.aload_n 0, 1) := by decide +kernel
theorem dX5_wrongWithFirst_27 : decode cX5_wrongWithFirst 27 = .ok (.iload_n 3, 1) := by decide +kernel
theorem dX5_wrongWithFirst_28 : decode cX5_wrongWithFirst 28 = .ok (.aload_n 1, 1) := by decide +kernel
theorem dX5_wrongWithFirst_29 : decode cX5_wrongWithFirst 29 = .ok (.aload_n 2, 1) := by decide +kernel
theorem dX5_wrongWithFirst_30 : decode cX5_wrongWithFirst 30 = .ok (.invokevirtual 414, 3) := by decide +kernel
theorem dX5_wrongWithFirst_33 : decode cX5_wrongWithFirst 33 = .ok (.ireturn, 1) := by decide +kernel
set_option maxRecDepth 20000 in
theorem ggX5_unfitRunning_X5_firstUnfit : GoodIn wsX5_unfitRunning wsX5_firstUnfit := goodIn_r _ [8, 9, 10, 11, 7, 12, 13, 14, 15, 16, 17, 18, 19, 20, 21, 22, 23, 24, 25, 26, 27, 28, 29, 30, 31, 32, 33, 34, 35, 36, 37, 38, 39, 40, 41, 42, 43, 44, 45, 46, 47, 48, 49, 50, 51, 52, 53, 54, 55, 56, 57, 58, 59, 60, 61, 62, 63, 64, 65, 66, 67, 68, 69, 70, 71, 72, 73, 74, 75, 76, 77] (by decide +kernel) (by decide +kernel)
set_option maxRecDepth 20000 in
theorem gX5_unfitRunning_X5_firstUnfit : GoodIn wsX5_unfitRunning (wsV RX5 277 RX5 yX5_firstUnfit wsX5_firstUnfit) := goodIn_app (goodIn_of _ (by decide +kernel)) ggX5_unfitRunning_X5_firstUnfit
theorem dX5_unfitRunning_0 : decode cX5_unfitRunning 0 = .ok (.iconst 0, 1) := by decide +kernel
theorem dX5_unfitRunning_1 : decode cX5_unfitRunning 1 = .ok (.istore_n 1, 1) := by decide +kernel
theorem dX5_unfitRunning_2 : decode cX5_unfitRunning 2 = .ok (.iconst 0, 1) := by decide +kernel
theorem dX5_unfitRunning_3 : decode cX5_unfitRunning 3 = .ok (.istore_n 2, 1) := by decide +kernel
theorem dX5_unfitRunning_4 : decode cX5_unfitRunning 4 = .ok (.iload_n 2, 1) := by decide +kernel
theorem dX5_unfitRunning_5 : decode cX5_unfitRunning 5 = .ok (.aload_n 0, 1) := by decide +kernel
theorem dX5_unfitRunning_6 : decode cX5_unfitRunning 6 = .ok (.getfield 61, 3) := by decide +kernel
theorem dX5_unfitRunning_9 : decode cX5_unfitRunning 9 = .ok (.if_icmp .ge 48, 3) := by decide +kernel
theorem dX5_unfitRunning_12 : decode cX5_unfitRunning 12 = .ok (.aload_n 0, 1) := by decide +kernel
theorem dX5_unfitRunning_13 : decode cX5_unfitRunning 13 = .ok (.getfield 35, 3) := by decide +kernel
theorem dX5_unfitRunning_16 : decode cX5_unfitRunning 16 = .ok (.iload_n 2, 1) := by decide +kernel
theorem dX5_unfitRunning_17 : decode cX5_unfitRunning 17 = .ok (.aaload, 1) := by decide +kernel
theorem dX5_unfitRunning_18 : decode cX5_unfitRunning 18 = .ok (.astore_n 3, 1) := by decide +kernel
theorem dX5_unfitRunning_19 : decode cX5_unfitRunning 19 = .ok (.aload_n 3, 1) := by decide +kernel
theorem dX5_unfitRunning_20 : decode cX5_unfitRunning 20 = .ok (.getfield 264, 3) := by decide +kernel
theorem dX5_unfitRunning_23 : decode cX5_unfitRunning 23 = .ok (.iconst 1, 1) := by decide +kernel
theorem dX5_unfitRunning_24 : decode cX5_unfitRunning 24 = .ok (.if_icmp .ne 27, 3) := by decide +kernel
theorem dX5_unfitRunning_27 : decode cX5_unfitRunning 27 = .ok (.aload_n 0, 1) := by decide +kernel
theorem dX5_unfitRunning_28 : decode cX5_unfitRunning 28 = .ok (.aload_n 3, 1) := by decide +kernel
theorem dX5_unfitRunning_29 : decode cX5_unfitRunning 29 = .ok (.aload_n 0, 1) := by decide +kernel
theorem dX5_unfitRunning_30 : decode cX5_unfitRunning 30 = .ok (.getfield 41, 3) := by decide +kernel
theorem dX5_unfitRunning_33 : decode cX5_unfitRunning 33 = .ok (.aload_n 3, 1) := by decide +kernel
theorem dX5_unfitRunning_34 : decode cX5_unfitRunning 34 = .ok (.getfield 274, 3) := by decide +kernel
theorem dX5_unfitRunning_37 : decode cX5_unfitRunning 37 = .ok (.aaload, 1) := by decide +kernel
theorem dX5_unfitRunning_38 : decode cX5_unfitRunning 38 = .ok (.invokevirtual 277, 3) := by decide +kernel
theorem dX5_unfitRunning_41 : decode cX5_unfitRunning 41 = .ok (.iconst (-1), 1) := by decide +kernel
theorem dX5_unfitRunning_42 : decode cX5_unfitRunning 42 = .ok (.if_icmp .eq 9, 3) := by decide +kernel
theorem dX5_unfitRunning_45 : decode cX5_unfitRunning 45 = .ok (.iload_n 1, 1) := by decide +kernel
theorem dX5_unfitRunning_46 : decode cX5_unfitRunning 46 = .ok (.iconst 1, 1) := by decide +kernel
theorem dX5_unfitRunning_47 : decode cX5_unfitRunning 47 = .ok (.iload_n 2, 1) := by decide +kernel
theorem dX5_unfitRunning_48 : decode cX5_unfitRunning 48 = .ok (.ishl, 1) := by decide +kernel
theorem dX5_unfitRunning_49 : decode cX5_unfitRunning 49 = .ok (.ior, 1) := by decide +kernel
theorem dX5_unfitRunning_50 : decode cX5_unfitRunning 50 = .ok (.istore_n 1, 1) := by decide +kernel
theorem dX5_unfitRunning_51 : decode cX5_unfitRunning 51 = .ok (.iinc 2 1, 3) := by decide +kernel
theorem dX5_unfitRunning_54 : decode cX5_unfitRunning 54 = .ok (.goto (-50), 3) := by decide +kernel
theorem dX5_unfitRunning_57 : decode cX5_unfitRunning 57 = .ok (.iload_n 1, 1) := by decide +kernel
theorem dX5_unfitRunning_58 : decode cX5_unfitRunning 58 = .ok (.ireturn, 1) := by decide +kernel
set_option maxRecDepth 20000 in
theorem ggX5_stopUnfit_X5_unfitRunning : GoodIn wsX5_stopUnfit wsX5_unfitRunning := goodIn_r _ [7, 1, 2, 8, 9, 10, 11, 6, 12, 13, 14, 15, 16, 17, 18, 19, 20, 21, 22, 23, 24, 25, 26, 27, 28, 29, 30, 31, 32, 33, 34, 35, 36, 37, 38, 39, 40, 41, 42, 43, 44, 45, 46, 54, 55, 56, 57, 58, 59, 60, 61, 62, 63, 64, 65, 66, 67, 68, 69, 70, 71, 72, 73, 74, 75, 76, 77, 78, 79, 80, 81, 82, 83, 84, 85, 86, 87, 88] (by decide +kernel) (by decide +kernel)
set_option maxRecDepth 20000 in
theorem gX5_stopUnfit_X5_unfitRunning : GoodIn wsX5_stopUnfit (wsV RX5 317 RX5 yX5_unfitRunning wsX5_unfitRunning) := goodIn_app (goodIn_of _ (by decide +kernel)) ggX5_stopUnfit_X5_unfitRunning
set_option maxRecDepth 20000 in
theorem ggX5_stopUnfit_X5_isIn : GoodIn wsX5_stopUnfit wsX5_isIn := goodIn_r _ [16] (by decide +kernel) (by decide +kernel)
set_option maxRecDepth 20000 in
theorem gX5_stopUnfit_X5_isIn : GoodIn wsX5_stopUnfit (va_wsS RX5 216 yX5_isIn wsX5_isIn) := goodIn_app (goodIn_of _ (by decide +kernel)) ggX5_stopUnfit_X5_isIn
set_option maxRecDepth 20000 in
theorem ggX5_stopUnfit_J6_bitCount_0f7a4 : GoodIn wsX5_stopUnfit wsJ6_bitCount_0f7a4 := goodIn_r _ [50, 51, 52, 53] (by decide +kernel) (by decide +kernel)
set_option maxRecDepth 20000 in
theorem gX5_stopUnfit_J6_bitCount_0f7a4 : GoodIn wsX5_stopUnfit (va_wsS RX5 320 yJ6_bitCount_0f7a4 wsJ6_bitCount_0f7a4) := goodIn_app (goodIn_of _ (by decide +kernel)) ggX5_stopUnfit_J6_bitCount_0f7a4
theorem dX5_stopUnfit_0 : decode cX5_stopUnfit 0 = .ok (.aload_n 0, 1) := by decide +kernel
theorem dX5_stopUnfit_1 : decode cX5_stopUnfit 1 = .ok (.invokevirtual 317, 3) := by decide +kernel
theorem dX5_stopUnfit_4 : decode cX5_stopUnfit 4 = .ok (.istore_n 1, 1) := by decide +kernel
theorem dX5_stopUnfit_5 : decode cX5_stopUnfit 5 = .ok (.iconst 0, 1) := by decide +kernel
theorem dX5_stopUnfit_6 : decode cX5_stopUnfit 6 = .ok (.istore_n 2, 1) := by decide +kernel
theorem dX5_stopUnfit_7 : decode cX5_stopUnfit 7 = .ok (.iload_n 2, 1) := by decide +kernel
theorem dX5_stopUnfit_8 : decode cX5_stopUnfit 8 = .ok (.aload_n 0, 1) := by decide +kernel
theorem dX5_stopUnfit_9 : decode cX5_stopUnfit 9 = .ok (.getfield 61, 3) := by decide +kernel
theorem dX5_stopUnfit_12 : decode cX5_stopUnfit 12 = .ok (.if_icmp .ge 42, 3) := by decide +kernel
theorem dX5_stopUnfit_15 : decode cX5_stopUnfit 15 = .ok (.iload_n 1, 1) := by decide +kernel
theorem dX5_stopUnfit_16 : decode cX5_stopUnfit 16 = .ok (.iload_n 2, 1) := by decide +kernel
theorem dX5_stopUnfit_17 : decode cX5_stopUnfit 17 = .ok (.invokestatic 216, 3) := by decide +kernel
theorem dX5_stopUnfit_20 : decode cX5_stopUnfit 20 = .ok (.ifCond .eq 28, 3) := by decide +kernel
theorem dX5_stopUnfit_23 : decode cX5_stopUnfit 23 = .ok (.aload_n 0, 1) := by decide +kernel
theorem dX5_stopUnfit_24 : decode cX5_stopUnfit 24 = .ok (.getfield 35, 3) := by decide +kernel
theorem dX5_stopUnfit_27 : decode cX5_stopUnfit 27 = .ok (.iload_n 2, 1) := by decide +kernel
theorem dX5_stopUnfit_28 : decode cX5_stopUnfit 28 = .ok (.aaload, 1) := by decide +kernel
theorem dX5_stopUnfit_29 : decode cX5_stopUnfit 29 = .ok (.iconst 2, 1) := by decide +kernel
theorem dX5_stopUnfit_30 : decode cX5_stopUnfit 30 = .ok (.putfield 264, 3) := by decide +kernel
theorem dX5_stopUnfit_33 : decode cX5_stopUnfit 33 = .ok (.aload_n 0, 1) := by decide +kernel
theorem dX5_stopUnfit_34 : decode cX5_stopUnfit 34 = .ok (.getfield 35, 3) := by decide +kernel
theorem dX5_stopUnfit_37 : decode cX5_stopUnfit 37 = .ok (.iload_n 2, 1) := by decide +kernel
theorem dX5_stopUnfit_38 : decode cX5_stopUnfit 38 = .ok (.aaload, 1) := by decide +kernel
theorem dX5_stopUnfit_39 : decode cX5_stopUnfit 39 = .ok (.dup, 1) := by decide +kernel
theorem dX5_stopUnfit_40 : decode cX5_stopUnfit 40 = .ok (.getfield 298, 3) := by decide +kernel
theorem dX5_stopUnfit_43 : decode cX5_stopUnfit 43 = .ok (.iconst 1, 1) := by decide +kernel
theorem dX5_stopUnfit_44 : decode cX5_stopUnfit 44 = .ok (.iadd, 1) := by decide +kernel
theorem dX5_stopUnfit_45 : decode cX5_stopUnfit 45 = .ok (.putfield 298, 3) := by decide +kernel
theorem dX5_stopUnfit_48 : decode cX5_stopUnfit 48 = .ok (.iinc 2 1, 3) := by decide +kernel
theorem dX5_stopUnfit_51 : decode cX5_stopUnfit 51 = .ok (.goto (-44), 3) := by decide +kernel
theorem dX5_stopUnfit_54 : decode cX5_stopUnfit 54 = .ok (.iload_n 1, 1) := by decide +kernel
theorem dX5_stopUnfit_55 : decode cX5_stopUnfit 55 = .ok (.invokestatic 320, 3) := by decide +kernel
theorem dX5_stopUnfit_58 : decode cX5_stopUnfit 58 = .ok (.ireturn, 1) := by decide +kernel
set_option maxRecDepth 20000 in
theorem ggX5_fitStopped_X5_firstUnfit : GoodIn wsX5_fitStopped wsX5_firstUnfit := goodIn_r _ [8, 9, 10, 11, 7, 12, 13, 14, 15, 16, 17, 18, 19, 20, 21, 22, 23, 24, 25, 26, 27, 28, 29, 30, 31, 32, 33, 34, 35, 36, 37, 38, 39, 40, 41, 42, 43, 44, 45, 46, 47, 48, 49, 50, 51, 52, 53, 54, 55, 56, 57, 58, 59, 60, 61, 62, 63, 64, 65, 66, 67, 68, 69, 70, 71, 72, 73, 74, 75, 76, 77] (by decide +kernel) (by decide +kernel)
set_option maxRecDepth 20000 in
theorem gX5_fitStopped_X5_firstUnfit : GoodIn wsX5_fitStopped (wsV RX5 277 RX5 yX5_firstUnfit wsX5_firstUnfit) := goodIn_app (goodIn_of _ (by decide +kernel)) ggX5_fitStopped_X5_firstUnfit
theorem dX5_fitStopped_0 : decode cX5_fitStopped 0 = .ok (.iconst 0, 1) := by decide +kernel
theorem dX5_fitStopped_1 : decode cX5_fitStopped 1 = .ok (.istore_n 1, 1) := by decide +kernel
theorem dX5_fitStopped_2 : decode cX5_fitStopped 2 = .ok (.iconst 0, 1) := by decide +kernel
theorem dX5_fitStopped_3 : decode cX5_fitStopped 3 = .ok (.istore_n 2, 1) := by decide +kernel
theorem dX5_fitStopped_4 : decode cX5_fitStopped 4 = .ok (.iload_n 2, 1) := by decide +kernel
theorem dX5_fitStopped_5 : decode cX5_fitStopped 5 = .ok (.aload_n 0, 1) := by decide +kernel
theorem dX5_fitStopped_6 : decode cX5_fitStopped 6 = .ok (.getfield 61, 3) := by decide +kernel
theorem dX5_fitStopped_9 : decode cX5_fitStopped 9 = .ok (.if_icmp .ge 45, 3) := by decide +kernel
theorem dX5_fitStopped_12 : decode cX5_fitStopped 12 = .ok (.aload_n 0, 1) := by decide +kernel
theorem dX5_fitStopped_13 : decode cX5_fitStopped 13 = .ok (.getfield 35, 3) := by decide +kernel
theorem dX5_fitStopped_16 : decode cX5_fitStopped 16 = .ok (.iload_n 2, 1) := by decide +kernel
theorem dX5_fitStopped_17 : decode cX5_fitStopped 17 = .ok (.aaload, 1) := by decide +kernel
theorem dX5_fitStopped_18 : decode cX5_fitStopped 18 = .ok (.astore_n 3, 1) := by decide +kernel
theorem dX5_fitStopped_19 : decode cX5_fitStopped 19 = .ok (.aload_n 3, 1) := by decide +kernel
theorem dX5_fitStopped_20 : decode cX5_fitStopped 20 = .ok (.getfield 264, 3) := by decide +kernel
theorem dX5_fitStopped_23 : decode cX5_fitStopped 23 = .ok (.iconst 2, 1) := by decide +kernel
theorem dX5_fitStopped_24 : decode cX5_fitStopped 24 = .ok (.if_icmp .ne 24, 3) := by decide +kernel
theorem dX5_fitStopped_27 : decode cX5_fitStopped 27 = .ok (.aload_n 0, 1) := by decide +kernel
theorem dX5_fitStopped_28 : decode cX5_fitStopped 28 = .ok (.aload_n 3, 1) := by decide +kernel
theorem dX5_fitStopped_29 : decode cX5_fitStopped 29 = .ok (.aload_n 0, 1) := by decide +kernel
theorem dX5_fitStopped_30 : decode cX5_fitStopped 30 = .ok (.getfield 41, 3) := by decide +kernel
theorem dX5_fitStopped_33 : decode cX5_fitStopped 33 = .ok (.aload_n 3, 1) := by decide +kernel
theorem dX5_fitStopped_34 : decode cX5_fitStopped 34 = .ok (.getfield 274, 3) := by decide +kernel
theorem dX5_fitStopped_37 : decode cX5_fitStopped 37 = .ok (.aaload, 1) := by decide +kernel
theorem dX5_fitStopped_38 : decode cX5_fitStopped 38 = .ok (.invokevirtual 277, 3) := by decide +kernel
theorem dX5_fitStopped_41 : decode cX5_fitStopped 41 = .ok (.iconst (-1), 1) := by decide +kernel
theorem dX5_fitStopped_42 : decode cX5_fitStopped 42 = .ok (.if_icmp .ne 6, 3) := by decide +kernel
theorem dX5_fitStopped_45 : decode cX5_fitStopped 45 = .ok (.iinc 1 1, 3) := by decide +kernel
theorem dX5_fitStopped_48 : decode cX5_fitStopped 48 = .ok (.iinc 2 1, 3) := by decide +kernel
theorem dX5_fitStopped_51 : decode cX5_fitStopped 51 = .ok (.goto (-47), 3) := by decide +kernel
theorem dX5_fitStopped_54 : decode cX5_fitStopped 54 = .ok (.iload_n 1, 1) := by decide +kernel
theorem dX5_fitStopped_55 : decode cX5_fitStopped 55 = .ok (.ireturn, 1) := by decide +kernel
theorem dX5_packagesThatAre_0 : decode cX5_packagesThatAre 0 = .ok (.iconst 0, 1) := by decide +kernel
theorem dX5_packagesThatAre_1 : decode cX5_packagesThatAre 1 = .ok (.istore_n 2, 1) := by decide +kernel
theorem dX5_packagesThatAre_2 : decode cX5_packagesThatAre 2 = .ok (.iconst 0, 1) := by decide +kernel
theorem dX5_packagesThatAre_3 : decode cX5_packagesThatAre 3 = .ok (.istore_n 3, 1) := by decide +kernel
theorem dX5_packagesThatAre_4 : decode cX5_packagesThatAre 4 = .ok (.iload_n 3, 1) := by decide +kernel
theorem dX5_packagesThatAre_5 : decode cX5_packagesThatAre 5 = .ok (.aload_n 0, 1) := by decide +kernel
theorem dX5_packagesThatAre_6 : decode cX5_packagesThatAre 6 = .ok (.getfield 61, 3) := by decide +kernel
theorem dX5_packagesThatAre_9 : decode cX5_packagesThatAre 9 = .ok (.if_icmp .ge 25, 3) := by decide +kernel
theorem dX5_packagesThatAre_12 : decode cX5_packagesThatAre 12 = .ok (.aload_n 0, 1) := by decide +kernel
theorem dX5_packagesThatAre_13 : decode cX5_packagesThatAre 13 = .ok (.getfield 35, 3) := by decide +kernel
theorem dX5_packagesThatAre_16 : decode cX5_packagesThatAre 16 = .ok (.iload_n 3, 1) := by decide +kernel
theorem dX5_packagesThatAre_17 : decode cX5_packagesThatAre 17 = .ok (.aaload, 1) := by decide +kernel
theorem dX5_packagesThatAre_18 : decode cX5_packagesThatAre 18 = .ok (.getfield 264, 3) := by decide +kernel
theorem dX5_packagesThatAre_21 : decode cX5_packagesThatAre 21 = .ok (.iload_n 1, 1) := by decide +kernel
theorem dX5_packagesThatAre_22 : decode cX5_packagesThatAre 22 = .ok (.if_icmp .ne 6, 3) := by decide +kernel
theorem dX5_packagesThatAre_25 : decode cX5_packagesThatAre 25 = .ok (.iinc 2 1, 3) := by decide +kernel
theorem dX5_packagesThatAre_28 : decode cX5_packagesThatAre 28 = .ok (.iinc 3 1, 3) := by decide +kernel
theorem dX5_packagesThatAre_31 : decode cX5_packagesThatAre 31 = .ok (.goto (-27), 3) := by decide +kernel
theorem dX5_packagesThatAre_34 : decode cX5_packagesThatAre 34 = .ok (.iload_n 2, 1) := by decide +kernel
theorem dX5_packagesThatAre_35 : decode cX5_packagesThatAre 35 = .ok (.ireturn, 1) := by decide +kernel
set_option maxRecDepth 20000 in
theorem ggX5_mark_X5_isIn : GoodIn wsX5_mark wsX5_isIn := goodIn_r _ [6] (by decide +kernel) (by decide +kernel)
set_option maxRecDepth 20000 in
theorem gX5_mark_X5_isIn : GoodIn wsX5_mark (va_wsS RX5 216 yX5_isIn wsX5_isIn) := goodIn_app (goodIn_of _ (by decide +kernel)) ggX5_mark_X5_isIn
theorem dX5_mark_0 : decode cX5_mark 0 = .ok (.iconst 0, 1) := by decide +kernel
theorem dX5_mark_1 : decode cX5_mark 1 = .ok (.istore_n 2, 1) := by decide +kernel
theorem dX5_mark_2 : decode cX5_mark 2 = .ok (.iload_n 2, 1) := by decide +kernel
theorem dX5_mark_3 : decode cX5_mark 3 = .ok (.aload_n 0, 1) := by decide +kernel
theorem dX5_mark_4 : decode cX5_mark 4 = .ok (.getfield 48, 3) := by decide +kernel
theorem dX5_mark_7 : decode cX5_mark 7 = .ok (.if_icmp .ge 32, 3) := by decide +kernel
theorem dX5_mark_10 : decode cX5_mark 10 = .ok (.iload_n 1, 1) := by decide +kernel
theorem dX5_mark_11 : decode cX5_mark 11 = .ok (.iload_n 2, 1) := by decide +kernel
theorem dX5_mark_12 : decode cX5_mark 12 = .ok (.invokestatic 216, 3) := by decide +kernel
theorem dX5_mark_15 : decode cX5_mark 15 = .ok (.ifCond .eq 18, 3) := by decide +kernel
theorem dX5_mark_18 : decode cX5_mark 18 = .ok (.aload_n 0, 1) := by decide +kernel
theorem dX5_mark_19 : decode cX5_mark 19 = .ok (.getfield 11, 3) := by decide +kernel
theorem dX5_mark_22 : decode cX5_mark 22 = .ok (.iload_n 2, 1) := by decide +kernel
theorem dX5_mark_23 : decode cX5_mark 23 = .ok (.aaload, 1) := by decide +kernel
theorem dX5_mark_24 : decode cX5_mark 24 = .ok (.dup, 1) := by decide +kernel
theorem dX5_mark_25 : decode cX5_mark 25 = .ok (.getfield 166, 3) := by decide +kernel
theorem dX5_mark_28 : decode cX5_mark 28 = .ok (.iconst 1, 1) := by decide +kernel
theorem dX5_mark_29 : decode cX5_mark 29 = .ok (.iadd, 1) := by decide +kernel
theorem dX5_mark_30 : decode cX5_mark 30 = .ok (.putfield 166, 3) := by decide +kernel
theorem dX5_mark_33 : decode cX5_mark 33 = .ok (.iinc 2 1, 3) := by decide +kernel
theorem dX5_mark_36 : decode cX5_mark 36 = .ok (.goto (-34), 3) := by decide +kernel
theorem dX5_mark_39 : decode cX5_mark 39 = .ok (.return_, 1) := by decide +kernel
theorem dJ6_bitCount_0f7a4_0 : decode cJ6_bitCount_0f7a4 0 = .ok (.iload_n 0, 1) := by decide +kernel
theorem dJ6_bitCount_0f7a4_1 : decode cJ6_bitCount_0f7a4 1 = .ok (.iload_n 0, 1) := by decide +kernel
theorem dJ6_bitCount_0f7a4_2 : decode cJ6_bitCount_0f7a4 2 = .ok (.iconst 1, 1) := by decide +kernel
theorem dJ6_bitCount_0f7a4_3 : decode cJ6_bitCount_0f7a4 3 = .ok (.iushr, 1) := by decide +kernel
theorem dJ6_bitCount_0f7a4_4 : decode cJ6_bitCount_0f7a4 4 = .ok (.ldc_w 265, 3) := by decide +kernel
theorem dJ6_bitCount_0f7a4_7 : decode cJ6_bitCount_0f7a4 7 = .ok (.iand, 1) := by decide +kernel
theorem dJ6_bitCount_0f7a4_8 : decode cJ6_bitCount_0f7a4 8 = .ok (.isub, 1) := by decide +kernel
theorem dJ6_bitCount_0f7a4_9 : decode cJ6_bitCount_0f7a4 9 = .ok (.istore_n 0, 1) := by decide +kernel
theorem dJ6_bitCount_0f7a4_10 : decode cJ6_bitCount_0f7a4 10 = .ok (.iload_n 0, 1) := by decide +kernel
theorem dJ6_bitCount_0f7a4_11 : decode cJ6_bitCount_0f7a4 11 = .ok (.ldc_w 266, 3) := by decide +kernel
theorem dJ6_bitCount_0f7a4_14 : decode cJ6_bitCount_0f7a4 14 = .ok (.iand, 1) := by decide +kernel
theorem dJ6_bitCount_0f7a4_15 : decode cJ6_bitCount_0f7a4 15 = .ok (.iload_n 0, 1) := by decide +kernel
theorem dJ6_bitCount_0f7a4_16 : decode cJ6_bitCount_0f7a4 16 = .ok (.iconst 2, 1) := by decide +kernel
theorem dJ6_bitCount_0f7a4_17 : decode cJ6_bitCount_0f7a4 17 = .ok (.iushr, 1) := by decide +kernel
theorem dJ6_bitCount_0f7a4_18 : decode cJ6_bitCount_0f7a4 18 = .ok (.ldc_w 266, 3) := by decide +kernel
theorem dJ6_bitCount_0f7a4_21 : decode cJ6_bitCount_0f7a4 21 = .ok (.iand, 1) := by decide +kernel
theorem dJ6_bitCount_0f7a4_22 : decode cJ6_bitCount_0f7a4 22 = .ok (.iadd, 1) := by decide +kernel
theorem dJ6_bitCount_0f7a4_23 : decode cJ6_bitCount_0f7a4 23 = .ok (.istore_n 0, 1) := by decide +kernel
theorem dJ6_bitCount_0f7a4_24 : decode cJ6_bitCount_0f7a4 24 = .ok (.iload_n 0, 1) := by decide +kernel
theorem dJ6_bitCount_0f7a4_25 : decode cJ6_bitCount_0f7a4 25 = .ok (.iload_n 0, 1) := by decide +kernel
theorem dJ6_bitCount_0f7a4_26 : decode cJ6_bitCount_0f7a4 26 = .ok (.iconst 4, 1) := by decide +kernel
theorem dJ6_bitCount_0f7a4_27 : decode cJ6_bitCount_0f7a4 27 = .ok (.iushr, 1) := by decide +kernel
theorem dJ6_bitCount_0f7a4_28 : decode cJ6_bitCount_0f7a4 28 = .ok (.iadd, 1) := by decide +kernel
theorem dJ6_bitCount_0f7a4_29 : decode cJ6_bitCount_0f7a4 29 = .ok (.ldc_w 267, 3) := by decide +kernel
theorem dJ6_bitCount_0f7a4_32 : decode cJ6_bitCount_0f7a4 32 = .ok (.iand, 1) := by decide +kernel
theorem dJ6_bitCount_0f7a4_33 : decode cJ6_bitCount_0f7a4 33 = .ok (.istore_n 0, 1) := by decide +kernel
theorem dJ6_bitCount_0f7a4_34 : decode cJ6_bitCount_0f7a4 34 = .ok (.iload_n 0, 1) := by decide +kernel
theorem dJ6_bitCount_0f7a4_35 : decode cJ6_bitCount_0f7a4 35 = .ok (.iload_n 0, 1) := by decide +kernel
theorem dJ6_bitCount_0f7a4_36 : decode cJ6_bitCount_0f7a4 36 = .ok (.bipush 8, 2) := by decide +kernel
theorem dJ6_bitCount_0f7a4_38 : decode cJ6_bitCount_0f7a4 38 = .ok (.iushr, 1) := by decide +kernel
theorem dJ6_bitCount_0f7a4_39 : decode cJ6_bitCount_0f7a4 39 = .ok (.iadd, 1) := by decide +kernel
theorem dJ6_bitCount_0f7a4_40 : decode cJ6_bitCount_0f7a4 40 = .ok (.istore_n 0, 1) := by decide +kernel
theorem dJ6_bitCount_0f7a4_41 : decode cJ6_bitCount_0f7a4 41 = .ok (.iload_n 0, 1) := by decide +kernel
theorem dJ6_bitCount_0f7a4_42 : decode cJ6_bitCount_0f7a4 42 = .ok (.iload_n 0, 1) := by decide +kernel
theorem dJ6_bitCount_0f7a4_43 : decode cJ6_bitCount_0f7a4 43 = .ok (.bipush 16, 2) := by decide +kernel
theorem dJ6_bitCount_0f7a4_45 : decode cJ6_bitCount_0f7a4 45 = .ok (.iushr, 1) := by decide +kernel
theorem dJ6_bitCount_0f7a4_46 : decode cJ6_bitCount_0f7a4 46 = .ok (.iadd, 1) := by decide +kernel
theorem dJ6_bitCount_0f7a4_47 : decode cJ6_bitCount_0f7a4 47 = .ok (.istore_n 0, 1) := by decide +kernel
theorem dJ6_bitCount_0f7a4_48 : decode cJ6_bitCount_0f7a4 48 = .ok (.iload_n 0, 1) := by decide +kernel
theorem dJ6_bitCount_0f7a4_49 : decode cJ6_bitCount_0f7a4 49 = .ok (.bipush 63, 2) := by decide +kernel
theorem dJ6_bitCount_0f7a4_51 : decode cJ6_bitCount_0f7a4 51 = .ok (.iand, 1) := by decide +kernel
theorem dJ6_bitCount_0f7a4_52 : decode cJ6_bitCount_0f7a4 52 = .ok (.ireturn, 1) := by decide +kernel
theorem dJ13_bitCount_95d88_0 : decode cJ13_bitCount_95d88 0 = .ok (.lload_n 0, 1) := by decide +kernel
theorem dJ13_bitCount_95d88_1 : decode cJ13_bitCount_95d88 1 = .ok (.lload_n 0, 1) := by decide +kernel
theorem dJ13_bitCount_95d88_2 : decode cJ13_bitCount_95d88 2 = .ok (.iconst 1, 1) := by decide +kernel
theorem dJ13_bitCount_95d88_3 : decode cJ13_bitCount_95d88 3 = .ok (.lushr, 1) := by decide +kernel
theorem dJ13_bitCount_95d88_4 : decode cJ13_bitCount_95d88 4 = .ok (.ldc2_w 314, 3) := by decide +kernel
theorem dJ13_bitCount_95d88_7 : decode cJ13_bitCount_95d88 7 = .ok (.land, 1) := by decide +kernel
theorem dJ13_bitCount_95d88_8 : decode cJ13_bitCount_95d88 8 = .ok (.lsub, 1) := by decide +kernel
theorem dJ13_bitCount_95d88_9 : decode cJ13_bitCount_95d88 9 = .ok (.lstore_n 0, 1) := by decide +kernel
theorem dJ13_bitCount_95d88_10 : decode cJ13_bitCount_95d88 10 = .ok (.lload_n 0, 1) := by decide +kernel
theorem dJ13_bitCount_95d88_11 : decode cJ13_bitCount_95d88 11 = .ok (.ldc2_w 316, 3) := by decide +kernel
theorem dJ13_bitCount_95d88_14 : decode cJ13_bitCount_95d88 14 = .ok (.land, 1) := by decide +kernel
theorem dJ13_bitCount_95d88_15 : decode cJ13_bitCount_95d88 15 = .ok (.lload_n 0, 1) := by decide +kernel
theorem dJ13_bitCount_95d88_16 : decode cJ13_bitCount_95d88 16 = .ok (.iconst 2, 1) := by decide +kernel
theorem dJ13_bitCount_95d88_17 : decode cJ13_bitCount_95d88 17 = .ok (.lushr, 1) := by decide +kernel
theorem dJ13_bitCount_95d88_18 : decode cJ13_bitCount_95d88 18 = .ok (.ldc2_w 316, 3) := by decide +kernel
theorem dJ13_bitCount_95d88_21 : decode cJ13_bitCount_95d88 21 = .ok (.land, 1) := by decide +kernel
theorem dJ13_bitCount_95d88_22 : decode cJ13_bitCount_95d88 22 = .ok (.ladd, 1) := by decide +kernel
theorem dJ13_bitCount_95d88_23 : decode cJ13_bitCount_95d88 23 = .ok (.lstore_n 0, 1) := by decide +kernel
theorem dJ13_bitCount_95d88_24 : decode cJ13_bitCount_95d88 24 = .ok (.lload_n 0, 1) := by decide +kernel
theorem dJ13_bitCount_95d88_25 : decode cJ13_bitCount_95d88 25 = .ok (.lload_n 0, 1) := by decide +kernel
theorem dJ13_bitCount_95d88_26 : decode cJ13_bitCount_95d88 26 = .ok (.iconst 4, 1) := by decide +kernel
theorem dJ13_bitCount_95d88_27 : decode cJ13_bitCount_95d88 27 = .ok (.lushr, 1) := by decide +kernel
theorem dJ13_bitCount_95d88_28 : decode cJ13_bitCount_95d88 28 = .ok (.ladd, 1) := by decide +kernel
theorem dJ13_bitCount_95d88_29 : decode cJ13_bitCount_95d88 29 = .ok (.ldc2_w 318, 3) := by decide +kernel
theorem dJ13_bitCount_95d88_32 : decode cJ13_bitCount_95d88 32 = .ok (.land, 1) := by decide +kernel
theorem dJ13_bitCount_95d88_33 : decode cJ13_bitCount_95d88 33 = .ok (.lstore_n 0, 1) := by decide +kernel
theorem dJ13_bitCount_95d88_34 : decode cJ13_bitCount_95d88 34 = .ok (.lload_n 0, 1) := by decide +kernel
theorem dJ13_bitCount_95d88_35 : decode cJ13_bitCount_95d88 35 = .ok (.lload_n 0, 1) := by decide +kernel
theorem dJ13_bitCount_95d88_36 : decode cJ13_bitCount_95d88 36 = .ok (.bipush 8, 2) := by decide +kernel
theorem dJ13_bitCount_95d88_38 : decode cJ13_bitCount_95d88 38 = .ok (.lushr, 1) := by decide +kernel
theorem dJ13_bitCount_95d88_39 : decode cJ13_bitCount_95d88 39 = .ok (.ladd, 1) := by decide +kernel
theorem dJ13_bitCount_95d88_40 : decode cJ13_bitCount_95d88 40 = .ok (.lstore_n 0, 1) := by decide +kernel
theorem dJ13_bitCount_95d88_41 : decode cJ13_bitCount_95d88 41 = .ok (.lload_n 0, 1) := by decide +kernel
theorem dJ13_bitCount_95d88_42 : decode cJ13_bitCount_95d88 42 = .ok (.lload_n 0, 1) := by decide +kernel
theorem dJ13_bitCount_95d88_43 : decode cJ13_bitCount_95d88 43 = .ok (.bipush 16, 2) := by decide +kernel
theorem dJ13_bitCount_95d88_45 : decode cJ13_bitCount_95d88 45 = .ok (.lushr, 1) := by decide +kernel
theorem dJ13_bitCount_95d88_46 : decode cJ13_bitCount_95d88 46 = .ok (.ladd, 1) := by decide +kernel
theorem dJ13_bitCount_95d88_47 : decode cJ13_bitCount_95d88 47 = .ok (.lstore_n 0, 1) := by decide +kernel
theorem dJ13_bitCount_95d88_48 : decode cJ13_bitCount_95d88 48 = .ok (.lload_n 0, 1) := by decide +kernel
theorem dJ13_bitCount_95d88_49 : decode cJ13_bitCount_95d88 49 = .ok (.lload_n 0, 1) := by decide +kernel
theorem dJ13_bitCount_95d88_50 : decode cJ13_bitCount_95d88 50 = .ok (.bipush 32, 2) := by decide +kernel
theorem dJ13_bitCount_95d88_52 : decode cJ13_bitCount_95d88 52 = .ok (.lushr, 1) := by decide +kernel
theorem dJ13_bitCount_95d88_53 : decode cJ13_bitCount_95d88 53 = .ok (.ladd, 1) := by decide +kernel
theorem dJ13_bitCount_95d88_54 : decode cJ13_bitCount_95d88 54 = .ok (.lstore_n 0, 1) := by decide +kernel
theorem dJ13_bitCount_95d88_55 : decode cJ13_bitCount_95d88 55 = .ok (.lload_n 0, 1) := by decide +kernel
theorem dJ13_bitCount_95d88_56 : decode cJ13_bitCount_95d88 56 = .ok (.l2i, 1) := by decide +kernel
theorem dJ13_bitCount_95d88_57 : decode cJ13_bitCount_95d88 57 = .ok (.bipush 127, 2) := by decide +kernel
theorem dJ13_bitCount_95d88_59 : decode cJ13_bitCount_95d88 59 = .ok (.iand, 1) := by decide +kernel
theorem dJ13_bitCount_95d88_60 : decode cJ13_bitCount_95d88 60 = .ok (.ireturn, 1) := by decide +kernel
theorem dJ9_min_7cf53_0 : decode cJ9_min_7cf53 0 = .ok (.iload_n 0, 1) := by decide +kernel
theorem dJ9_min_7cf53_1 : decode cJ9_min_7cf53 1 = .ok (.iload_n 1, 1) := by decide +kernel
theorem dJ9_min_7cf53_2 : decode cJ9_min_7cf53 2 = .ok (.if_icmp .gt 7, 3) := by decide +kernel
theorem dJ9_min_7cf53_5 : decode cJ9_min_7cf53 5 = .ok (.iload_n 0, 1) := by decide +kernel
theorem dJ9_min_7cf53_6 : decode cJ9_min_7cf53 6 = .ok (.goto 4, 3) := by decide +kernel
theorem dJ9_min_7cf53_9 : decode cJ9_min_7cf53 9 = .ok (.iload_n 1, 1) := by decide +kernel
theorem dJ9_min_7cf53_10 : decode cJ9_min_7cf53 10 = .ok (.ireturn, 1) := by decide +kernel
theorem dJ7_fill_53178_0 : decode cJ7_fill_53178 0 = .ok (.iconst 0, 1) := by decide +kernel
theorem dJ7_fill_53178_1 : decode cJ7_fill_53178 1 = .ok (.istore_n 2, 1) := by decide +kernel
theorem dJ7_fill_53178_2 : decode cJ7_fill_53178 2 = .ok (.aload_n 0, 1) := by decide +kernel
theorem dJ7_fill_53178_3 : decode cJ7_fill_53178 3 = .ok (.arraylength, 1) := by decide +kernel
theorem dJ7_fill_53178_4 : decode cJ7_fill_53178 4 = .ok (.istore_n 3, 1) := by decide +kernel
theorem dJ7_fill_53178_5 : decode cJ7_fill_53178 5 = .ok (.iload_n 2, 1) := by decide +kernel
theorem dJ7_fill_53178_6 : decode cJ7_fill_53178 6 = .ok (.iload_n 3, 1) := by decide +kernel
theorem dJ7_fill_53178_7 : decode cJ7_fill_53178 7 = .ok (.if_icmp .ge 13, 3) := by decide +kernel
theorem dJ7_fill_53178_10 : decode cJ7_fill_53178 10 = .ok (.aload_n 0, 1) := by decide +kernel
theorem dJ7_fill_53178_11 : decode cJ7_fill_53178 11 = .ok (.iload_n 2, 1) := by decide +kernel
theorem dJ7_fill_53178_12 : decode cJ7_fill_53178 12 = .ok (.iload_n 1, 1) := by decide +kernel
theorem dJ7_fill_53178_13 : decode cJ7_fill_53178 13 = .ok (.iastore, 1) := by decide +kernel
theorem dJ7_fill_53178_14 : decode cJ7_fill_53178 14 = .ok (.iinc 2 1, 3) := by decide +kernel
theorem dJ7_fill_53178_17 : decode cJ7_fill_53178 17 = .ok (.goto (-12), 3) := by decide +kernel
theorem dJ7_fill_53178_20 : decode cJ7_fill_53178 20 = .ok (.return_, 1) := by decide +kernel
theorem dL_below_0 : decode cL_below 0 = .ok (.iload_n 0, 1) := by decide +kernel
theorem dL_below_1 : decode cL_below 1 = .ok (.ldc 7, 2) := by decide +kernel
theorem dL_below_3 : decode cL_below 3 = .ok (.iand, 1) := by decide +kernel
theorem dL_below_4 : decode cL_below 4 = .ok (.iload_n 1, 1) := by decide +kernel
theorem dL_below_5 : decode cL_below 5 = .ok (.irem, 1) := by decide +kernel
theorem dL_below_6 : decode cL_below 6 = .ok (.ireturn, 1) := by decide +kernel
theorem dL_cell_0 : decode cL_cell 0 = .ok (.iload_n 1, 1) := by decide +kernel
theorem dL_cell_1 : decode cL_cell 1 = .ok (.aload_n 0, 1) := by decide +kernel
theorem dL_cell_2 : decode cL_cell 2 = .ok (.arraylength, 1) := by decide +kernel
theorem dL_cell_3 : decode cL_cell 3 = .ok (.if_icmp .ge 9, 3) := by decide +kernel
theorem dL_cell_6 : decode cL_cell 6 = .ok (.aload_n 0, 1) := by decide +kernel
theorem dL_cell_7 : decode cL_cell 7 = .ok (.iload_n 1, 1) := by decide +kernel
theorem dL_cell_8 : decode cL_cell 8 = .ok (.iaload, 1) := by decide +kernel
theorem dL_cell_9 : decode cL_cell 9 = .ok (.goto 9, 3) := by decide +kernel
theorem dL_cell_12 : decode cL_cell 12 = .ok (.ldc 8, 2) := by decide +kernel
theorem dL_cell_14 : decode cL_cell 14 = .ok (.iload_n 1, 1) := by decide +kernel
theorem dL_cell_15 : decode cL_cell 15 = .ok (.iconst 3, 1) := by decide +kernel
theorem dL_cell_16 : decode cL_cell 16 = .ok (.iadd, 1) := by decide +kernel
theorem dL_cell_17 : decode cL_cell 17 = .ok (.imul, 1) := by decide +kernel
theorem dL_cell_18 : decode cL_cell 18 = .ok (.ireturn, 1) := by decide +kernel
set_option maxRecDepth 20000 in
theorem ggL_region_L_below : GoodIn wsL_region wsL_below := goodIn_r _ [9, 10] (by decide +kernel) (by decide +kernel)
set_option maxRecDepth 20000 in
theorem gL_region_L_below : GoodIn wsL_region (va_wsS RL 9 yL_below wsL_below) := goodIn_app (goodIn_of _ (by decide +kernel)) ggL_region_L_below
theorem dL_region_0 : decode cL_region 0 = .ok (.iload_n 0, 1) := by decide +kernel
theorem dL_region_1 : decode cL_region 1 = .ok (.bipush 20, 2) := by decide +kernel
theorem dL_region_3 : decode cL_region 3 = .ok (.invokestatic 9, 3) := by decide +kernel
theorem dL_region_6 : decode cL_region 6 = .ok (.istore_n 1, 1) := by decide +kernel
theorem dL_region_7 : decode cL_region 7 = .ok (.iload_n 0, 1) := by decide +kernel
theorem dL_region_8 : decode cL_region 8 = .ok (.iconst 5, 1) := by decide +kernel
theorem dL_region_9 : decode cL_region 9 = .ok (.ishr, 1) := by decide +kernel
theorem dL_region_10 : decode cL_region 10 = .ok (.bipush 20, 2) := by decide +kernel
theorem dL_region_12 : decode cL_region 12 = .ok (.invokestatic 9, 3) := by decide +kernel
theorem dL_region_15 : decode cL_region 15 = .ok (.istore_n 2, 1) := by decide +kernel
theorem dL_region_16 : decode cL_region 16 = .ok (.iconst 4, 1) := by decide +kernel
theorem dL_region_17 : decode cL_region 17 = .ok (.newarray .int, 2) := by decide +kernel
theorem dL_region_19 : decode cL_region 19 = .ok (.dup, 1) := by decide +kernel
theorem dL_region_20 : decode cL_region 20 = .ok (.iconst 0, 1) := by decide +kernel
theorem dL_region_21 : decode cL_region 21 = .ok (.iload_n 1, 1) := by decide +kernel
theorem dL_region_22 : decode cL_region 22 = .ok (.iastore, 1) := by decide +kernel
theorem dL_region_23 : decode cL_region 23 = .ok (.dup, 1) := by decide +kernel
theorem dL_region_24 : decode cL_region 24 = .ok (.iconst 1, 1) := by decide +kernel
theorem dL_region_25 : decode cL_region 25 = .ok (.iload_n 2, 1) := by decide +kernel
theorem dL_region_26 : decode cL_region 26 = .ok (.iastore, 1) := by decide +kernel
theorem dL_region_27 : decode cL_region 27 = .ok (.dup, 1) := by decide +kernel
theorem dL_region_28 : decode cL_region 28 = .ok (.iconst 2, 1) := by decide +kernel
theorem dL_region_29 : decode cL_region 29 = .ok (.bipush 19, 2) := by decide +kernel
theorem dL_region_31 : decode cL_region 31 = .ok (.iload_n 1, 1) := by decide +kernel
theorem dL_region_32 : decode cL_region 32 = .ok (.iload_n 0, 1) := by decide +kernel
theorem dL_region_33 : decode cL_region 33 = .ok (.iconst 3, 1) := by decide +kernel
theorem dL_region_34 : decode cL_region 34 = .ok (.ishr, 1) := by decide +kernel
theorem dL_region_35 : decode cL_region 35 = .ok (.bipush 9, 2) := by decide +kernel
theorem dL_region_37 : decode cL_region 37 = .ok (.invokestatic 9, 3) := by decide +kernel
theorem dL_region_40 : decode cL_region 40 = .ok (.iadd, 1) := by decide +kernel
theorem dL_region_41 : decode cL_region 41 = .ok (.invokestatic 15, 3) := by decide +kernel
theorem dL_region_44 : decode cL_region 44 = .ok (.iastore, 1) := by decide +kernel
theorem dL_region_45 : decode cL_region 45 = .ok (.dup, 1) := by decide +kernel
theorem dL_region_46 : decode cL_region 46 = .ok (.iconst 3, 1) := by decide +kernel
theorem dL_region_47 : decode cL_region 47 = .ok (.bipush 19, 2) := by decide +kernel
theorem dL_region_49 : decode cL_region 49 = .ok (.iload_n 2, 1) := by decide +kernel
theorem dL_region_50 : decode cL_region 50 = .ok (.iload_n 0, 1) := by decide +kernel
theorem dL_region_51 : decode cL_region 51 = .ok (.bipush 7, 2) := by decide +kernel
theorem dL_region_53 : decode cL_region 53 = .ok (.ishr, 1) := by decide +kernel
theorem dL_region_54 : decode cL_region 54 = .ok (.bipush 9, 2) := by decide +kernel
theorem dL_region_56 : decode cL_region 56 = .ok (.invokestatic 9, 3) := by decide +kernel
theorem dL_region_59 : decode cL_region 59 = .ok (.iadd, 1) := by decide +kernel
theorem dL_region_60 : decode cL_region 60 = .ok (.invokestatic 15, 3) := by decide +kernel
theorem dL_region_63 : decode cL_region 63 = .ok (.iastore, 1) := by decide +kernel
theorem dL_region_64 : decode cL_region 64 = .ok (.areturn, 1) := by decide +kernel
set_option maxRecDepth 20000 in
theorem ggL_law_X5_init : GoodIn wsL_law wsX5_init := goodIn_r _ [5, 6, 7, 8, 9, 10, 11, 12, 13, 14, 15, 16, 17, 18, 19, 20, 21, 22, 23, 24, 25, 26, 27, 28, 29, 30, 31, 32, 397, 398, 399, 400, 401, 402, 403, 404, 405, 406, 407, 408, 409] (by decide +kernel) (by decide +kernel)
set_option maxRecDepth 20000 in
theorem gL_law_X5_init : GoodIn wsL_law (wsX5_init) := ggL_law_X5_init
set_option maxRecDepth 20000 in
theorem ggL_law_L_cell : GoodIn wsL_law wsL_cell := goodIn_r _ [36, 37] (by decide +kernel) (by decide +kernel)
set_option maxRecDepth 20000 in
theorem gL_law_L_cell : GoodIn wsL_law (va_wsS RL 23 yL_cell wsL_cell) := goodIn_app (goodIn_of _ (by decide +kernel)) ggL_law_L_cell
set_option maxRecDepth 20000 in
theorem ggL_law_L_below : GoodIn wsL_law wsL_below := goodIn_r _ [40, 41] (by decide +kernel) (by decide +kernel)
set_option maxRecDepth 20000 in
theorem gL_law_L_below : GoodIn wsL_law (va_wsS RL 9 yL_below wsL_below) := goodIn_app (goodIn_of _ (by decide +kernel)) ggL_law_L_below
set_option maxRecDepth 20000 in
theorem ggL_law_L_region : GoodIn wsL_law wsL_region := goodIn_r _ [44, 20, 45, 46, 47, 48, 38, 39, 35, 40, 41] (by decide +kernel) (by decide +kernel)
set_option maxRecDepth 20000 in
theorem gL_law_L_region : GoodIn wsL_law (va_wsS RL 27 yL_region wsL_region) := goodIn_app (goodIn_of _ (by decide +kernel)) ggL_law_L_region
set_option maxRecDepth 20000 in
theorem ggL_law_X5_sheet : GoodIn wsL_law wsX5_sheet := goodIn_ca (goodIn_ca (goodIn_r _ [52, 53, 54, 55, 56, 23, 10, 9, 57, 58, 59, 60, 61, 7, 8, 62, 63, 20, 64, 65, 66, 67, 68, 69, 70, 71, 72, 73, 397, 398, 399, 400, 401, 402, 403, 404, 405, 406, 407, 408, 409, 410, 411, 412, 413, 414, 415, 416, 417, 418, 419] (by decide +kernel) (by decide +kernel)) (goodIn_sub (fun _ h => List.mem_append_left _ (List.mem_append_left _ (List.mem_append_right _ h))) (by decide +kernel))) (goodIn_sub (fun _ h => List.mem_append_left _ (List.mem_append_right _ h)) (by decide +kernel))
set_option maxRecDepth 20000 in
theorem gL_law_X5_sheet : GoodIn wsL_law (wsV RL 31 RX5 yX5_sheet wsX5_sheet) := goodIn_app (goodIn_of _ (by decide +kernel)) ggL_law_X5_sheet
set_option maxRecDepth 20000 in
theorem ggL_law_X5_draw : GoodIn wsL_law wsX5_draw := goodIn_ca (goodIn_ca (goodIn_ca (goodIn_r _ [77, 53, 54, 55, 56, 10, 78, 79, 80, 2, 81, 82, 83, 23, 84, 85, 86, 87, 58, 88, 89, 65, 90, 91, 92, 93, 67, 66, 94, 95, 96, 97, 98, 99, 100, 101, 102, 103, 63, 64, 104, 105, 106, 107, 108, 109, 110, 111, 112, 113, 114, 115, 397, 398, 399, 400, 401, 402, 403, 404, 405, 406, 407, 408, 409, 410, 411, 412, 413, 414, 415, 416, 417, 418, 419] (by decide +kernel) (by decide +kernel)) (goodIn_sub (fun _ h => List.mem_append_left _ (List.mem_append_left _ (List.mem_append_right _ h))) (by decide +kernel))) (goodIn_sub (fun _ h => List.mem_append_left _ (List.mem_append_right _ h)) (by decide +kernel))) (goodIn_sub (fun _ h => List.mem_append_right _ h) (by decide +kernel))
set_option maxRecDepth 20000 in
theorem gL_law_X5_draw : GoodIn wsL_law (wsV RL 35 RX5 yX5_draw wsX5_draw) := goodIn_app (goodIn_of _ (by decide +kernel)) ggL_law_X5_draw
set_option maxRecDepth 20000 in
theorem ggL_law_X5_check : GoodIn wsL_law wsX5_check := goodIn_ca (goodIn_ca (goodIn_r _ [119, 55, 56, 10, 78, 79, 80, 2, 81, 82, 83, 23, 87, 58, 88, 89, 65, 90, 91, 92, 93, 67, 66, 120, 121, 122, 123, 24, 12, 124, 125, 126, 127, 128, 129, 130, 397, 398, 399, 400, 401, 402, 403, 404, 405, 406, 407, 408, 409, 410, 411, 412, 413, 414, 415, 416, 417, 418, 419, 420, 421, 422] (by decide +kernel) (by decide +kernel)) (goodIn_sub (fun _ h => List.mem_append_left _ (List.mem_append_right _ h)) (by decide +kernel))) (goodIn_sub (fun _ h => List.mem_append_right _ h) (by decide +kernel))
set_option maxRecDepth 20000 in
theorem gL_law_X5_check : GoodIn wsL_law (wsV RL 39 RX5 yX5_check wsX5_check) := goodIn_app (goodIn_of _ (by decide +kernel)) ggL_law_X5_check
set_option maxRecDepth 20000 in
theorem ggL_law_X5_issue : GoodIn wsL_law wsX5_issue := goodIn_ca (goodIn_ca (goodIn_r _ [134, 55, 56, 10, 78, 79, 80, 2, 81, 82, 83, 23, 135, 136, 137, 138, 87, 58, 88, 89, 65, 90, 91, 92, 93, 67, 66, 120, 121, 122, 123, 24, 12, 124, 125, 126, 127, 128, 129, 130, 139, 140, 141, 63, 68, 64, 69, 142, 143, 144, 145, 26, 16, 146, 147, 148, 149, 27, 18, 150, 151, 152, 153, 21, 154, 155, 156, 157, 158, 159, 160, 161, 162, 163, 164, 165, 166, 167, 168, 107, 108, 169, 170, 171, 172, 173, 174, 175, 176, 177, 178, 179, 397, 398, 399, 400, 401, 402, 403, 404, 405, 406, 407, 408, 409, 410, 411, 412, 413, 414, 415, 416, 417, 418, 419, 420, 421, 422, 423, 424, 425, 426, 427, 428, 429, 430, 431] (by decide +kernel) (by decide +kernel)) (goodIn_sub (fun _ h => List.mem_append_left _ (List.mem_append_right _ h)) (by decide +kernel))) (goodIn_sub (fun _ h => List.mem_append_right _ h) (by decide +kernel))
set_option maxRecDepth 20000 in
theorem gL_law_X5_issue : GoodIn wsL_law (wsV RL 42 RX5 yX5_issue wsX5_issue) := goodIn_app (goodIn_of _ (by decide +kernel)) ggL_law_X5_issue
set_option maxRecDepth 20000 in
theorem ggL_law_X5_send : GoodIn wsL_law wsX5_send := goodIn_ca (goodIn_ca (goodIn_r _ [183, 53, 54, 55, 56, 25, 13, 184, 185, 28, 14, 186, 187, 188, 2, 189, 23, 190, 191, 192, 193, 10, 128, 129, 130, 194, 195, 196, 7, 8, 20, 197, 198, 199, 200, 30, 31, 32, 201, 202, 203, 204, 397, 398, 399, 400, 401, 402, 403, 404, 405, 406, 407, 408, 409, 432, 433, 434, 410, 411, 412, 413, 414, 415, 416, 417, 418, 419] (by decide +kernel) (by decide +kernel)) (goodIn_sub (fun _ h => List.mem_append_left _ (List.mem_append_left _ (List.mem_append_right _ h))) (by decide +kernel))) (goodIn_sub (fun _ h => List.mem_append_left _ (List.mem_append_right _ h)) (by decide +kernel))
set_option maxRecDepth 20000 in
theorem gL_law_X5_send : GoodIn wsL_law (wsV RL 45 RX5 yX5_send wsX5_send) := goodIn_app (goodIn_of _ (by decide +kernel)) ggL_law_X5_send
set_option maxRecDepth 20000 in
theorem ggL_law_X5_receive : GoodIn wsL_law wsX5_receive := goodIn_ca (goodIn_ca (goodIn_r _ [208, 82, 83, 55, 56, 25, 14, 21, 209, 210, 2, 211, 128, 129, 130, 212, 213, 214, 397, 398, 399, 400, 401, 402, 403, 404, 405, 406, 407, 408, 409, 432, 433, 434] (by decide +kernel) (by decide +kernel)) (goodIn_sub (fun _ h => List.mem_append_right _ h) (by decide +kernel))) (goodIn_sub (fun _ h => List.mem_append_left _ (List.mem_append_right _ h)) (by decide +kernel))
set_option maxRecDepth 20000 in
theorem gL_law_X5_receive : GoodIn wsL_law (wsV RL 48 RX5 yX5_receive wsX5_receive) := goodIn_app (goodIn_of _ (by decide +kernel)) ggL_law_X5_receive
set_option maxRecDepth 20000 in
theorem ggL_law_X5_many : GoodIn wsL_law wsX5_many := goodIn_ca (goodIn_r _ [218, 53, 54, 23, 24, 25, 26, 27, 28, 219, 220, 221, 2, 222, 12, 124, 125, 126, 127, 10, 128, 129, 130, 223, 224, 225, 226, 16, 227, 228, 229, 230, 169, 170, 171, 172, 166, 167, 168, 107, 108, 231, 232, 233, 234, 18, 397, 398, 399, 400, 401, 402, 403, 404, 405, 406, 407, 408, 409, 420, 421, 422, 410, 411, 412, 413, 414, 415, 416, 417, 418, 419, 423, 424, 425, 426, 427, 428, 429, 430, 431] (by decide +kernel) (by decide +kernel)) (goodIn_sub (fun _ h => List.mem_append_left _ (List.mem_append_left _ (List.mem_append_right _ h))) (by decide +kernel))
set_option maxRecDepth 20000 in
theorem gL_law_X5_many : GoodIn wsL_law (wsV RL 51 RX5 yX5_many wsX5_many) := goodIn_app (goodIn_of _ (by decide +kernel)) ggL_law_X5_many
set_option maxRecDepth 20000 in
theorem ggL_law_X5_ofSheet : GoodIn wsL_law wsX5_ofSheet := goodIn_ca (goodIn_ca (goodIn_r _ [238, 53, 54, 10, 78, 79, 80, 2, 81, 82, 83, 23, 87, 58, 88, 89, 65, 90, 91, 92, 93, 67, 66, 104, 105, 106, 107, 108, 109, 110, 111, 112, 113, 114, 115, 120, 121, 122, 123, 24, 12, 124, 125, 126, 127, 128, 129, 130, 239, 240, 241, 242, 243, 244, 245, 246, 169, 170, 171, 172, 166, 167, 168, 397, 398, 399, 400, 401, 402, 403, 404, 405, 406, 407, 408, 409, 410, 411, 412, 413, 414, 415, 416, 417, 418, 419, 420, 421, 422] (by decide +kernel) (by decide +kernel)) (goodIn_sub (fun _ h => List.mem_append_left _ (List.mem_append_left _ (List.mem_append_right _ h))) (by decide +kernel))) (goodIn_sub (fun _ h => List.mem_append_right _ h) (by decide +kernel))
set_option maxRecDepth 20000 in
theorem gL_law_X5_ofSheet : GoodIn wsL_law (wsV RL 54 RX5 yX5_ofSheet wsX5_ofSheet) := goodIn_app (goodIn_of _ (by decide +kernel)) ggL_law_X5_ofSheet
set_option maxRecDepth 20000 in
theorem ggL_law_X5_stoppedBy : GoodIn wsL_law wsX5_stoppedBy := goodIn_ca (goodIn_r _ [250, 10, 78, 79, 80, 2, 81, 82, 83, 23, 135, 136, 137, 138, 87, 58, 88, 89, 65, 90, 91, 92, 93, 67, 66, 120, 121, 122, 123, 24, 12, 124, 125, 126, 127, 128, 129, 130, 139, 140, 141, 63, 68, 64, 69, 150, 151, 152, 153, 27, 18, 21, 154, 155, 156, 157, 158, 159, 160, 161, 162, 163, 164, 165, 26, 16, 166, 167, 168, 107, 108, 169, 170, 171, 172, 173, 174, 175, 176, 177, 178, 179, 397, 398, 399, 400, 401, 402, 403, 404, 405, 406, 407, 408, 409, 410, 411, 412, 413, 414, 415, 416, 417, 418, 419, 420, 421, 422, 426, 427, 428, 429, 430, 431, 423, 424, 425] (by decide +kernel) (by decide +kernel)) (goodIn_sub (fun _ h => List.mem_append_right _ h) (by decide +kernel))
set_option maxRecDepth 20000 in
theorem gL_law_X5_stoppedBy : GoodIn wsL_law (wsV RL 57 RX5 yX5_stoppedBy wsX5_stoppedBy) := goodIn_app (goodIn_of _ (by decide +kernel)) ggL_law_X5_stoppedBy
set_option maxRecDepth 20000 in
theorem ggL_law_X5_revise : GoodIn wsL_law wsX5_revise := goodIn_ca (goodIn_ca (goodIn_r _ [254, 55, 56, 10, 78, 79, 80, 2, 81, 82, 83, 23, 87, 58, 88, 89, 65, 90, 91, 92, 93, 67, 66, 255, 256, 257, 63, 64, 70, 397, 398, 399, 400, 401, 402, 403, 404, 405, 406, 407, 408, 409, 410, 411, 412, 413, 414, 415, 416, 417, 418, 419] (by decide +kernel) (by decide +kernel)) (goodIn_sub (fun _ h => List.mem_append_left _ (List.mem_append_right _ h)) (by decide +kernel))) (goodIn_sub (fun _ h => List.mem_append_right _ h) (by decide +kernel))
set_option maxRecDepth 20000 in
theorem gL_law_X5_revise : GoodIn wsL_law (wsV RL 60 RX5 yX5_revise wsX5_revise) := goodIn_app (goodIn_of _ (by decide +kernel)) ggL_law_X5_revise
set_option maxRecDepth 20000 in
theorem ggL_law_X5_refer : GoodIn wsL_law wsX5_refer := goodIn_ca (goodIn_ca (goodIn_ca (goodIn_r _ [261, 53, 54, 55, 56, 24, 10, 12, 11, 262, 263, 78, 79, 80, 2, 81, 82, 83, 23, 87, 58, 88, 89, 65, 90, 91, 92, 93, 67, 66, 264, 265, 266, 7, 8, 267, 268, 269, 146, 147, 148, 149, 27, 18, 150, 151, 152, 153, 21, 154, 155, 156, 157, 128, 129, 130, 158, 159, 160, 161, 120, 121, 122, 123, 124, 125, 126, 127, 162, 163, 164, 165, 26, 16, 166, 167, 168, 107, 108, 169, 170, 171, 172, 173, 174, 175, 176, 177, 178, 179, 397, 398, 399, 400, 401, 402, 403, 404, 405, 406, 407, 408, 409, 420, 421, 422, 410, 411, 412, 413, 414, 415, 416, 417, 418, 419, 426, 427, 428, 429, 430, 431, 423, 424, 425] (by decide +kernel) (by decide +kernel)) (goodIn_sub (fun _ h => List.mem_append_left _ (List.mem_append_left _ (List.mem_append_right _ h))) (by decide +kernel))) (goodIn_sub (fun _ h => List.mem_append_left _ (List.mem_append_right _ h)) (by decide +kernel))) (goodIn_sub (fun _ h => List.mem_append_right _ h) (by decide +kernel))
set_option maxRecDepth 20000 in
theorem gL_law_X5_refer : GoodIn wsL_law (wsV RL 63 RX5 yX5_refer wsX5_refer) := goodIn_app (goodIn_of _ (by decide +kernel)) ggL_law_X5_refer
set_option maxRecDepth 20000 in
theorem ggL_law_X5_query : GoodIn wsL_law wsX5_query := goodIn_ca (goodIn_ca (goodIn_ca (goodIn_r _ [273, 55, 56, 26, 10, 16, 15, 274, 275, 78, 79, 80, 2, 81, 82, 83, 23, 84, 85, 86, 53, 54, 94, 95, 96, 97, 98, 99, 100, 276, 277, 278, 7, 8, 279, 280, 281, 146, 147, 148, 149, 27, 18, 150, 151, 152, 153, 21, 154, 155, 156, 157, 128, 129, 130, 158, 159, 160, 161, 120, 121, 122, 123, 24, 12, 124, 125, 126, 127, 162, 163, 164, 165, 166, 167, 168, 107, 108, 169, 170, 171, 172, 173, 174, 175, 176, 177, 178, 179, 397, 398, 399, 400, 401, 402, 403, 404, 405, 406, 407, 408, 409, 410, 411, 412, 413, 414, 415, 416, 417, 418, 419, 423, 424, 425, 426, 427, 428, 429, 430, 431, 420, 421, 422] (by decide +kernel) (by decide +kernel)) (goodIn_sub (fun _ h => List.mem_append_left _ (List.mem_append_right _ h)) (by decide +kernel))) (goodIn_sub (fun _ h => List.mem_append_right _ h) (by decide +kernel))) (goodIn_sub (fun _ h => List.mem_append_left _ (List.mem_append_left _ (List.mem_append_right _ h))) (by decide +kernel))
set_option maxRecDepth 20000 in
theorem gL_law_X5_query : GoodIn wsL_law (wsV RL 67 RX5 yX5_query wsX5_query) := goodIn_app (goodIn_of _ (by decide +kernel)) ggL_law_X5_query
set_option maxRecDepth 20000 in
theorem ggL_law_X5_clouds : GoodIn wsL_law wsX5_clouds := goodIn_ca (goodIn_ca (goodIn_r _ [285, 78, 79, 80, 2, 81, 82, 83, 23, 84, 85, 86, 53, 54, 94, 95, 96, 97, 98, 99, 100, 162, 163, 164, 165, 26, 16, 166, 167, 168, 107, 108, 169, 170, 171, 172, 10, 128, 129, 130, 397, 398, 399, 400, 401, 402, 403, 404, 405, 406, 407, 408, 409, 423, 424, 425, 410, 411, 412, 413, 414, 415, 416, 417, 418, 419] (by decide +kernel) (by decide +kernel)) (goodIn_sub (fun _ h => List.mem_append_right _ h) (by decide +kernel))) (goodIn_sub (fun _ h => List.mem_append_left _ (List.mem_append_left _ (List.mem_append_right _ h))) (by decide +kernel))
set_option maxRecDepth 20000 in
theorem gL_law_X5_clouds : GoodIn wsL_law (wsV RL 71 RX5 yX5_clouds wsX5_clouds) := goodIn_app (goodIn_of _ (by decide +kernel)) ggL_law_X5_clouds
set_option maxRecDepth 20000 in
theorem ggL_law_X5_pack : GoodIn wsL_law wsX5_pack := goodIn_ca (goodIn_ca (goodIn_ca (goodIn_r _ [289, 53, 54, 55, 56, 27, 18, 17, 290, 291, 209, 210, 2, 211, 82, 83, 186, 187, 188, 189, 23, 292, 293, 294, 7, 8, 295, 296, 297, 298, 299, 300, 301, 397, 398, 399, 400, 401, 402, 403, 404, 405, 406, 407, 408, 409, 426, 427, 428, 429, 430, 431] (by decide +kernel) (by decide +kernel)) (goodIn_sub (fun _ h => List.mem_append_left _ (List.mem_append_left _ (List.mem_append_right _ h))) (by decide +kernel))) (goodIn_sub (fun _ h => List.mem_append_left _ (List.mem_append_right _ h)) (by decide +kernel))) (goodIn_sub (fun _ h => List.mem_append_right _ h) (by decide +kernel))
set_option maxRecDepth 20000 in
theorem gL_law_X5_pack : GoodIn wsL_law (wsV RL 74 RX5 yX5_pack wsX5_pack) := goodIn_app (goodIn_of _ (by decide +kernel)) ggL_law_X5_pack
set_option maxRecDepth 20000 in
theorem ggL_law_X5_place : GoodIn wsL_law wsX5_place := goodIn_ca (goodIn_ca (goodIn_ca (goodIn_r _ [305, 55, 56, 18, 306, 307, 308, 2, 309, 82, 83, 27, 84, 85, 86, 53, 54, 94, 95, 96, 97, 98, 99, 100, 146, 147, 148, 149, 150, 151, 152, 153, 21, 154, 155, 156, 157, 23, 128, 129, 130, 158, 159, 160, 161, 10, 120, 121, 122, 123, 24, 12, 124, 125, 126, 127, 162, 163, 164, 165, 26, 16, 166, 167, 168, 107, 108, 169, 170, 171, 172, 173, 174, 175, 176, 177, 178, 179, 104, 105, 106, 109, 110, 111, 112, 113, 114, 115, 397, 398, 399, 400, 401, 402, 403, 404, 405, 406, 407, 408, 409, 426, 427, 428, 429, 430, 431, 410, 411, 412, 413, 414, 415, 416, 417, 418, 419, 420, 421, 422, 423, 424, 425] (by decide +kernel) (by decide +kernel)) (goodIn_sub (fun _ h => List.mem_append_left _ (List.mem_append_right _ h)) (by decide +kernel))) (goodIn_sub (fun _ h => List.mem_append_right _ h) (by decide +kernel))) (goodIn_sub (fun _ h => List.mem_append_left _ (List.mem_append_left _ (List.mem_append_right _ h))) (by decide +kernel))
set_option maxRecDepth 20000 in
theorem gL_law_X5_place : GoodIn wsL_law (wsV RL 77 RX5 yX5_place wsX5_place) := goodIn_app (goodIn_of _ (by decide +kernel)) ggL_law_X5_place
set_option maxRecDepth 20000 in
theorem ggL_law_X5_day : GoodIn wsL_law wsX5_day := goodIn_r _ [313, 28, 27, 18, 314, 291, 315, 316, 301, 297, 317, 318, 319, 2, 320, 23, 10, 128, 129, 130, 146, 147, 148, 149, 150, 151, 152, 153, 21, 154, 155, 156, 157, 158, 159, 160, 161, 120, 121, 122, 123, 24, 12, 124, 125, 126, 127, 162, 163, 164, 165, 26, 16, 166, 167, 168, 107, 108, 169, 170, 171, 172, 173, 174, 175, 176, 177, 178, 179, 397, 398, 399, 400, 401, 402, 403, 404, 405, 406, 407, 408, 409, 426, 427, 428, 429, 430, 431, 410, 411, 412, 413, 414, 415, 416, 417, 418, 419, 420, 421, 422, 423, 424, 425] (by decide +kernel) (by decide +kernel)
set_option maxRecDepth 20000 in
theorem gL_law_X5_day : GoodIn wsL_law (wsV RL 80 RX5 yX5_day wsX5_day) := goodIn_app (goodIn_of _ (by decide +kernel)) ggL_law_X5_day
set_option maxRecDepth 20000 in
theorem ggL_law_X5_ofPack : GoodIn wsL_law wsX5_ofPack := goodIn_ca (goodIn_ca (goodIn_r _ [324, 53, 54, 18, 21, 306, 307, 308, 2, 309, 82, 83, 27, 154, 155, 156, 157, 23, 128, 129, 130, 158, 159, 160, 161, 10, 120, 121, 122, 123, 24, 12, 124, 125, 126, 127, 162, 163, 164, 165, 26, 16, 166, 167, 168, 107, 108, 169, 170, 171, 172, 325, 326, 327, 328, 397, 398, 399, 400, 401, 402, 403, 404, 405, 406, 407, 408, 409, 426, 427, 428, 429, 430, 431, 410, 411, 412, 413, 414, 415, 416, 417, 418, 419, 420, 421, 422, 423, 424, 425] (by decide +kernel) (by decide +kernel)) (goodIn_sub (fun _ h => List.mem_append_left _ (List.mem_append_left _ (List.mem_append_right _ h))) (by decide +kernel))) (goodIn_sub (fun _ h => List.mem_append_right _ h) (by decide +kernel))
set_option maxRecDepth 20000 in
theorem gL_law_X5_ofPack : GoodIn wsL_law (wsV RL 84 RX5 yX5_ofPack wsX5_ofPack) := goodIn_app (goodIn_of _ (by decide +kernel)) ggL_law_X5_ofPack
set_option maxRecDepth 20000 in
theorem ggL_law_X5_start : GoodIn wsL_law wsX5_start := goodIn_ca (goodIn_ca (goodIn_r _ [332, 55, 56, 18, 21, 306, 307, 308, 2, 309, 82, 83, 27, 333, 291, 334, 335, 297, 154, 155, 156, 157, 23, 128, 129, 130, 158, 159, 160, 161, 10, 120, 121, 122, 123, 24, 12, 124, 125, 126, 127, 162, 163, 164, 165, 26, 16, 166, 167, 168, 107, 108, 169, 170, 171, 172, 397, 398, 399, 400, 401, 402, 403, 404, 405, 406, 407, 408, 409, 426, 427, 428, 429, 430, 431, 410, 411, 412, 413, 414, 415, 416, 417, 418, 419, 420, 421, 422, 423, 424, 425] (by decide +kernel) (by decide +kernel)) (goodIn_sub (fun _ h => List.mem_append_left _ (List.mem_append_right _ h)) (by decide +kernel))) (goodIn_sub (fun _ h => List.mem_append_right _ h) (by decide +kernel))
set_option maxRecDepth 20000 in
theorem gL_law_X5_start : GoodIn wsL_law (wsV RL 87 RX5 yX5_start wsX5_start) := goodIn_app (goodIn_of _ (by decide +kernel)) ggL_law_X5_start
set_option maxRecDepth 20000 in
theorem ggL_law_L_isFair : GoodIn wsL_law wsL_isFair := goodIn_ca (goodIn_ca (goodIn_r _ [338, 235, 236, 237, 2, 238, 53, 54, 10, 78, 79, 80, 81, 82, 83, 23, 87, 58, 88, 89, 65, 90, 91, 92, 93, 67, 66, 104, 105, 106, 107, 108, 109, 110, 111, 112, 113, 114, 115, 120, 121, 122, 123, 24, 12, 124, 125, 126, 127, 128, 129, 130, 239, 240, 241, 242, 243, 244, 245, 246, 169, 170, 171, 172, 166, 167, 168, 339, 340, 341, 342, 343, 344, 345, 346, 347, 348, 349, 350, 215, 216, 217, 218, 25, 26, 27, 28, 219, 220, 221, 222, 223, 224, 225, 226, 16, 227, 228, 229, 230, 231, 232, 233, 234, 18, 321, 322, 323, 324, 21, 306, 307, 308, 309, 154, 155, 156, 157, 158, 159, 160, 161, 162, 163, 164, 165, 325, 326, 327, 328, 351, 352, 353, 354, 209, 210, 211, 397, 398, 399, 400, 401, 402, 403, 404, 405, 406, 407, 408, 409, 410, 411, 412, 413, 414, 415, 416, 417, 418, 419, 420, 421, 422, 423, 424, 425, 426, 427, 428, 429, 430, 431] (by decide +kernel) (by decide +kernel)) (goodIn_sub (fun _ h => List.mem_append_left _ (List.mem_append_left _ (List.mem_append_right _ h))) (by decide +kernel))) (goodIn_sub (fun _ h => List.mem_append_right _ h) (by decide +kernel))
set_option maxRecDepth 20000 in
theorem gL_law_L_isFair : GoodIn wsL_law (va_wsS RL 90 yL_isFair wsL_isFair) := goodIn_app (goodIn_of _ (by decide +kernel)) ggL_law_L_isFair
set_option maxRecDepth 20000 in
theorem ggL_law_X5_digest : GoodIn wsL_law wsX5_digest := goodIn_ca (goodIn_ca (goodIn_r _ [358, 359, 360, 23, 10, 26, 27, 361, 216, 217, 2, 218, 53, 54, 24, 25, 28, 219, 220, 221, 222, 12, 124, 125, 126, 127, 128, 129, 130, 223, 224, 225, 226, 16, 227, 228, 229, 230, 169, 170, 171, 172, 166, 167, 168, 107, 108, 231, 232, 233, 234, 18, 362, 236, 237, 238, 78, 79, 80, 81, 82, 83, 87, 58, 88, 89, 65, 90, 91, 92, 93, 67, 66, 104, 105, 106, 109, 110, 111, 112, 113, 114, 115, 120, 121, 122, 123, 239, 240, 241, 242, 243, 244, 245, 246, 363, 340, 341, 342, 364, 352, 353, 354, 21, 209, 210, 211, 365, 248, 249, 250, 135, 136, 137, 138, 139, 140, 141, 63, 68, 64, 69, 150, 151, 152, 153, 154, 155, 156, 157, 158, 159, 160, 161, 162, 163, 164, 165, 173, 174, 175, 176, 177, 178, 179, 366, 367, 368, 369, 370, 371, 372, 373, 374, 375, 376, 377, 378, 379, 380, 381, 382, 383, 384, 385, 14, 386, 387, 388, 389, 22, 390, 391, 392, 393, 212, 213, 214, 333, 291, 334, 335, 297, 394, 322, 323, 324, 306, 307, 308, 309, 325, 326, 327, 328, 397, 398, 399, 400, 401, 402, 403, 404, 405, 406, 407, 408, 409, 410, 411, 412, 413, 414, 415, 416, 417, 418, 419, 420, 421, 422, 423, 424, 425, 426, 427, 428, 429, 430, 431, 432, 433, 434] (by decide +kernel) (by decide +kernel)) (goodIn_sub (fun _ h => List.mem_append_left _ (List.mem_append_left _ (List.mem_append_right _ h))) (by decide +kernel))) (goodIn_sub (fun _ h => List.mem_append_right _ h) (by decide +kernel))
set_option maxRecDepth 20000 in
theorem gL_law_X5_digest : GoodIn wsL_law (wsV RL 94 RX5 yX5_digest wsX5_digest) := goodIn_app (goodIn_of _ (by decide +kernel)) ggL_law_X5_digest
set_option maxRecDepth 20000 in
theorem ggL_law_X5_freedBy : GoodIn wsL_law wsX5_freedBy := goodIn_ca (goodIn_r _ [377, 16, 370, 371, 372, 2, 373, 82, 83, 26, 378, 379, 380, 381, 27, 18, 21, 154, 155, 156, 157, 23, 128, 129, 130, 158, 159, 160, 161, 10, 120, 121, 122, 123, 24, 12, 124, 125, 126, 127, 162, 163, 164, 165, 166, 167, 168, 107, 108, 169, 170, 171, 172, 397, 398, 399, 400, 401, 402, 403, 404, 405, 406, 407, 408, 409, 423, 424, 425, 426, 427, 428, 429, 430, 431, 410, 411, 412, 413, 414, 415, 416, 417, 418, 419, 420, 421, 422] (by decide +kernel) (by decide +kernel)) (goodIn_sub (fun _ h => List.mem_append_right _ h) (by decide +kernel))
set_option maxRecDepth 20000 in
theorem gL_law_X5_freedBy : GoodIn wsL_law (wsV RL 98 RX5 yX5_freedBy wsX5_freedBy) := goodIn_app (goodIn_of _ (by decide +kernel)) ggL_law_X5_freedBy
set_option maxRecDepth 20000 in
theorem ggL_law_X5_ofQuery : GoodIn wsL_law wsX5_ofQuery := goodIn_ca (goodIn_r _ [369, 16, 370, 371, 372, 2, 373, 82, 83, 26, 397, 398, 399, 400, 401, 402, 403, 404, 405, 406, 407, 408, 409, 423, 424, 425] (by decide +kernel) (by decide +kernel)) (goodIn_sub (fun _ h => List.mem_append_right _ h) (by decide +kernel))
set_option maxRecDepth 20000 in
theorem gL_law_X5_ofQuery : GoodIn wsL_law (wsV RL 101 RX5 yX5_ofQuery wsX5_ofQuery) := goodIn_app (goodIn_of _ (by decide +kernel)) ggL_law_X5_ofQuery
theorem dL_law_0 : decode cL_law 0 = .ok (.new 20, 3) := by decide +kernel
theorem dL_law_3 : decode cL_law 3 = .ok (.dup, 1) := by decide +kernel
theorem dL_law_4 : decode cL_law 4 = .ok (.invokespecial 22, 3) := by decide +kernel
theorem dL_law_7 : decode cL_law 7 = .ok (.astore_n 1, 1) := by decide +kernel
theorem dL_law_8 : decode cL_law 8 = .ok (.iconst 2, 1) := by decide +kernel
theorem dL_law_9 : decode cL_law 9 = .ok (.aload_n 0, 1) := by decide +kernel
theorem dL_law_10 : decode cL_law 10 = .ok (.iconst 0, 1) := by decide +kernel
theorem dL_law_11 : decode cL_law 11 = .ok (.invokestatic 23, 3) := by decide +kernel
theorem dL_law_14 : decode cL_law 14 = .ok (.iconst 4, 1) := by decide +kernel
theorem dL_law_15 : decode cL_law 15 = .ok (.invokestatic 9, 3) := by decide +kernel
theorem dL_law_18 : decode cL_law 18 = .ok (.iadd, 1) := by decide +kernel
theorem dL_law_19 : decode cL_law 19 = .ok (.istore_n 2, 1) := by decide +kernel
theorem dL_law_20 : decode cL_law 20 = .ok (.iconst 0, 1) := by decide +kernel
theorem dL_law_21 : decode cL_law 21 = .ok (.istore_n 3, 1) := by decide +kernel
theorem dL_law_22 : decode cL_law 22 = .ok (.iload_n 3, 1) := by decide +kernel
theorem dL_law_23 : decode cL_law 23 = .ok (.iload_n 2, 1) := by decide +kernel
theorem dL_law_24 : decode cL_law 24 = .ok (.if_icmp .ge 84, 3) := by decide +kernel
theorem dL_law_27 : decode cL_law 27 = .ok (.aload_n 0, 1) := by decide +kernel
theorem dL_law_28 : decode cL_law 28 = .ok (.iload_n 3, 1) := by decide +kernel
theorem dL_law_29 : decode cL_law 29 = .ok (.iconst 1, 1) := by decide +kernel
theorem dL_law_30 : decode cL_law 30 = .ok (.iadd, 1) := by decide +kernel
theorem dL_law_31 : decode cL_law 31 = .ok (.invokestatic 23, 3) := by decide +kernel
theorem dL_law_34 : decode cL_law 34 = .ok (.invokestatic 27, 3) := by decide +kernel
theorem dL_law_37 : decode cL_law 37 = .ok (.astore 4, 2) := by decide +kernel
theorem dL_law_39 : decode cL_law 39 = .ok (.aload_n 1, 1) := by decide +kernel
theorem dL_law_40 : decode cL_law 40 = .ok (.aload_n 0, 1) := by decide +kernel
theorem dL_law_41 : decode cL_law 41 = .ok (.iload_n 3, 1) := by decide +kernel
theorem dL_law_42 : decode cL_law 42 = .ok (.invokestatic 23, 3) := by decide +kernel
theorem dL_law_45 : decode cL_law 45 = .ok (.iconst 3, 1) := by decide +kernel
theorem dL_law_46 : decode cL_law 46 = .ok (.invokestatic 9, 3) := by decide +kernel
theorem dL_law_49 : decode cL_law 49 = .ok (.invokevirtual 31, 3) := by decide +kernel
theorem dL_law_52 : decode cL_law 52 = .ok (.iload_n 3, 1) := by decide +kernel
theorem dL_law_53 : decode cL_law 53 = .ok (.if_icmp .ne 47, 3) := by decide +kernel
theorem dL_law_56 : decode cL_law 56 = .ok (.aload_n 1, 1) := by decide +kernel
theorem dL_law_57 : decode cL_law 57 = .ok (.iload_n 3, 1) := by decide +kernel
theorem dL_law_58 : decode cL_law 58 = .ok (.aload 4, 2) := by decide +kernel
theorem dL_law_60 : decode cL_law 60 = .ok (.iconst 0, 1) := by decide +kernel
theorem dL_law_61 : decode cL_law 61 = .ok (.iaload, 1) := by decide +kernel
theorem dL_law_62 : decode cL_law 62 = .ok (.aload 4, 2) := by decide +kernel
theorem dL_law_64 : decode cL_law 64 = .ok (.iconst 1, 1) := by decide +kernel
theorem dL_law_65 : decode cL_law 65 = .ok (.iaload, 1) := by decide +kernel
theorem dL_law_66 : decode cL_law 66 = .ok (.aload 4, 2) := by decide +kernel
theorem dL_law_68 : decode cL_law 68 = .ok (.iconst 2, 1) := by decide +kernel
theorem dL_law_69 : decode cL_law 69 = .ok (.iaload, 1) := by decide +kernel
theorem dL_law_70 : decode cL_law 70 = .ok (.aload 4, 2) := by decide +kernel
theorem dL_law_72 : decode cL_law 72 = .ok (.iconst 3, 1) := by decide +kernel
theorem dL_law_73 : decode cL_law 73 = .ok (.iaload, 1) := by decide +kernel
theorem dL_law_74 : decode cL_law 74 = .ok (.sipush 255, 3) := by decide +kernel
theorem dL_law_77 : decode cL_law 77 = .ok (.invokevirtual 35, 3) := by decide +kernel
theorem dL_law_80 : decode cL_law 80 = .ok (.iconst 1, 1) := by decide +kernel
theorem dL_law_81 : decode cL_law 81 = .ok (.if_icmp .lt 19, 3) := by decide +kernel
theorem dL_law_84 : decode cL_law 84 = .ok (.aload_n 1, 1) := by decide +kernel
theorem dL_law_85 : decode cL_law 85 = .ok (.iload_n 3, 1) := by decide +kernel
theorem dL_law_86 : decode cL_law 86 = .ok (.invokevirtual 39, 3) := by decide +kernel
theorem dL_law_89 : decode cL_law 89 = .ok (.ifCond .ne 11, 3) := by decide +kernel
theorem dL_law_92 : decode cL_law 92 = .ok (.aload_n 1, 1) := by decide +kernel
theorem dL_law_93 : decode cL_law 93 = .ok (.iload_n 3, 1) := by decide +kernel
theorem dL_law_94 : decode cL_law 94 = .ok (.invokevirtual 42, 3) := by decide +kernel
theorem dL_law_97 : decode cL_law 97 = .ok (.ifCond .eq 5, 3) := by decide +kernel
theorem dL_law_100 : decode cL_law 100 = .ok (.iconst 0, 1) := by decide +kernel
theorem dL_law_101 : decode cL_law 101 = .ok (.ireturn, 1) := by decide +kernel
theorem dL_law_102 : decode cL_law 102 = .ok (.iinc 3 1, 3) := by decide +kernel
theorem dL_law_105 : decode cL_law 105 = .ok (.goto (-83), 3) := by decide +kernel
theorem dL_law_108 : decode cL_law 108 = .ok (.aload_n 1, 1) := by decide +kernel
theorem dL_law_109 : decode cL_law 109 = .ok (.bipush 15, 2) := by decide +kernel
theorem dL_law_111 : decode cL_law 111 = .ok (.iconst 1, 1) := by decide +kernel
theorem dL_law_112 : decode cL_law 112 = .ok (.iload_n 2, 1) := by decide +kernel
theorem dL_law_113 : decode cL_law 113 = .ok (.ishl, 1) := by decide +kernel
theorem dL_law_114 : decode cL_law 114 = .ok (.iconst 1, 1) := by decide +kernel
theorem dL_law_115 : decode cL_law 115 = .ok (.isub, 1) := by decide +kernel
theorem dL_law_116 : decode cL_law 116 = .ok (.invokevirtual 45, 3) := by decide +kernel
theorem dL_law_119 : decode cL_law 119 = .ok (.ifCond .eq 5, 3) := by decide +kernel
theorem dL_law_122 : decode cL_law 122 = .ok (.iconst 0, 1) := by decide +kernel
theorem dL_law_123 : decode cL_law 123 = .ok (.ireturn, 1) := by decide +kernel
theorem dL_law_124 : decode cL_law 124 = .ok (.iconst 0, 1) := by decide +kernel
theorem dL_law_125 : decode cL_law 125 = .ok (.istore_n 3, 1) := by decide +kernel
theorem dL_law_126 : decode cL_law 126 = .ok (.iload_n 3, 1) := by decide +kernel
theorem dL_law_127 : decode cL_law 127 = .ok (.iconst 4, 1) := by decide +kernel
theorem dL_law_128 : decode cL_law 128 = .ok (.if_icmp .ge 21, 3) := by decide +kernel
theorem dL_law_131 : decode cL_law 131 = .ok (.aload_n 1, 1) := by decide +kernel
theorem dL_law_132 : decode cL_law 132 = .ok (.iconst 0, 1) := by decide +kernel
theorem dL_law_133 : decode cL_law 133 = .ok (.iload_n 3, 1) := by decide +kernel
theorem dL_law_134 : decode cL_law 134 = .ok (.invokevirtual 48, 3) := by decide +kernel
theorem dL_law_137 : decode cL_law 137 = .ok (.iload_n 2, 1) := by decide +kernel
theorem dL_law_138 : decode cL_law 138 = .ok (.if_icmp .eq 5, 3) := by decide +kernel
theorem dL_law_141 : decode cL_law 141 = .ok (.iconst 0, 1) := by decide +kernel
theorem dL_law_142 : decode cL_law 142 = .ok (.ireturn, 1) := by decide +kernel
theorem dL_law_143 : decode cL_law 143 = .ok (.iinc 3 1, 3) := by decide +kernel
theorem dL_law_146 : decode cL_law 146 = .ok (.goto (-20), 3) := by decide +kernel
theorem dL_law_149 : decode cL_law 149 = .ok (.iconst 0, 1) := by decide +kernel
theorem dL_law_150 : decode cL_law 150 = .ok (.istore_n 3, 1) := by decide +kernel
theorem dL_law_151 : decode cL_law 151 = .ok (.iload_n 3, 1) := by decide +kernel
theorem dL_law_152 : decode cL_law 152 = .ok (.bipush 40, 2) := by decide +kernel
theorem dL_law_154 : decode cL_law 154 = .ok (.if_icmp .ge 651, 3) := by decide +kernel
theorem dL_law_157 : decode cL_law 157 = .ok (.aload_n 0, 1) := by decide +kernel
theorem dL_law_158 : decode cL_law 158 = .ok (.iload_n 3, 1) := by decide +kernel
theorem dL_law_159 : decode cL_law 159 = .ok (.bipush 16, 2) := by decide +kernel
theorem dL_law_161 : decode cL_law 161 = .ok (.irem, 1) := by decide +kernel
theorem dL_law_162 : decode cL_law 162 = .ok (.invokestatic 23, 3) := by decide +kernel
theorem dL_law_165 : decode cL_law 165 = .ok (.iload_n 3, 1) := by decide +kernel
theorem dL_law_166 : decode cL_law 166 = .ok (.bipush 16, 2) := by decide +kernel
theorem dL_law_168 : decode cL_law 168 = .ok (.idiv, 1) := by decide +kernel
theorem dL_law_169 : decode cL_law 169 = .ok (.iconst 3, 1) := by decide +kernel
theorem dL_law_170 : decode cL_law 170 = .ok (.imul, 1) := by decide +kernel
theorem dL_law_171 : decode cL_law 171 = .ok (.ishr, 1) := by decide +kernel
theorem dL_law_172 : decode cL_law 172 = .ok (.bipush 7, 2) := by decide +kernel
theorem dL_law_174 : decode cL_law 174 = .ok (.iload_n 3, 1) := by decide +kernel
theorem dL_law_175 : decode cL_law 175 = .ok (.imul, 1) := by decide +kernel
theorem dL_law_176 : decode cL_law 176 = .ok (.iadd, 1) := by decide +kernel
theorem dL_law_177 : decode cL_law 177 = .ok (.istore 4, 2) := by decide +kernel
theorem dL_law_179 : decode cL_law 179 = .ok (.iload 4, 2) := by decide +kernel
theorem dL_law_181 : decode cL_law 181 = .ok (.iconst 3, 1) := by decide +kernel
theorem dL_law_182 : decode cL_law 182 = .ok (.ishr, 1) := by decide +kernel
theorem dL_law_183 : decode cL_law 183 = .ok (.iload_n 2, 1) := by decide +kernel
theorem dL_law_184 : decode cL_law 184 = .ok (.invokestatic 9, 3) := by decide +kernel
theorem dL_law_187 : decode cL_law 187 = .ok (.istore 5, 2) := by decide +kernel
theorem dL_law_189 : decode cL_law 189 = .ok (.aload_n 1, 1) := by decide +kernel
theorem dL_law_190 : decode cL_law 190 = .ok (.bipush 7, 2) := by decide +kernel
theorem dL_law_192 : decode cL_law 192 = .ok (.invokevirtual 51, 3) := by decide +kernel
theorem dL_law_195 : decode cL_law 195 = .ok (.istore 6, 2) := by decide +kernel
theorem dL_law_197 : decode cL_law 197 = .ok (.iload 6, 2) := by decide +kernel
theorem dL_law_199 : decode cL_law 199 = .ok (.ifCond .ne 7, 3) := by decide +kernel
theorem dL_law_202 : decode cL_law 202 = .ok (.iconst (-1), 1) := by decide +kernel
theorem dL_law_203 : decode cL_law 203 = .ok (.goto 12, 3) := by decide +kernel
theorem dL_law_206 : decode cL_law 206 = .ok (.iload 4, 2) := by decide +kernel
theorem dL_law_208 : decode cL_law 208 = .ok (.iconst 4, 1) := by decide +kernel
theorem dL_law_209 : decode cL_law 209 = .ok (.ishr, 1) := by decide +kernel
theorem dL_law_210 : decode cL_law 210 = .ok (.iload 6, 2) := by decide +kernel
theorem dL_law_212 : decode cL_law 212 = .ok (.invokestatic 9, 3) := by decide +kernel
theorem dL_law_215 : decode cL_law 215 = .ok (.istore 7, 2) := by decide +kernel
theorem dL_law_217 : decode cL_law 217 = .ok (.iload 4, 2) := by decide +kernel
theorem dL_law_219 : decode cL_law 219 = .ok (.iconst 2, 1) := by decide +kernel
theorem dL_law_220 : decode cL_law 220 = .ok (.ishr, 1) := by decide +kernel
theorem dL_law_221 : decode cL_law 221 = .ok (.invokestatic 27, 3) := by decide +kernel
theorem dL_law_224 : decode cL_law 224 = .ok (.astore 8, 2) := by decide +kernel
theorem dL_law_226 : decode cL_law 226 = .ok (.iload 4, 2) := by decide +kernel
theorem dL_law_228 : decode cL_law 228 = .ok (.bipush 9, 2) := by decide +kernel
theorem dL_law_230 : decode cL_law 230 = .ok (.invokestatic 9, 3) := by decide +kernel
theorem dL_law_233 : decode cL_law 233 = .ok (.tableswitch 511 0 7 #[47, 76, 185, 228, 295, 335, 397, 485], 47) := by decide +kernel
theorem dL_law_280 : decode cL_law 280 = .ok (.aload_n 1, 1) := by decide +kernel
theorem dL_law_281 : decode cL_law 281 = .ok (.iload 5, 2) := by decide +kernel
theorem dL_law_283 : decode cL_law 283 = .ok (.iconst 3, 1) := by decide +kernel
theorem dL_law_284 : decode cL_law 284 = .ok (.invokevirtual 54, 3) := by decide +kernel
theorem dL_law_287 : decode cL_law 287 = .ok (.ifCond .ne 502, 3) := by decide +kernel
theorem dL_law_290 : decode cL_law 290 = .ok (.aload_n 1, 1) := by decide +kernel
theorem dL_law_291 : decode cL_law 291 = .ok (.iload 5, 2) := by decide +kernel
theorem dL_law_293 : decode cL_law 293 = .ok (.invokevirtual 39, 3) := by decide +kernel
theorem dL_law_296 : decode cL_law 296 = .ok (.aload_n 1, 1) := by decide +kernel
theorem dL_law_297 : decode cL_law 297 = .ok (.iload 5, 2) := by decide +kernel
theorem dL_law_299 : decode cL_law 299 = .ok (.bipush 7, 2) := by decide +kernel
theorem dL_law_301 : decode cL_law 301 = .ok (.invokevirtual 54, 3) := by decide +kernel
theorem dL_law_304 : decode cL_law 304 = .ok (.if_icmp .eq 485, 3) := by decide +kernel
theorem dL_law_307 : decode cL_law 307 = .ok (.iconst 0, 1) := by decide +kernel
theorem dL_law_308 : decode cL_law 308 = .ok (.ireturn, 1) := by decide +kernel
theorem dL_law_309 : decode cL_law 309 = .ok (.aload_n 1, 1) := by decide +kernel
theorem dL_law_310 : decode cL_law 310 = .ok (.iload 5, 2) := by decide +kernel
theorem dL_law_312 : decode cL_law 312 = .ok (.invokevirtual 57, 3) := by decide +kernel
theorem dL_law_315 : decode cL_law 315 = .ok (.istore 9, 2) := by decide +kernel
theorem dL_law_317 : decode cL_law 317 = .ok (.aload_n 1, 1) := by decide +kernel
theorem dL_law_318 : decode cL_law 318 = .ok (.bipush 10, 2) := by decide +kernel
theorem dL_law_320 : decode cL_law 320 = .ok (.invokevirtual 51, 3) := by decide +kernel
theorem dL_law_323 : decode cL_law 323 = .ok (.istore 10, 2) := by decide +kernel
theorem dL_law_325 : decode cL_law 325 = .ok (.iload 9, 2) := by decide +kernel
theorem dL_law_327 : decode cL_law 327 = .ok (.ifCond .lt 7, 3) := by decide +kernel
theorem dL_law_330 : decode cL_law 330 = .ok (.iconst 1, 1) := by decide +kernel
theorem dL_law_331 : decode cL_law 331 = .ok (.goto 4, 3) := by decide +kernel
theorem dL_law_334 : decode cL_law 334 = .ok (.iconst 0, 1) := by decide +kernel
theorem dL_law_335 : decode cL_law 335 = .ok (.aload_n 1, 1) := by decide +kernel
theorem dL_law_336 : decode cL_law 336 = .ok (.iload 5, 2) := by decide +kernel
theorem dL_law_338 : decode cL_law 338 = .ok (.iconst 3, 1) := by decide +kernel
theorem dL_law_339 : decode cL_law 339 = .ok (.invokevirtual 54, 3) := by decide +kernel
theorem dL_law_342 : decode cL_law 342 = .ok (.iconst 1, 1) := by decide +kernel
theorem dL_law_343 : decode cL_law 343 = .ok (.if_icmp .ne 18, 3) := by decide +kernel
theorem dL_law_346 : decode cL_law 346 = .ok (.aload_n 1, 1) := by decide +kernel
theorem dL_law_347 : decode cL_law 347 = .ok (.iload 5, 2) := by decide +kernel
theorem dL_law_349 : decode cL_law 349 = .ok (.bipush 7, 2) := by decide +kernel
theorem dL_law_351 : decode cL_law 351 = .ok (.invokevirtual 54, 3) := by decide +kernel
theorem dL_law_354 : decode cL_law 354 = .ok (.ifCond .ne 7, 3) := by decide +kernel
theorem dL_law_357 : decode cL_law 357 = .ok (.iconst 1, 1) := by decide +kernel
theorem dL_law_358 : decode cL_law 358 = .ok (.goto 4, 3) := by decide +kernel
theorem dL_law_361 : decode cL_law 361 = .ok (.iconst 0, 1) := by decide +kernel
theorem dL_law_362 : decode cL_law 362 = .ok (.if_icmp .eq 5, 3) := by decide +kernel
theorem dL_law_365 : decode cL_law 365 = .ok (.iconst 0, 1) := by decide +kernel
theorem dL_law_366 : decode cL_law 366 = .ok (.ireturn, 1) := by decide +kernel
theorem dL_law_367 : decode cL_law 367 = .ok (.iload 9, 2) := by decide +kernel
theorem dL_law_369 : decode cL_law 369 = .ok (.ifCond .lt 420, 3) := by decide +kernel
theorem dL_law_372 : decode cL_law 372 = .ok (.aload_n 1, 1) := by decide +kernel
theorem dL_law_373 : decode cL_law 373 = .ok (.iload 5, 2) := by decide +kernel
theorem dL_law_375 : decode cL_law 375 = .ok (.invokevirtual 42, 3) := by decide +kernel
theorem dL_law_378 : decode cL_law 378 = .ok (.iload 9, 2) := by decide +kernel
theorem dL_law_380 : decode cL_law 380 = .ok (.if_icmp .ne 36, 3) := by decide +kernel
theorem dL_law_383 : decode cL_law 383 = .ok (.aload_n 1, 1) := by decide +kernel
theorem dL_law_384 : decode cL_law 384 = .ok (.bipush 10, 2) := by decide +kernel
theorem dL_law_386 : decode cL_law 386 = .ok (.invokevirtual 51, 3) := by decide +kernel
theorem dL_law_389 : decode cL_law 389 = .ok (.iload 10, 2) := by decide +kernel
theorem dL_law_391 : decode cL_law 391 = .ok (.iload 9, 2) := by decide +kernel
theorem dL_law_393 : decode cL_law 393 = .ok (.iadd, 1) := by decide +kernel
theorem dL_law_394 : decode cL_law 394 = .ok (.if_icmp .ne 22, 3) := by decide +kernel
theorem dL_law_397 : decode cL_law 397 = .ok (.aload_n 1, 1) := by decide +kernel
theorem dL_law_398 : decode cL_law 398 = .ok (.iload 5, 2) := by decide +kernel
theorem dL_law_400 : decode cL_law 400 = .ok (.iconst 2, 1) := by decide +kernel
theorem dL_law_401 : decode cL_law 401 = .ok (.invokevirtual 54, 3) := by decide +kernel
theorem dL_law_404 : decode cL_law 404 = .ok (.aload_n 1, 1) := by decide +kernel
theorem dL_law_405 : decode cL_law 405 = .ok (.iload 5, 2) := by decide +kernel
theorem dL_law_407 : decode cL_law 407 = .ok (.iconst 1, 1) := by decide +kernel
theorem dL_law_408 : decode cL_law 408 = .ok (.invokevirtual 54, 3) := by decide +kernel
theorem dL_law_411 : decode cL_law 411 = .ok (.iconst 1, 1) := by decide +kernel
theorem dL_law_412 : decode cL_law 412 = .ok (.isub, 1) := by decide +kernel
theorem dL_law_413 : decode cL_law 413 = .ok (.if_icmp .eq 376, 3) := by decide +kernel
theorem dL_law_416 : decode cL_law 416 = .ok (.iconst 0, 1) := by decide +kernel
theorem dL_law_417 : decode cL_law 417 = .ok (.ireturn, 1) := by decide +kernel
theorem dL_law_418 : decode cL_law 418 = .ok (.aload_n 1, 1) := by decide +kernel
theorem dL_law_419 : decode cL_law 419 = .ok (.iload 5, 2) := by decide +kernel
theorem dL_law_421 : decode cL_law 421 = .ok (.iconst 3, 1) := by decide +kernel
theorem dL_law_422 : decode cL_law 422 = .ok (.invokevirtual 54, 3) := by decide +kernel
theorem dL_law_425 : decode cL_law 425 = .ok (.iconst 1, 1) := by decide +kernel
theorem dL_law_426 : decode cL_law 426 = .ok (.if_icmp .le 363, 3) := by decide +kernel
theorem dL_law_429 : decode cL_law 429 = .ok (.aload_n 1, 1) := by decide +kernel
theorem dL_law_430 : decode cL_law 430 = .ok (.iload 5, 2) := by decide +kernel
theorem dL_law_432 : decode cL_law 432 = .ok (.iconst 1, 1) := by decide +kernel
theorem dL_law_433 : decode cL_law 433 = .ok (.invokevirtual 54, 3) := by decide +kernel
theorem dL_law_436 : decode cL_law 436 = .ok (.bipush 6, 2) := by decide +kernel
theorem dL_law_438 : decode cL_law 438 = .ok (.if_icmp .ge 351, 3) := by decide +kernel
theorem dL_law_441 : decode cL_law 441 = .ok (.aload_n 1, 1) := by decide +kernel
theorem dL_law_442 : decode cL_law 442 = .ok (.iload 5, 2) := by decide +kernel
theorem dL_law_444 : decode cL_law 444 = .ok (.invokevirtual 60, 3) := by decide +kernel
theorem dL_law_447 : decode cL_law 447 = .ok (.aload_n 1, 1) := by decide +kernel
theorem dL_law_448 : decode cL_law 448 = .ok (.iload 5, 2) := by decide +kernel
theorem dL_law_450 : decode cL_law 450 = .ok (.iconst 1, 1) := by decide +kernel
theorem dL_law_451 : decode cL_law 451 = .ok (.invokevirtual 54, 3) := by decide +kernel
theorem dL_law_454 : decode cL_law 454 = .ok (.iconst 1, 1) := by decide +kernel
theorem dL_law_455 : decode cL_law 455 = .ok (.isub, 1) := by decide +kernel
theorem dL_law_456 : decode cL_law 456 = .ok (.if_icmp .eq 333, 3) := by decide +kernel
theorem dL_law_459 : decode cL_law 459 = .ok (.iconst 0, 1) := by decide +kernel
theorem dL_law_460 : decode cL_law 460 = .ok (.ireturn, 1) := by decide +kernel
theorem dL_law_461 : decode cL_law 461 = .ok (.iload 4, 2) := by decide +kernel
theorem dL_law_463 : decode cL_law 463 = .ok (.iconst 5, 1) := by decide +kernel
theorem dL_law_464 : decode cL_law 464 = .ok (.ishr, 1) := by decide +kernel
theorem dL_law_465 : decode cL_law 465 = .ok (.iload_n 2, 1) := by decide +kernel
theorem dL_law_466 : decode cL_law 466 = .ok (.invokestatic 9, 3) := by decide +kernel
theorem dL_law_469 : decode cL_law 469 = .ok (.istore 11, 2) := by decide +kernel
theorem dL_law_471 : decode cL_law 471 = .ok (.iload 11, 2) := by decide +kernel
theorem dL_law_473 : decode cL_law 473 = .ok (.iload 5, 2) := by decide +kernel
theorem dL_law_475 : decode cL_law 475 = .ok (.if_icmp .eq 314, 3) := by decide +kernel
theorem dL_law_478 : decode cL_law 478 = .ok (.aload_n 1, 1) := by decide +kernel
theorem dL_law_479 : decode cL_law 479 = .ok (.iload 5, 2) := by decide +kernel
theorem dL_law_481 : decode cL_law 481 = .ok (.iconst 3, 1) := by decide +kernel
theorem dL_law_482 : decode cL_law 482 = .ok (.invokevirtual 54, 3) := by decide +kernel
theorem dL_law_485 : decode cL_law 485 = .ok (.ifCond .ne 304, 3) := by decide +kernel
theorem dL_law_488 : decode cL_law 488 = .ok (.aload_n 1, 1) := by decide +kernel
theorem dL_law_489 : decode cL_law 489 = .ok (.iconst 1, 1) := by decide +kernel
theorem dL_law_490 : decode cL_law 490 = .ok (.invokevirtual 51, 3) := by decide +kernel
theorem dL_law_493 : decode cL_law 493 = .ok (.bipush 20, 2) := by decide +kernel
theorem dL_law_495 : decode cL_law 495 = .ok (.if_icmp .ge 294, 3) := by decide +kernel
theorem dL_law_498 : decode cL_law 498 = .ok (.aload_n 1, 1) := by decide +kernel
theorem dL_law_499 : decode cL_law 499 = .ok (.iload 5, 2) := by decide +kernel
theorem dL_law_501 : decode cL_law 501 = .ok (.iload 11, 2) := by decide +kernel
theorem dL_law_503 : decode cL_law 503 = .ok (.iload 4, 2) := by decide +kernel
theorem dL_law_505 : decode cL_law 505 = .ok (.bipush 6, 2) := by decide +kernel
theorem dL_law_507 : decode cL_law 507 = .ok (.ishr, 1) := by decide +kernel
theorem dL_law_508 : decode cL_law 508 = .ok (.bipush 8, 2) := by decide +kernel
theorem dL_law_510 : decode cL_law 510 = .ok (.invokestatic 9, 3) := by decide +kernel
theorem dL_law_513 : decode cL_law 513 = .ok (.invokevirtual 63, 3) := by decide +kernel
theorem dL_law_516 : decode cL_law 516 = .ok (.aload_n 1, 1) := by decide +kernel
theorem dL_law_517 : decode cL_law 517 = .ok (.iconst 1, 1) := by decide +kernel
theorem dL_law_518 : decode cL_law 518 = .ok (.invokevirtual 51, 3) := by decide +kernel
theorem dL_law_521 : decode cL_law 521 = .ok (.iconst 1, 1) := by decide +kernel
theorem dL_law_522 : decode cL_law 522 = .ok (.isub, 1) := by decide +kernel
theorem dL_law_523 : decode cL_law 523 = .ok (.if_icmp .eq 266, 3) := by decide +kernel
theorem dL_law_526 : decode cL_law 526 = .ok (.iconst 0, 1) := by decide +kernel
theorem dL_law_527 : decode cL_law 527 = .ok (.ireturn, 1) := by decide +kernel
theorem dL_law_528 : decode cL_law 528 = .ok (.aload_n 1, 1) := by decide +kernel
theorem dL_law_529 : decode cL_law 529 = .ok (.iconst 3, 1) := by decide +kernel
theorem dL_law_530 : decode cL_law 530 = .ok (.invokevirtual 51, 3) := by decide +kernel
theorem dL_law_533 : decode cL_law 533 = .ok (.bipush 20, 2) := by decide +kernel
theorem dL_law_535 : decode cL_law 535 = .ok (.if_icmp .ge 254, 3) := by decide +kernel
theorem dL_law_538 : decode cL_law 538 = .ok (.aload_n 1, 1) := by decide +kernel
theorem dL_law_539 : decode cL_law 539 = .ok (.iconst 1, 1) := by decide +kernel
theorem dL_law_540 : decode cL_law 540 = .ok (.iload 4, 2) := by decide +kernel
theorem dL_law_542 : decode cL_law 542 = .ok (.iconst 5, 1) := by decide +kernel
theorem dL_law_543 : decode cL_law 543 = .ok (.ishr, 1) := by decide +kernel
theorem dL_law_544 : decode cL_law 544 = .ok (.iconst 4, 1) := by decide +kernel
theorem dL_law_545 : decode cL_law 545 = .ok (.invokestatic 9, 3) := by decide +kernel
theorem dL_law_548 : decode cL_law 548 = .ok (.ishl, 1) := by decide +kernel
theorem dL_law_549 : decode cL_law 549 = .ok (.iconst 1, 1) := by decide +kernel
theorem dL_law_550 : decode cL_law 550 = .ok (.iload 5, 2) := by decide +kernel
theorem dL_law_552 : decode cL_law 552 = .ok (.ishl, 1) := by decide +kernel
theorem dL_law_553 : decode cL_law 553 = .ok (.invokevirtual 45, 3) := by decide +kernel
theorem dL_law_556 : decode cL_law 556 = .ok (.aload_n 1, 1) := by decide +kernel
theorem dL_law_557 : decode cL_law 557 = .ok (.iconst 3, 1) := by decide +kernel
theorem dL_law_558 : decode cL_law 558 = .ok (.invokevirtual 51, 3) := by decide +kernel
theorem dL_law_561 : decode cL_law 561 = .ok (.iconst 1, 1) := by decide +kernel
theorem dL_law_562 : decode cL_law 562 = .ok (.isub, 1) := by decide +kernel
theorem dL_law_563 : decode cL_law 563 = .ok (.if_icmp .eq 226, 3) := by decide +kernel
theorem dL_law_566 : decode cL_law 566 = .ok (.iconst 0, 1) := by decide +kernel
theorem dL_law_567 : decode cL_law 567 = .ok (.ireturn, 1) := by decide +kernel
theorem dL_law_568 : decode cL_law 568 = .ok (.aload_n 1, 1) := by decide +kernel
theorem dL_law_569 : decode cL_law 569 = .ok (.iconst 4, 1) := by decide +kernel
theorem dL_law_570 : decode cL_law 570 = .ok (.invokevirtual 51, 3) := by decide +kernel
theorem dL_law_573 : decode cL_law 573 = .ok (.bipush 20, 2) := by decide +kernel
theorem dL_law_575 : decode cL_law 575 = .ok (.if_icmp .ge 214, 3) := by decide +kernel
theorem dL_law_578 : decode cL_law 578 = .ok (.aload_n 1, 1) := by decide +kernel
theorem dL_law_579 : decode cL_law 579 = .ok (.iload 5, 2) := by decide +kernel
theorem dL_law_581 : decode cL_law 581 = .ok (.aload 8, 2) := by decide +kernel
theorem dL_law_583 : decode cL_law 583 = .ok (.iconst 0, 1) := by decide +kernel
theorem dL_law_584 : decode cL_law 584 = .ok (.iaload, 1) := by decide +kernel
theorem dL_law_585 : decode cL_law 585 = .ok (.aload 8, 2) := by decide +kernel
theorem dL_law_587 : decode cL_law 587 = .ok (.iconst 1, 1) := by decide +kernel
theorem dL_law_588 : decode cL_law 588 = .ok (.iaload, 1) := by decide +kernel
theorem dL_law_589 : decode cL_law 589 = .ok (.aload 8, 2) := by decide +kernel
theorem dL_law_591 : decode cL_law 591 = .ok (.iconst 2, 1) := by decide +kernel
theorem dL_law_592 : decode cL_law 592 = .ok (.iaload, 1) := by decide +kernel
theorem dL_law_593 : decode cL_law 593 = .ok (.aload 8, 2) := by decide +kernel
theorem dL_law_595 : decode cL_law 595 = .ok (.iconst 3, 1) := by decide +kernel
theorem dL_law_596 : decode cL_law 596 = .ok (.iaload, 1) := by decide +kernel
theorem dL_law_597 : decode cL_law 597 = .ok (.invokevirtual 67, 3) := by decide +kernel
theorem dL_law_600 : decode cL_law 600 = .ok (.aload_n 1, 1) := by decide +kernel
theorem dL_law_601 : decode cL_law 601 = .ok (.iconst 4, 1) := by decide +kernel
theorem dL_law_602 : decode cL_law 602 = .ok (.invokevirtual 51, 3) := by decide +kernel
theorem dL_law_605 : decode cL_law 605 = .ok (.iconst 1, 1) := by decide +kernel
theorem dL_law_606 : decode cL_law 606 = .ok (.isub, 1) := by decide +kernel
theorem dL_law_607 : decode cL_law 607 = .ok (.if_icmp .ne 21, 3) := by decide +kernel
theorem dL_law_610 : decode cL_law 610 = .ok (.aload_n 1, 1) := by decide +kernel
theorem dL_law_611 : decode cL_law 611 = .ok (.iload 5, 2) := by decide +kernel
theorem dL_law_613 : decode cL_law 613 = .ok (.aload 8, 2) := by decide +kernel
theorem dL_law_615 : decode cL_law 615 = .ok (.iconst 0, 1) := by decide +kernel
theorem dL_law_616 : decode cL_law 616 = .ok (.iaload, 1) := by decide +kernel
theorem dL_law_617 : decode cL_law 617 = .ok (.aload 8, 2) := by decide +kernel
theorem dL_law_619 : decode cL_law 619 = .ok (.iconst 3, 1) := by decide +kernel
theorem dL_law_620 : decode cL_law 620 = .ok (.iaload, 1) := by decide +kernel
theorem dL_law_621 : decode cL_law 621 = .ok (.invokevirtual 71, 3) := by decide +kernel
theorem dL_law_624 : decode cL_law 624 = .ok (.iconst 1, 1) := by decide +kernel
theorem dL_law_625 : decode cL_law 625 = .ok (.if_icmp .ge 164, 3) := by decide +kernel
theorem dL_law_628 : decode cL_law 628 = .ok (.iconst 0, 1) := by decide +kernel
theorem dL_law_629 : decode cL_law 629 = .ok (.ireturn, 1) := by decide +kernel
theorem dL_law_630 : decode cL_law 630 = .ok (.iload 6, 2) := by decide +kernel
theorem dL_law_632 : decode cL_law 632 = .ok (.bipush 8, 2) := by decide +kernel
theorem dL_law_634 : decode cL_law 634 = .ok (.if_icmp .ge 155, 3) := by decide +kernel
theorem dL_law_637 : decode cL_law 637 = .ok (.aload_n 1, 1) := by decide +kernel
theorem dL_law_638 : decode cL_law 638 = .ok (.iload 4, 2) := by decide +kernel
theorem dL_law_640 : decode cL_law 640 = .ok (.iconst 5, 1) := by decide +kernel
theorem dL_law_641 : decode cL_law 641 = .ok (.ishr, 1) := by decide +kernel
theorem dL_law_642 : decode cL_law 642 = .ok (.iconst 4, 1) := by decide +kernel
theorem dL_law_643 : decode cL_law 643 = .ok (.invokestatic 9, 3) := by decide +kernel
theorem dL_law_646 : decode cL_law 646 = .ok (.iconst 1, 1) := by decide +kernel
theorem dL_law_647 : decode cL_law 647 = .ok (.iload 5, 2) := by decide +kernel
theorem dL_law_649 : decode cL_law 649 = .ok (.ishl, 1) := by decide +kernel
theorem dL_law_650 : decode cL_law 650 = .ok (.iconst 1, 1) := by decide +kernel
theorem dL_law_651 : decode cL_law 651 = .ok (.iload 4, 2) := by decide +kernel
theorem dL_law_653 : decode cL_law 653 = .ok (.iconst 2, 1) := by decide +kernel
theorem dL_law_654 : decode cL_law 654 = .ok (.ishr, 1) := by decide +kernel
theorem dL_law_655 : decode cL_law 655 = .ok (.iconst 4, 1) := by decide +kernel
theorem dL_law_656 : decode cL_law 656 = .ok (.invokestatic 9, 3) := by decide +kernel
theorem dL_law_659 : decode cL_law 659 = .ok (.iadd, 1) := by decide +kernel
theorem dL_law_660 : decode cL_law 660 = .ok (.invokevirtual 74, 3) := by decide +kernel
theorem dL_law_663 : decode cL_law 663 = .ok (.iload 6, 2) := by decide +kernel
theorem dL_law_665 : decode cL_law 665 = .ok (.if_icmp .ne 51, 3) := by decide +kernel
theorem dL_law_668 : decode cL_law 668 = .ok (.aload_n 1, 1) := by decide +kernel
theorem dL_law_669 : decode cL_law 669 = .ok (.iload 6, 2) := by decide +kernel
theorem dL_law_671 : decode cL_law 671 = .ok (.aload 8, 2) := by decide +kernel
theorem dL_law_673 : decode cL_law 673 = .ok (.iconst 0, 1) := by decide +kernel
theorem dL_law_674 : decode cL_law 674 = .ok (.iaload, 1) := by decide +kernel
theorem dL_law_675 : decode cL_law 675 = .ok (.aload 8, 2) := by decide +kernel
theorem dL_law_677 : decode cL_law 677 = .ok (.iconst 1, 1) := by decide +kernel
theorem dL_law_678 : decode cL_law 678 = .ok (.iaload, 1) := by decide +kernel
theorem dL_law_679 : decode cL_law 679 = .ok (.aload 8, 2) := by decide +kernel
theorem dL_law_681 : decode cL_law 681 = .ok (.iconst 2, 1) := by decide +kernel
theorem dL_law_682 : decode cL_law 682 = .ok (.iaload, 1) := by decide +kernel
theorem dL_law_683 : decode cL_law 683 = .ok (.aload 8, 2) := by decide +kernel
theorem dL_law_685 : decode cL_law 685 = .ok (.iconst 3, 1) := by decide +kernel
theorem dL_law_686 : decode cL_law 686 = .ok (.iaload, 1) := by decide +kernel
theorem dL_law_687 : decode cL_law 687 = .ok (.invokevirtual 77, 3) := by decide +kernel
theorem dL_law_690 : decode cL_law 690 = .ok (.aload 8, 2) := by decide +kernel
theorem dL_law_692 : decode cL_law 692 = .ok (.iconst 2, 1) := by decide +kernel
theorem dL_law_693 : decode cL_law 693 = .ok (.iaload, 1) := by decide +kernel
theorem dL_law_694 : decode cL_law 694 = .ok (.aload 8, 2) := by decide +kernel
theorem dL_law_696 : decode cL_law 696 = .ok (.iconst 0, 1) := by decide +kernel
theorem dL_law_697 : decode cL_law 697 = .ok (.iaload, 1) := by decide +kernel
theorem dL_law_698 : decode cL_law 698 = .ok (.isub, 1) := by decide +kernel
theorem dL_law_699 : decode cL_law 699 = .ok (.iconst 1, 1) := by decide +kernel
theorem dL_law_700 : decode cL_law 700 = .ok (.iadd, 1) := by decide +kernel
theorem dL_law_701 : decode cL_law 701 = .ok (.aload 8, 2) := by decide +kernel
theorem dL_law_703 : decode cL_law 703 = .ok (.iconst 3, 1) := by decide +kernel
theorem dL_law_704 : decode cL_law 704 = .ok (.iaload, 1) := by decide +kernel
theorem dL_law_705 : decode cL_law 705 = .ok (.aload 8, 2) := by decide +kernel
theorem dL_law_707 : decode cL_law 707 = .ok (.iconst 1, 1) := by decide +kernel
theorem dL_law_708 : decode cL_law 708 = .ok (.iaload, 1) := by decide +kernel
theorem dL_law_709 : decode cL_law 709 = .ok (.isub, 1) := by decide +kernel
theorem dL_law_710 : decode cL_law 710 = .ok (.iconst 1, 1) := by decide +kernel
theorem dL_law_711 : decode cL_law 711 = .ok (.iadd, 1) := by decide +kernel
theorem dL_law_712 : decode cL_law 712 = .ok (.imul, 1) := by decide +kernel
theorem dL_law_713 : decode cL_law 713 = .ok (.if_icmp .eq 76, 3) := by decide +kernel
theorem dL_law_716 : decode cL_law 716 = .ok (.iconst 0, 1) := by decide +kernel
theorem dL_law_717 : decode cL_law 717 = .ok (.ireturn, 1) := by decide +kernel
theorem dL_law_718 : decode cL_law 718 = .ok (.aload_n 1, 1) := by decide +kernel
theorem dL_law_719 : decode cL_law 719 = .ok (.bipush 11, 2) := by decide +kernel
theorem dL_law_721 : decode cL_law 721 = .ok (.invokevirtual 51, 3) := by decide +kernel
theorem dL_law_724 : decode cL_law 724 = .ok (.istore 12, 2) := by decide +kernel
theorem dL_law_726 : decode cL_law 726 = .ok (.aload_n 1, 1) := by decide +kernel
theorem dL_law_727 : decode cL_law 727 = .ok (.invokevirtual 80, 3) := by decide +kernel
theorem dL_law_730 : decode cL_law 730 = .ok (.aload_n 1, 1) := by decide +kernel
theorem dL_law_731 : decode cL_law 731 = .ok (.bipush 11, 2) := by decide +kernel
theorem dL_law_733 : decode cL_law 733 = .ok (.invokevirtual 51, 3) := by decide +kernel
theorem dL_law_736 : decode cL_law 736 = .ok (.iload 12, 2) := by decide +kernel
theorem dL_law_738 : decode cL_law 738 = .ok (.isub, 1) := by decide +kernel
theorem dL_law_739 : decode cL_law 739 = .ok (.if_icmp .eq 50, 3) := by decide +kernel
theorem dL_law_742 : decode cL_law 742 = .ok (.iconst 0, 1) := by decide +kernel
theorem dL_law_743 : decode cL_law 743 = .ok (.ireturn, 1) := by decide +kernel
theorem dL_law_744 : decode cL_law 744 = .ok (.iload 7, 2) := by decide +kernel
theorem dL_law_746 : decode cL_law 746 = .ok (.ifCond .lt 43, 3) := by decide +kernel
theorem dL_law_749 : decode cL_law 749 = .ok (.aload_n 1, 1) := by decide +kernel
theorem dL_law_750 : decode cL_law 750 = .ok (.iload 7, 2) := by decide +kernel
theorem dL_law_752 : decode cL_law 752 = .ok (.iconst 2, 1) := by decide +kernel
theorem dL_law_753 : decode cL_law 753 = .ok (.invokevirtual 84, 3) := by decide +kernel
theorem dL_law_756 : decode cL_law 756 = .ok (.iconst 2, 1) := by decide +kernel
theorem dL_law_757 : decode cL_law 757 = .ok (.irem, 1) := by decide +kernel
theorem dL_law_758 : decode cL_law 758 = .ok (.ifCond .ne 31, 3) := by decide +kernel
theorem dL_law_761 : decode cL_law 761 = .ok (.aload_n 1, 1) := by decide +kernel
theorem dL_law_762 : decode cL_law 762 = .ok (.iload 7, 2) := by decide +kernel
theorem dL_law_764 : decode cL_law 764 = .ok (.iconst 4, 1) := by decide +kernel
theorem dL_law_765 : decode cL_law 765 = .ok (.invokevirtual 84, 3) := by decide +kernel
theorem dL_law_768 : decode cL_law 768 = .ok (.ifCond .ge 21, 3) := by decide +kernel
theorem dL_law_771 : decode cL_law 771 = .ok (.aload_n 1, 1) := by decide +kernel
theorem dL_law_772 : decode cL_law 772 = .ok (.iload 7, 2) := by decide +kernel
theorem dL_law_774 : decode cL_law 774 = .ok (.invokevirtual 87, 3) := by decide +kernel
theorem dL_law_777 : decode cL_law 777 = .ok (.aload_n 1, 1) := by decide +kernel
theorem dL_law_778 : decode cL_law 778 = .ok (.iload 7, 2) := by decide +kernel
theorem dL_law_780 : decode cL_law 780 = .ok (.iconst 3, 1) := by decide +kernel
theorem dL_law_781 : decode cL_law 781 = .ok (.invokevirtual 84, 3) := by decide +kernel
theorem dL_law_784 : decode cL_law 784 = .ok (.if_icmp .eq 5, 3) := by decide +kernel
theorem dL_law_787 : decode cL_law 787 = .ok (.iconst 0, 1) := by decide +kernel
theorem dL_law_788 : decode cL_law 788 = .ok (.ireturn, 1) := by decide +kernel
theorem dL_law_789 : decode cL_law 789 = .ok (.aload_n 1, 1) := by decide +kernel
theorem dL_law_790 : decode cL_law 790 = .ok (.iload_n 2, 1) := by decide +kernel
theorem dL_law_791 : decode cL_law 791 = .ok (.invokestatic 90, 3) := by decide +kernel
theorem dL_law_794 : decode cL_law 794 = .ok (.ifCond .ne 5, 3) := by decide +kernel
theorem dL_law_797 : decode cL_law 797 = .ok (.iconst 0, 1) := by decide +kernel
theorem dL_law_798 : decode cL_law 798 = .ok (.ireturn, 1) := by decide +kernel
theorem dL_law_799 : decode cL_law 799 = .ok (.iinc 3 1, 3) := by decide +kernel
theorem dL_law_802 : decode cL_law 802 = .ok (.goto (-651), 3) := by decide +kernel
theorem dL_law_805 : decode cL_law 805 = .ok (.aload_n 1, 1) := by decide +kernel
theorem dL_law_806 : decode cL_law 806 = .ok (.invokevirtual 94, 3) := by decide +kernel
theorem dL_law_809 : decode cL_law 809 = .ok (.lstore_n 3, 1) := by decide +kernel
theorem dL_law_810 : decode cL_law 810 = .ok (.iconst 0, 1) := by decide +kernel
theorem dL_law_811 : decode cL_law 811 = .ok (.istore 5, 2) := by decide +kernel
theorem dL_law_813 : decode cL_law 813 = .ok (.iload 5, 2) := by decide +kernel
theorem dL_law_815 : decode cL_law 815 = .ok (.aload_n 1, 1) := by decide +kernel
theorem dL_law_816 : decode cL_law 816 = .ok (.iconst 4, 1) := by decide +kernel
theorem dL_law_817 : decode cL_law 817 = .ok (.invokevirtual 51, 3) := by decide +kernel
theorem dL_law_820 : decode cL_law 820 = .ok (.if_icmp .ge 45, 3) := by decide +kernel
theorem dL_law_823 : decode cL_law 823 = .ok (.aload_n 1, 1) := by decide +kernel
theorem dL_law_824 : decode cL_law 824 = .ok (.iload 5, 2) := by decide +kernel
theorem dL_law_826 : decode cL_law 826 = .ok (.invokevirtual 98, 3) := by decide +kernel
theorem dL_law_829 : decode cL_law 829 = .ok (.aload_n 1, 1) := by decide +kernel
theorem dL_law_830 : decode cL_law 830 = .ok (.bipush 10, 2) := by decide +kernel
theorem dL_law_832 : decode cL_law 832 = .ok (.invokevirtual 51, 3) := by decide +kernel
theorem dL_law_835 : decode cL_law 835 = .ok (.if_icmp .gt 22, 3) := by decide +kernel
theorem dL_law_838 : decode cL_law 838 = .ok (.aload_n 1, 1) := by decide +kernel
theorem dL_law_839 : decode cL_law 839 = .ok (.iload 5, 2) := by decide +kernel
theorem dL_law_841 : decode cL_law 841 = .ok (.invokevirtual 101, 3) := by decide +kernel
theorem dL_law_844 : decode cL_law 844 = .ok (.iconst 2, 1) := by decide +kernel
theorem dL_law_845 : decode cL_law 845 = .ok (.if_icmp .ne 14, 3) := by decide +kernel
theorem dL_law_848 : decode cL_law 848 = .ok (.aload_n 1, 1) := by decide +kernel
theorem dL_law_849 : decode cL_law 849 = .ok (.iload 5, 2) := by decide +kernel
theorem dL_law_851 : decode cL_law 851 = .ok (.invokevirtual 98, 3) := by decide +kernel
theorem dL_law_854 : decode cL_law 854 = .ok (.ifCond .le 5, 3) := by decide +kernel
theorem dL_law_857 : decode cL_law 857 = .ok (.iconst 0, 1) := by decide +kernel
theorem dL_law_858 : decode cL_law 858 = .ok (.ireturn, 1) := by decide +kernel
theorem dL_law_859 : decode cL_law 859 = .ok (.iinc 5 1, 3) := by decide +kernel
theorem dL_law_862 : decode cL_law 862 = .ok (.goto (-49), 3) := by decide +kernel
theorem dL_law_865 : decode cL_law 865 = .ok (.aload_n 1, 1) := by decide +kernel
theorem dL_law_866 : decode cL_law 866 = .ok (.invokevirtual 94, 3) := by decide +kernel
theorem dL_law_869 : decode cL_law 869 = .ok (.lload_n 3, 1) := by decide +kernel
theorem dL_law_870 : decode cL_law 870 = .ok (.lcmp, 1) := by decide +kernel
theorem dL_law_871 : decode cL_law 871 = .ok (.ifCond .ne 7, 3) := by decide +kernel
theorem dL_law_874 : decode cL_law 874 = .ok (.iconst 1, 1) := by decide +kernel
theorem dL_law_875 : decode cL_law 875 = .ok (.goto 4, 3) := by decide +kernel
theorem dL_law_878 : decode cL_law 878 = .ok (.iconst 0, 1) := by decide +kernel
theorem dL_law_879 : decode cL_law 879 = .ok (.ireturn, 1) := by decide +kernel
set_option maxRecDepth 20000 in
theorem ggL_isFair_X5_ofSheet : GoodIn wsL_isFair wsX5_ofSheet := goodIn_ca (goodIn_ca (goodIn_r _ [5, 6, 7, 8, 9, 10, 11, 4, 12, 13, 14, 15, 16, 17, 18, 19, 20, 21, 22, 23, 24, 25, 26, 27, 28, 29, 30, 31, 32, 33, 34, 35, 36, 37, 38, 39, 40, 41, 42, 43, 44, 45, 46, 47, 48, 49, 50, 51, 52, 53, 54, 55, 56, 57, 58, 59, 60, 61, 62, 63, 64, 65, 66, 137, 138, 139, 140, 141, 142, 143, 144, 145, 146, 147, 148, 149, 150, 151, 152, 153, 154, 155, 156, 157, 158, 159, 160, 161, 162] (by decide +kernel) (by decide +kernel)) (goodIn_sub (fun _ h => List.mem_cons_of_mem _ (List.mem_append_left _ (List.mem_append_right _ h))) (by decide +kernel))) (goodIn_sub (fun _ h => List.mem_cons_of_mem _ (List.mem_append_right _ h)) (by decide +kernel))
set_option maxRecDepth 20000 in
theorem gL_isFair_X5_ofSheet : GoodIn wsL_isFair (wsV RL 54 RX5 yX5_ofSheet wsX5_ofSheet) := goodIn_app (goodIn_of _ (by decide +kernel)) ggL_isFair_X5_ofSheet
set_option maxRecDepth 20000 in
theorem ggL_isFair_X5_status : GoodIn wsL_isFair wsX5_status := goodIn_ca (goodIn_r _ [70, 13, 14, 8, 9, 10, 11, 4, 12, 15, 22, 17, 23, 24, 25, 26, 137, 138, 139, 140, 141, 142, 143, 144, 145, 146, 147, 148, 149, 150, 151, 152, 153, 154, 155, 156, 157, 158, 159] (by decide +kernel) (by decide +kernel)) (goodIn_sub (fun _ h => List.mem_cons_of_mem _ (List.mem_append_right _ h)) (by decide +kernel))
set_option maxRecDepth 20000 in
theorem gL_isFair_X5_status : GoodIn wsL_isFair (wsV RL 104 RX5 yX5_status wsX5_status) := goodIn_app (goodIn_of _ (by decide +kernel)) ggL_isFair_X5_status
set_option maxRecDepth 20000 in
theorem ggL_isFair_X5_clash : GoodIn wsL_isFair wsX5_clash := goodIn_ca (goodIn_ca (goodIn_r _ [74, 75, 76, 77, 4, 78, 6, 7, 9, 10, 11, 12, 13, 14, 15, 60, 61, 62, 63, 8, 49, 50, 51, 27, 28, 29, 30, 31, 32, 33, 34, 35, 36, 37, 38, 137, 138, 139, 140, 141, 142, 143, 144, 145, 146, 147, 148, 149, 150, 151, 152, 153, 154, 155, 156, 157, 158, 159] (by decide +kernel) (by decide +kernel)) (goodIn_sub (fun _ h => List.mem_cons_of_mem _ (List.mem_append_left _ (List.mem_append_right _ h))) (by decide +kernel))) (goodIn_sub (fun _ h => List.mem_cons_of_mem _ (List.mem_append_right _ h)) (by decide +kernel))
set_option maxRecDepth 20000 in
theorem gL_isFair_X5_clash : GoodIn wsL_isFair (wsV RL 107 RX5 yX5_clash wsX5_clash) := goodIn_app (goodIn_of _ (by decide +kernel)) ggL_isFair_X5_clash
set_option maxRecDepth 20000 in
theorem ggL_isFair_X5_many : GoodIn wsL_isFair wsX5_many := goodIn_ca (goodIn_r _ [82, 6, 7, 15, 43, 83, 84, 85, 86, 87, 88, 89, 4, 90, 44, 45, 46, 47, 48, 8, 49, 50, 51, 91, 92, 93, 94, 95, 96, 97, 98, 99, 60, 61, 62, 63, 64, 65, 66, 30, 31, 100, 101, 102, 103, 104, 137, 138, 139, 140, 141, 142, 143, 144, 145, 146, 147, 148, 149, 160, 161, 162, 150, 151, 152, 153, 154, 155, 156, 157, 158, 159, 163, 164, 165, 166, 167, 168, 169, 170, 171] (by decide +kernel) (by decide +kernel)) (goodIn_sub (fun _ h => List.mem_cons_of_mem _ (List.mem_append_left _ (List.mem_append_right _ h))) (by decide +kernel))
set_option maxRecDepth 20000 in
theorem gL_isFair_X5_many : GoodIn wsL_isFair (wsV RL 51 RX5 yX5_many wsX5_many) := goodIn_app (goodIn_of _ (by decide +kernel)) ggL_isFair_X5_many
set_option maxRecDepth 20000 in
theorem ggL_isFair_X5_ofPack : GoodIn wsL_isFair wsX5_ofPack := goodIn_ca (goodIn_ca (goodIn_r _ [108, 6, 7, 104, 109, 110, 111, 112, 4, 113, 13, 14, 85, 114, 115, 116, 117, 15, 49, 50, 51, 118, 119, 120, 121, 8, 39, 40, 41, 42, 43, 44, 45, 46, 47, 48, 122, 123, 124, 125, 84, 95, 64, 65, 66, 30, 31, 60, 61, 62, 63, 126, 127, 128, 129, 137, 138, 139, 140, 141, 142, 143, 144, 145, 146, 147, 148, 149, 166, 167, 168, 169, 170, 171, 150, 151, 152, 153, 154, 155, 156, 157, 158, 159, 160, 161, 162, 163, 164, 165] (by decide +kernel) (by decide +kernel)) (goodIn_sub (fun _ h => List.mem_cons_of_mem _ (List.mem_append_left _ (List.mem_append_right _ h))) (by decide +kernel))) (goodIn_sub (fun _ h => List.mem_cons_of_mem _ (List.mem_append_right _ h)) (by decide +kernel))
set_option maxRecDepth 20000 in
theorem gL_isFair_X5_ofPack : GoodIn wsL_isFair (wsV RL 84 RX5 yX5_ofPack wsX5_ofPack) := goodIn_app (goodIn_of _ (by decide +kernel)) ggL_isFair_X5_ofPack
set_option maxRecDepth 20000 in
theorem ggL_isFair_X5_has : GoodIn wsL_isFair wsX5_has := goodIn_ca (goodIn_r _ [133, 109, 134, 135, 4, 136, 13, 14, 9, 10, 11, 12, 15, 137, 138, 139, 140, 141, 142, 143, 144, 145, 146, 147, 148, 149] (by decide +kernel) (by decide +kernel)) (goodIn_sub (fun _ h => List.mem_cons_of_mem _ (List.mem_append_right _ h)) (by decide +kernel))
set_option maxRecDepth 20000 in
theorem gL_isFair_X5_has : GoodIn wsL_isFair (wsV RL 110 RX5 yX5_has wsX5_has) := goodIn_app (goodIn_of _ (by decide +kernel)) ggL_isFair_X5_has
theorem dL_isFair_0 : decode cL_isFair 0 = .ok (.iconst 0, 1) := by decide +kernel
theorem dL_isFair_1 : decode cL_isFair 1 = .ok (.istore_n 2, 1) := by decide +kernel
theorem dL_isFair_2 : decode cL_isFair 2 = .ok (.iconst 0, 1) := by decide +kernel
theorem dL_isFair_3 : decode cL_isFair 3 = .ok (.istore_n 3, 1) := by decide +kernel
theorem dL_isFair_4 : decode cL_isFair 4 = .ok (.iload_n 3, 1) := by decide +kernel
theorem dL_isFair_5 : decode cL_isFair 5 = .ok (.iload_n 1, 1) := by decide +kernel
theorem dL_isFair_6 : decode cL_isFair 6 = .ok (.if_icmp .ge 191, 3) := by decide +kernel
theorem dL_isFair_9 : decode cL_isFair 9 = .ok (.aload_n 0, 1) := by decide +kernel
theorem dL_isFair_10 : decode cL_isFair 10 = .ok (.iload_n 3, 1) := by decide +kernel
theorem dL_isFair_11 : decode cL_isFair 11 = .ok (.iconst 1, 1) := by decide +kernel
theorem dL_isFair_12 : decode cL_isFair 12 = .ok (.invokevirtual 54, 3) := by decide +kernel
theorem dL_isFair_15 : decode cL_isFair 15 = .ok (.iconst 1, 1) := by decide +kernel
theorem dL_isFair_16 : decode cL_isFair 16 = .ok (.isub, 1) := by decide +kernel
theorem dL_isFair_17 : decode cL_isFair 17 = .ok (.istore 4, 2) := by decide +kernel
theorem dL_isFair_19 : decode cL_isFair 19 = .ok (.iconst 0, 1) := by decide +kernel
theorem dL_isFair_20 : decode cL_isFair 20 = .ok (.istore 5, 2) := by decide +kernel
theorem dL_isFair_22 : decode cL_isFair 22 = .ok (.iconst 0, 1) := by decide +kernel
theorem dL_isFair_23 : decode cL_isFair 23 = .ok (.istore 6, 2) := by decide +kernel
theorem dL_isFair_25 : decode cL_isFair 25 = .ok (.iload 6, 2) := by decide +kernel
theorem dL_isFair_27 : decode cL_isFair 27 = .ok (.iload 4, 2) := by decide +kernel
theorem dL_isFair_29 : decode cL_isFair 29 = .ok (.if_icmp .gt 66, 3) := by decide +kernel
theorem dL_isFair_32 : decode cL_isFair 32 = .ok (.aload_n 0, 1) := by decide +kernel
theorem dL_isFair_33 : decode cL_isFair 33 = .ok (.iload_n 3, 1) := by decide +kernel
theorem dL_isFair_34 : decode cL_isFair 34 = .ok (.iload 6, 2) := by decide +kernel
theorem dL_isFair_36 : decode cL_isFair 36 = .ok (.invokevirtual 104, 3) := by decide +kernel
theorem dL_isFair_39 : decode cL_isFair 39 = .ok (.istore 7, 2) := by decide +kernel
theorem dL_isFair_41 : decode cL_isFair 41 = .ok (.iload 5, 2) := by decide +kernel
theorem dL_isFair_43 : decode cL_isFair 43 = .ok (.iload 7, 2) := by decide +kernel
theorem dL_isFair_45 : decode cL_isFair 45 = .ok (.iconst 2, 1) := by decide +kernel
theorem dL_isFair_46 : decode cL_isFair 46 = .ok (.if_icmp .ne 7, 3) := by decide +kernel
theorem dL_isFair_49 : decode cL_isFair 49 = .ok (.iconst 1, 1) := by decide +kernel
theorem dL_isFair_50 : decode cL_isFair 50 = .ok (.goto 4, 3) := by decide +kernel
theorem dL_isFair_53 : decode cL_isFair 53 = .ok (.iconst 0, 1) := by decide +kernel
theorem dL_isFair_54 : decode cL_isFair 54 = .ok (.iadd, 1) := by decide +kernel
theorem dL_isFair_55 : decode cL_isFair 55 = .ok (.istore 5, 2) := by decide +kernel
theorem dL_isFair_57 : decode cL_isFair 57 = .ok (.iload 7, 2) := by decide +kernel
theorem dL_isFair_59 : decode cL_isFair 59 = .ok (.iconst 2, 1) := by decide +kernel
theorem dL_isFair_60 : decode cL_isFair 60 = .ok (.if_icmp .ge 10, 3) := by decide +kernel
theorem dL_isFair_63 : decode cL_isFair 63 = .ok (.iload 6, 2) := by decide +kernel
theorem dL_isFair_65 : decode cL_isFair 65 = .ok (.iload 4, 2) := by decide +kernel
theorem dL_isFair_67 : decode cL_isFair 67 = .ok (.if_icmp .lt 20, 3) := by decide +kernel
theorem dL_isFair_70 : decode cL_isFair 70 = .ok (.iload 7, 2) := by decide +kernel
theorem dL_isFair_72 : decode cL_isFair 72 = .ok (.iconst 2, 1) := by decide +kernel
theorem dL_isFair_73 : decode cL_isFair 73 = .ok (.if_icmp .ne 16, 3) := by decide +kernel
theorem dL_isFair_76 : decode cL_isFair 76 = .ok (.aload_n 0, 1) := by decide +kernel
theorem dL_isFair_77 : decode cL_isFair 77 = .ok (.iload_n 3, 1) := by decide +kernel
theorem dL_isFair_78 : decode cL_isFair 78 = .ok (.iconst 2, 1) := by decide +kernel
theorem dL_isFair_79 : decode cL_isFair 79 = .ok (.invokevirtual 54, 3) := by decide +kernel
theorem dL_isFair_82 : decode cL_isFair 82 = .ok (.iload 6, 2) := by decide +kernel
theorem dL_isFair_84 : decode cL_isFair 84 = .ok (.if_icmp .eq 5, 3) := by decide +kernel
theorem dL_isFair_87 : decode cL_isFair 87 = .ok (.iconst 0, 1) := by decide +kernel
theorem dL_isFair_88 : decode cL_isFair 88 = .ok (.ireturn, 1) := by decide +kernel
theorem dL_isFair_89 : decode cL_isFair 89 = .ok (.iinc 6 1, 3) := by decide +kernel
theorem dL_isFair_92 : decode cL_isFair 92 = .ok (.goto (-67), 3) := by decide +kernel
theorem dL_isFair_95 : decode cL_isFair 95 = .ok (.iload 5, 2) := by decide +kernel
theorem dL_isFair_97 : decode cL_isFair 97 = .ok (.iconst 1, 1) := by decide +kernel
theorem dL_isFair_98 : decode cL_isFair 98 = .ok (.if_icmp .ne 19, 3) := by decide +kernel
theorem dL_isFair_101 : decode cL_isFair 101 = .ok (.aload_n 0, 1) := by decide +kernel
theorem dL_isFair_102 : decode cL_isFair 102 = .ok (.iload_n 3, 1) := by decide +kernel
theorem dL_isFair_103 : decode cL_isFair 103 = .ok (.iconst 3, 1) := by decide +kernel
theorem dL_isFair_104 : decode cL_isFair 104 = .ok (.invokevirtual 54, 3) := by decide +kernel
theorem dL_isFair_107 : decode cL_isFair 107 = .ok (.aload_n 0, 1) := by decide +kernel
theorem dL_isFair_108 : decode cL_isFair 108 = .ok (.iload_n 3, 1) := by decide +kernel
theorem dL_isFair_109 : decode cL_isFair 109 = .ok (.iload 4, 2) := by decide +kernel
theorem dL_isFair_111 : decode cL_isFair 111 = .ok (.invokevirtual 104, 3) := by decide +kernel
theorem dL_isFair_114 : decode cL_isFair 114 = .ok (.if_icmp .eq 5, 3) := by decide +kernel
theorem dL_isFair_117 : decode cL_isFair 117 = .ok (.iconst 0, 1) := by decide +kernel
theorem dL_isFair_118 : decode cL_isFair 118 = .ok (.ireturn, 1) := by decide +kernel
theorem dL_isFair_119 : decode cL_isFair 119 = .ok (.iconst 0, 1) := by decide +kernel
theorem dL_isFair_120 : decode cL_isFair 120 = .ok (.istore 6, 2) := by decide +kernel
theorem dL_isFair_122 : decode cL_isFair 122 = .ok (.iload 6, 2) := by decide +kernel
theorem dL_isFair_124 : decode cL_isFair 124 = .ok (.iload_n 3, 1) := by decide +kernel
theorem dL_isFair_125 : decode cL_isFair 125 = .ok (.if_icmp .ge 66, 3) := by decide +kernel
theorem dL_isFair_128 : decode cL_isFair 128 = .ok (.aload_n 0, 1) := by decide +kernel
theorem dL_isFair_129 : decode cL_isFair 129 = .ok (.iload_n 3, 1) := by decide +kernel
theorem dL_isFair_130 : decode cL_isFair 130 = .ok (.iload 6, 2) := by decide +kernel
theorem dL_isFair_132 : decode cL_isFair 132 = .ok (.invokevirtual 107, 3) := by decide +kernel
theorem dL_isFair_135 : decode cL_isFair 135 = .ok (.istore 7, 2) := by decide +kernel
theorem dL_isFair_137 : decode cL_isFair 137 = .ok (.iload 7, 2) := by decide +kernel
theorem dL_isFair_139 : decode cL_isFair 139 = .ok (.aload_n 0, 1) := by decide +kernel
theorem dL_isFair_140 : decode cL_isFair 140 = .ok (.iload 6, 2) := by decide +kernel
theorem dL_isFair_142 : decode cL_isFair 142 = .ok (.iload_n 3, 1) := by decide +kernel
theorem dL_isFair_143 : decode cL_isFair 143 = .ok (.invokevirtual 107, 3) := by decide +kernel
theorem dL_isFair_146 : decode cL_isFair 146 = .ok (.if_icmp .ne 24, 3) := by decide +kernel
theorem dL_isFair_149 : decode cL_isFair 149 = .ok (.iload 7, 2) := by decide +kernel
theorem dL_isFair_151 : decode cL_isFair 151 = .ok (.ifCond .le 21, 3) := by decide +kernel
theorem dL_isFair_154 : decode cL_isFair 154 = .ok (.aload_n 0, 1) := by decide +kernel
theorem dL_isFair_155 : decode cL_isFair 155 = .ok (.iload_n 3, 1) := by decide +kernel
theorem dL_isFair_156 : decode cL_isFair 156 = .ok (.iconst 0, 1) := by decide +kernel
theorem dL_isFair_157 : decode cL_isFair 157 = .ok (.invokevirtual 54, 3) := by decide +kernel
theorem dL_isFair_160 : decode cL_isFair 160 = .ok (.aload_n 0, 1) := by decide +kernel
theorem dL_isFair_161 : decode cL_isFair 161 = .ok (.iload 6, 2) := by decide +kernel
theorem dL_isFair_163 : decode cL_isFair 163 = .ok (.iconst 0, 1) := by decide +kernel
theorem dL_isFair_164 : decode cL_isFair 164 = .ok (.invokevirtual 54, 3) := by decide +kernel
theorem dL_isFair_167 : decode cL_isFair 167 = .ok (.if_icmp .ne 5, 3) := by decide +kernel
theorem dL_isFair_170 : decode cL_isFair 170 = .ok (.iconst 0, 1) := by decide +kernel
theorem dL_isFair_171 : decode cL_isFair 171 = .ok (.ireturn, 1) := by decide +kernel
theorem dL_isFair_172 : decode cL_isFair 172 = .ok (.iload_n 2, 1) := by decide +kernel
theorem dL_isFair_173 : decode cL_isFair 173 = .ok (.iload 7, 2) := by decide +kernel
theorem dL_isFair_175 : decode cL_isFair 175 = .ok (.ifCond .le 7, 3) := by decide +kernel
theorem dL_isFair_178 : decode cL_isFair 178 = .ok (.iconst 1, 1) := by decide +kernel
theorem dL_isFair_179 : decode cL_isFair 179 = .ok (.goto 4, 3) := by decide +kernel
theorem dL_isFair_182 : decode cL_isFair 182 = .ok (.iconst 0, 1) := by decide +kernel
theorem dL_isFair_183 : decode cL_isFair 183 = .ok (.iadd, 1) := by decide +kernel
theorem dL_isFair_184 : decode cL_isFair 184 = .ok (.istore_n 2, 1) := by decide +kernel
theorem dL_isFair_185 : decode cL_isFair 185 = .ok (.iinc 6 1, 3) := by decide +kernel
theorem dL_isFair_188 : decode cL_isFair 188 = .ok (.goto (-66), 3) := by decide +kernel
theorem dL_isFair_191 : decode cL_isFair 191 = .ok (.iinc 3 1, 3) := by decide +kernel
theorem dL_isFair_194 : decode cL_isFair 194 = .ok (.goto (-190), 3) := by decide +kernel
theorem dL_isFair_197 : decode cL_isFair 197 = .ok (.aload_n 0, 1) := by decide +kernel
theorem dL_isFair_198 : decode cL_isFair 198 = .ok (.bipush 7, 2) := by decide +kernel
theorem dL_isFair_200 : decode cL_isFair 200 = .ok (.invokevirtual 51, 3) := by decide +kernel
theorem dL_isFair_203 : decode cL_isFair 203 = .ok (.istore_n 3, 1) := by decide +kernel
theorem dL_isFair_204 : decode cL_isFair 204 = .ok (.iconst 0, 1) := by decide +kernel
theorem dL_isFair_205 : decode cL_isFair 205 = .ok (.istore 4, 2) := by decide +kernel
theorem dL_isFair_207 : decode cL_isFair 207 = .ok (.iload 4, 2) := by decide +kernel
theorem dL_isFair_209 : decode cL_isFair 209 = .ok (.iload_n 3, 1) := by decide +kernel
theorem dL_isFair_210 : decode cL_isFair 210 = .ok (.if_icmp .ge 192, 3) := by decide +kernel
theorem dL_isFair_213 : decode cL_isFair 213 = .ok (.aload_n 0, 1) := by decide +kernel
theorem dL_isFair_214 : decode cL_isFair 214 = .ok (.iload 4, 2) := by decide +kernel
theorem dL_isFair_216 : decode cL_isFair 216 = .ok (.iconst 5, 1) := by decide +kernel
theorem dL_isFair_217 : decode cL_isFair 217 = .ok (.invokevirtual 84, 3) := by decide +kernel
theorem dL_isFair_220 : decode cL_isFair 220 = .ok (.istore 5, 2) := by decide +kernel
theorem dL_isFair_222 : decode cL_isFair 222 = .ok (.aload_n 0, 1) := by decide +kernel
theorem dL_isFair_223 : decode cL_isFair 223 = .ok (.iload 4, 2) := by decide +kernel
theorem dL_isFair_225 : decode cL_isFair 225 = .ok (.iconst 4, 1) := by decide +kernel
theorem dL_isFair_226 : decode cL_isFair 226 = .ok (.invokevirtual 84, 3) := by decide +kernel
theorem dL_isFair_229 : decode cL_isFair 229 = .ok (.ifCond .ge 7, 3) := by decide +kernel
theorem dL_isFair_232 : decode cL_isFair 232 = .ok (.iconst 1, 1) := by decide +kernel
theorem dL_isFair_233 : decode cL_isFair 233 = .ok (.goto 4, 3) := by decide +kernel
theorem dL_isFair_236 : decode cL_isFair 236 = .ok (.iconst 0, 1) := by decide +kernel
theorem dL_isFair_237 : decode cL_isFair 237 = .ok (.iload 5, 2) := by decide +kernel
theorem dL_isFair_239 : decode cL_isFair 239 = .ok (.ifCond .ne 7, 3) := by decide +kernel
theorem dL_isFair_242 : decode cL_isFair 242 = .ok (.iconst 1, 1) := by decide +kernel
theorem dL_isFair_243 : decode cL_isFair 243 = .ok (.goto 4, 3) := by decide +kernel
theorem dL_isFair_246 : decode cL_isFair 246 = .ok (.iconst 0, 1) := by decide +kernel
theorem dL_isFair_247 : decode cL_isFair 247 = .ok (.if_icmp .ne 53, 3) := by decide +kernel
theorem dL_isFair_250 : decode cL_isFair 250 = .ok (.aload_n 0, 1) := by decide +kernel
theorem dL_isFair_251 : decode cL_isFair 251 = .ok (.iload 4, 2) := by decide +kernel
theorem dL_isFair_253 : decode cL_isFair 253 = .ok (.iconst 2, 1) := by decide +kernel
theorem dL_isFair_254 : decode cL_isFair 254 = .ok (.invokevirtual 84, 3) := by decide +kernel
theorem dL_isFair_257 : decode cL_isFair 257 = .ok (.iconst 1, 1) := by decide +kernel
theorem dL_isFair_258 : decode cL_isFair 258 = .ok (.if_icmp .ne 8, 3) := by decide +kernel
theorem dL_isFair_261 : decode cL_isFair 261 = .ok (.iload 5, 2) := by decide +kernel
theorem dL_isFair_263 : decode cL_isFair 263 = .ok (.ifCond .gt 37, 3) := by decide +kernel
theorem dL_isFair_266 : decode cL_isFair 266 = .ok (.aload_n 0, 1) := by decide +kernel
theorem dL_isFair_267 : decode cL_isFair 267 = .ok (.iload 4, 2) := by decide +kernel
theorem dL_isFair_269 : decode cL_isFair 269 = .ok (.iconst 2, 1) := by decide +kernel
theorem dL_isFair_270 : decode cL_isFair 270 = .ok (.invokevirtual 84, 3) := by decide +kernel
theorem dL_isFair_273 : decode cL_isFair 273 = .ok (.iconst 3, 1) := by decide +kernel
theorem dL_isFair_274 : decode cL_isFair 274 = .ok (.if_icmp .ne 7, 3) := by decide +kernel
theorem dL_isFair_277 : decode cL_isFair 277 = .ok (.iconst 1, 1) := by decide +kernel
theorem dL_isFair_278 : decode cL_isFair 278 = .ok (.goto 4, 3) := by decide +kernel
theorem dL_isFair_281 : decode cL_isFair 281 = .ok (.iconst 0, 1) := by decide +kernel
theorem dL_isFair_282 : decode cL_isFair 282 = .ok (.aload_n 0, 1) := by decide +kernel
theorem dL_isFair_283 : decode cL_isFair 283 = .ok (.iload 4, 2) := by decide +kernel
theorem dL_isFair_285 : decode cL_isFair 285 = .ok (.iconst 3, 1) := by decide +kernel
theorem dL_isFair_286 : decode cL_isFair 286 = .ok (.invokevirtual 84, 3) := by decide +kernel
theorem dL_isFair_289 : decode cL_isFair 289 = .ok (.ifCond .ne 7, 3) := by decide +kernel
theorem dL_isFair_292 : decode cL_isFair 292 = .ok (.iconst 1, 1) := by decide +kernel
theorem dL_isFair_293 : decode cL_isFair 293 = .ok (.goto 4, 3) := by decide +kernel
theorem dL_isFair_296 : decode cL_isFair 296 = .ok (.iconst 0, 1) := by decide +kernel
theorem dL_isFair_297 : decode cL_isFair 297 = .ok (.if_icmp .eq 5, 3) := by decide +kernel
theorem dL_isFair_300 : decode cL_isFair 300 = .ok (.iconst 0, 1) := by decide +kernel
theorem dL_isFair_301 : decode cL_isFair 301 = .ok (.ireturn, 1) := by decide +kernel
theorem dL_isFair_302 : decode cL_isFair 302 = .ok (.aload_n 0, 1) := by decide +kernel
theorem dL_isFair_303 : decode cL_isFair 303 = .ok (.iload 4, 2) := by decide +kernel
theorem dL_isFair_305 : decode cL_isFair 305 = .ok (.iconst 0, 1) := by decide +kernel
theorem dL_isFair_306 : decode cL_isFair 306 = .ok (.invokevirtual 84, 3) := by decide +kernel
theorem dL_isFair_309 : decode cL_isFair 309 = .ok (.istore 6, 2) := by decide +kernel
theorem dL_isFair_311 : decode cL_isFair 311 = .ok (.iconst 0, 1) := by decide +kernel
theorem dL_isFair_312 : decode cL_isFair 312 = .ok (.istore 7, 2) := by decide +kernel
theorem dL_isFair_314 : decode cL_isFair 314 = .ok (.aload_n 0, 1) := by decide +kernel
theorem dL_isFair_315 : decode cL_isFair 315 = .ok (.iload 4, 2) := by decide +kernel
theorem dL_isFair_317 : decode cL_isFair 317 = .ok (.iconst 2, 1) := by decide +kernel
theorem dL_isFair_318 : decode cL_isFair 318 = .ok (.invokevirtual 84, 3) := by decide +kernel
theorem dL_isFair_321 : decode cL_isFair 321 = .ok (.iconst 1, 1) := by decide +kernel
theorem dL_isFair_322 : decode cL_isFair 322 = .ok (.if_icmp .ne 74, 3) := by decide +kernel
theorem dL_isFair_325 : decode cL_isFair 325 = .ok (.iload 7, 2) := by decide +kernel
theorem dL_isFair_327 : decode cL_isFair 327 = .ok (.iload_n 1, 1) := by decide +kernel
theorem dL_isFair_328 : decode cL_isFair 328 = .ok (.if_icmp .ge 68, 3) := by decide +kernel
theorem dL_isFair_331 : decode cL_isFair 331 = .ok (.aload_n 0, 1) := by decide +kernel
theorem dL_isFair_332 : decode cL_isFair 332 = .ok (.iload 4, 2) := by decide +kernel
theorem dL_isFair_334 : decode cL_isFair 334 = .ok (.iconst 1, 1) := by decide +kernel
theorem dL_isFair_335 : decode cL_isFair 335 = .ok (.invokevirtual 84, 3) := by decide +kernel
theorem dL_isFair_338 : decode cL_isFair 338 = .ok (.iload 7, 2) := by decide +kernel
theorem dL_isFair_340 : decode cL_isFair 340 = .ok (.ishr, 1) := by decide +kernel
theorem dL_isFair_341 : decode cL_isFair 341 = .ok (.iconst 1, 1) := by decide +kernel
theorem dL_isFair_342 : decode cL_isFair 342 = .ok (.iand, 1) := by decide +kernel
theorem dL_isFair_343 : decode cL_isFair 343 = .ok (.iconst 1, 1) := by decide +kernel
theorem dL_isFair_344 : decode cL_isFair 344 = .ok (.if_icmp .ne 46, 3) := by decide +kernel
theorem dL_isFair_347 : decode cL_isFair 347 = .ok (.aload_n 0, 1) := by decide +kernel
theorem dL_isFair_348 : decode cL_isFair 348 = .ok (.iload 6, 2) := by decide +kernel
theorem dL_isFair_350 : decode cL_isFair 350 = .ok (.iload 7, 2) := by decide +kernel
theorem dL_isFair_352 : decode cL_isFair 352 = .ok (.invokevirtual 110, 3) := by decide +kernel
theorem dL_isFair_355 : decode cL_isFair 355 = .ok (.aload_n 0, 1) := by decide +kernel
theorem dL_isFair_356 : decode cL_isFair 356 = .ok (.iload 7, 2) := by decide +kernel
theorem dL_isFair_358 : decode cL_isFair 358 = .ok (.iconst 2, 1) := by decide +kernel
theorem dL_isFair_359 : decode cL_isFair 359 = .ok (.invokevirtual 54, 3) := by decide +kernel
theorem dL_isFair_362 : decode cL_isFair 362 = .ok (.if_icmp .ne 26, 3) := by decide +kernel
theorem dL_isFair_365 : decode cL_isFair 365 = .ok (.aload_n 0, 1) := by decide +kernel
theorem dL_isFair_366 : decode cL_isFair 366 = .ok (.iload 7, 2) := by decide +kernel
theorem dL_isFair_368 : decode cL_isFair 368 = .ok (.bipush 7, 2) := by decide +kernel
theorem dL_isFair_370 : decode cL_isFair 370 = .ok (.invokevirtual 54, 3) := by decide +kernel
theorem dL_isFair_373 : decode cL_isFair 373 = .ok (.ifCond .gt 15, 3) := by decide +kernel
theorem dL_isFair_376 : decode cL_isFair 376 = .ok (.aload_n 0, 1) := by decide +kernel
theorem dL_isFair_377 : decode cL_isFair 377 = .ok (.iload 7, 2) := by decide +kernel
theorem dL_isFair_379 : decode cL_isFair 379 = .ok (.bipush 6, 2) := by decide +kernel
theorem dL_isFair_381 : decode cL_isFair 381 = .ok (.invokevirtual 54, 3) := by decide +kernel
theorem dL_isFair_384 : decode cL_isFair 384 = .ok (.iconst 2, 1) := by decide +kernel
theorem dL_isFair_385 : decode cL_isFair 385 = .ok (.if_icmp .le 5, 3) := by decide +kernel
theorem dL_isFair_388 : decode cL_isFair 388 = .ok (.iconst 0, 1) := by decide +kernel
theorem dL_isFair_389 : decode cL_isFair 389 = .ok (.ireturn, 1) := by decide +kernel
theorem dL_isFair_390 : decode cL_isFair 390 = .ok (.iinc 7 1, 3) := by decide +kernel
theorem dL_isFair_393 : decode cL_isFair 393 = .ok (.goto (-79), 3) := by decide +kernel
theorem dL_isFair_396 : decode cL_isFair 396 = .ok (.iinc 4 1, 3) := by decide +kernel
theorem dL_isFair_399 : decode cL_isFair 399 = .ok (.goto (-192), 3) := by decide +kernel
theorem dL_isFair_402 : decode cL_isFair 402 = .ok (.aload_n 0, 1) := by decide +kernel
theorem dL_isFair_403 : decode cL_isFair 403 = .ok (.bipush 6, 2) := by decide +kernel
theorem dL_isFair_405 : decode cL_isFair 405 = .ok (.invokevirtual 51, 3) := by decide +kernel
theorem dL_isFair_408 : decode cL_isFair 408 = .ok (.iload_n 2, 1) := by decide +kernel
theorem dL_isFair_409 : decode cL_isFair 409 = .ok (.if_icmp .ne 38, 3) := by decide +kernel
theorem dL_isFair_412 : decode cL_isFair 412 = .ok (.aload_n 0, 1) := by decide +kernel
theorem dL_isFair_413 : decode cL_isFair 413 = .ok (.bipush 8, 2) := by decide +kernel
theorem dL_isFair_415 : decode cL_isFair 415 = .ok (.invokevirtual 51, 3) := by decide +kernel
theorem dL_isFair_418 : decode cL_isFair 418 = .ok (.aload_n 0, 1) := by decide +kernel
theorem dL_isFair_419 : decode cL_isFair 419 = .ok (.bipush 9, 2) := by decide +kernel
theorem dL_isFair_421 : decode cL_isFair 421 = .ok (.invokevirtual 51, 3) := by decide +kernel
theorem dL_isFair_424 : decode cL_isFair 424 = .ok (.iadd, 1) := by decide +kernel
theorem dL_isFair_425 : decode cL_isFair 425 = .ok (.aload_n 0, 1) := by decide +kernel
theorem dL_isFair_426 : decode cL_isFair 426 = .ok (.bipush 10, 2) := by decide +kernel
theorem dL_isFair_428 : decode cL_isFair 428 = .ok (.invokevirtual 51, 3) := by decide +kernel
theorem dL_isFair_431 : decode cL_isFair 431 = .ok (.iadd, 1) := by decide +kernel
theorem dL_isFair_432 : decode cL_isFair 432 = .ok (.aload_n 0, 1) := by decide +kernel
theorem dL_isFair_433 : decode cL_isFair 433 = .ok (.bipush 11, 2) := by decide +kernel
theorem dL_isFair_435 : decode cL_isFair 435 = .ok (.invokevirtual 51, 3) := by decide +kernel
theorem dL_isFair_438 : decode cL_isFair 438 = .ok (.iadd, 1) := by decide +kernel
theorem dL_isFair_439 : decode cL_isFair 439 = .ok (.iload_n 3, 1) := by decide +kernel
theorem dL_isFair_440 : decode cL_isFair 440 = .ok (.if_icmp .ne 7, 3) := by decide +kernel
theorem dL_isFair_443 : decode cL_isFair 443 = .ok (.iconst 1, 1) := by decide +kernel
theorem dL_isFair_444 : decode cL_isFair 444 = .ok (.goto 4, 3) := by decide +kernel
theorem dL_isFair_447 : decode cL_isFair 447 = .ok (.iconst 0, 1) := by decide +kernel
theorem dL_isFair_448 : decode cL_isFair 448 = .ok (.ireturn, 1) := by decide +kernel
abbrev vwCl : List vw_C := [(RX0, TX0, 3), (RX1, TX1, 3), (RX2, TX2, 3), (RX3, TX3, 10), (RX4, TX4, 6), (RX5, TX5, 13)]
