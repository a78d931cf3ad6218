theorem dX5_requireCrew_12 : decode cX5_requireCrew 12 = .ok (.dup, 1) := by decide +kernel
theorem dX5_requireCrew_13 : decode cX5_requireCrew 13 = .ok (.ldc_w 377, 3) := by decide +kernel
theorem dX5_requireCrew_16 : decode cX5_requireCrew 16 = .ok (.invokespecial 181, 3) := by decide +kernel
theorem dX5_requireCrew_19 : decode cX5_requireCrew 19 = .ok (.athrow, 1) := by decide +kernel
theorem dX5_requireCrew_20 : decode cX5_requireCrew 20 = .ok (.return_, 1) := by decide +kernel
theorem dX5_requireRegion_0 : decode cX5_requireRegion 0 = .ok (.iload_n 0, 1) := by decide +kernel
theorem dX5_requireRegion_1 : decode cX5_requireRegion 1 = .ok (.ifCond .lt 29, 3) := by decide +kernel
theorem dX5_requireRegion_4 : decode cX5_requireRegion 4 = .ok (.iload_n 0, 1) := by decide +kernel
theorem dX5_requireRegion_5 : decode cX5_requireRegion 5 = .ok (.iload_n 2, 1) := by decide +kernel
theorem dX5_requireRegion_6 : decode cX5_requireRegion 6 = .ok (.if_icmp .gt 24, 3) := by decide +kernel
theorem dX5_requireRegion_9 : decode cX5_requireRegion 9 = .ok (.iload_n 2, 1) := by decide +kernel
theorem dX5_requireRegion_10 : decode cX5_requireRegion 10 = .ok (.bipush 20, 2) := by decide +kernel
theorem dX5_requireRegion_12 : decode cX5_requireRegion 12 = .ok (.if_icmp .ge 18, 3) := by decide +kernel
theorem dX5_requireRegion_15 : decode cX5_requireRegion 15 = .ok (.iload_n 1, 1) := by decide +kernel
theorem dX5_requireRegion_16 : decode cX5_requireRegion 16 = .ok (.ifCond .lt 14, 3) := by decide +kernel
theorem dX5_requireRegion_19 : decode cX5_requireRegion 19 = .ok (.iload_n 1, 1) := by decide +kernel
theorem dX5_requireRegion_20 : decode cX5_requireRegion 20 = .ok (.iload_n 3, 1) := by decide +kernel
theorem dX5_requireRegion_21 : decode cX5_requireRegion 21 = .ok (.if_icmp .gt 9, 3) := by decide +kernel
theorem dX5_requireRegion_24 : decode cX5_requireRegion 24 = .ok (.iload_n 3, 1) := by decide +kernel
theorem dX5_requireRegion_25 : decode cX5_requireRegion 25 = .ok (.bipush 20, 2) := by decide +kernel
theorem dX5_requireRegion_27 : decode cX5_requireRegion 27 = .ok (.if_icmp .lt 14, 3) := by decide +kernel
theorem dX5_requireRegion_30 : decode cX5_requireRegion 30 = .ok (.new 73, 3) := by decide +kernel
theorem dX5_requireRegion_33 : decode cX5_requireRegion 33 = .ok (.dup, 1) := by decide +kernel
theorem dX5_requireRegion_34 : decode cX5_requireRegion 34 = .ok (.ldc_w 379, 3) := by decide +kernel
theorem dX5_requireRegion_37 : decode cX5_requireRegion 37 = .ok (.invokespecial 77, 3) := by decide +kernel
theorem dX5_requireRegion_40 : decode cX5_requireRegion 40 = .ok (.athrow, 1) := by decide +kernel
theorem dX5_requireRegion_41 : decode cX5_requireRegion 41 = .ok (.return_, 1) := by decide +kernel
theorem dX5_isSetOfSheets_0 : decode cX5_isSetOfSheets 0 = .ok (.iload_n 1, 1) := by decide +kernel
theorem dX5_isSetOfSheets_1 : decode cX5_isSetOfSheets 1 = .ok (.iconst 1, 1) := by decide +kernel
theorem dX5_isSetOfSheets_2 : decode cX5_isSetOfSheets 2 = .ok (.if_icmp .lt 17, 3) := by decide +kernel
theorem dX5_isSetOfSheets_5 : decode cX5_isSetOfSheets 5 = .ok (.iload_n 1, 1) := by decide +kernel
theorem dX5_isSetOfSheets_6 : decode cX5_isSetOfSheets 6 = .ok (.iconst 1, 1) := by decide +kernel
theorem dX5_isSetOfSheets_7 : decode cX5_isSetOfSheets 7 = .ok (.aload_n 0, 1) := by decide +kernel
theorem dX5_isSetOfSheets_8 : decode cX5_isSetOfSheets 8 = .ok (.getfield 48, 3) := by decide +kernel
theorem dX5_isSetOfSheets_11 : decode cX5_isSetOfSheets 11 = .ok (.ishl, 1) := by decide +kernel
theorem dX5_isSetOfSheets_12 : decode cX5_isSetOfSheets 12 = .ok (.if_icmp .ge 7, 3) := by decide +kernel
theorem dX5_isSetOfSheets_15 : decode cX5_isSetOfSheets 15 = .ok (.iconst 1, 1) := by decide +kernel
theorem dX5_isSetOfSheets_16 : decode cX5_isSetOfSheets 16 = .ok (.goto 4, 3) := by decide +kernel
theorem dX5_isSetOfSheets_19 : decode cX5_isSetOfSheets 19 = .ok (.iconst 0, 1) := by decide +kernel
theorem dX5_isSetOfSheets_20 : decode cX5_isSetOfSheets 20 = .ok (.ireturn, 1) := by decide +kernel
theorem dX5_isIn_0 : decode cX5_isIn 0 = .ok (.iload_n 0, 1) := by decide +kernel
theorem dX5_isIn_1 : decode cX5_isIn 1 = .ok (.iconst 1, 1) := by decide +kernel
theorem dX5_isIn_2 : decode cX5_isIn 2 = .ok (.iload_n 1, 1) := by decide +kernel
theorem dX5_isIn_3 : decode cX5_isIn 3 = .ok (.ishl, 1) := by decide +kernel
theorem dX5_isIn_4 : decode cX5_isIn 4 = .ok (.iand, 1) := by decide +kernel
theorem dX5_isIn_5 : decode cX5_isIn 5 = .ok (.ifCond .eq 7, 3) := by decide +kernel
theorem dX5_isIn_8 : decode cX5_isIn 8 = .ok (.iconst 1, 1) := by decide +kernel
theorem dX5_isIn_9 : decode cX5_isIn 9 = .ok (.goto 4, 3) := by decide +kernel
theorem dX5_isIn_12 : decode cX5_isIn 12 = .ok (.iconst 0, 1) := by decide +kernel
theorem dX5_isIn_13 : decode cX5_isIn 13 = .ok (.ireturn, 1) := by decide +kernel
set_option maxRecDepth 20000 in
theorem ggX5_regionOf_X5_bitsFrom : GoodIn wsX5_regionOf wsX5_bitsFrom := goodIn_r _ [4, 5] (by decide +kernel) (by decide +kernel)
set_option maxRecDepth 20000 in
theorem gX5_regionOf_X5_bitsFrom : GoodIn wsX5_regionOf (va_wsS RX5 381 yX5_bitsFrom wsX5_bitsFrom) := goodIn_app (goodIn_of _ (by decide +kernel)) ggX5_regionOf_X5_bitsFrom
theorem dX5_regionOf_0 : decode cX5_regionOf 0 = .ok (.iload_n 0, 1) := by decide +kernel
theorem dX5_regionOf_1 : decode cX5_regionOf 1 = .ok (.iload_n 2, 1) := by decide +kernel
theorem dX5_regionOf_2 : decode cX5_regionOf 2 = .ok (.invokestatic 381, 3) := by decide +kernel
theorem dX5_regionOf_5 : decode cX5_regionOf 5 = .ok (.iload_n 1, 1) := by decide +kernel
theorem dX5_regionOf_6 : decode cX5_regionOf 6 = .ok (.iload_n 3, 1) := by decide +kernel
theorem dX5_regionOf_7 : decode cX5_regionOf 7 = .ok (.invokestatic 381, 3) := by decide +kernel
theorem dX5_regionOf_10 : decode cX5_regionOf 10 = .ok (.bipush 20, 2) := by decide +kernel
theorem dX5_regionOf_12 : decode cX5_regionOf 12 = .ok (.lshl, 1) := by decide +kernel
theorem dX5_regionOf_13 : decode cX5_regionOf 13 = .ok (.lor, 1) := by decide +kernel
theorem dX5_regionOf_14 : decode cX5_regionOf 14 = .ok (.lreturn, 1) := by decide +kernel
theorem dX5_bitsFrom_0 : decode cX5_bitsFrom 0 = .ok (.ldc2_w 384, 3) := by decide +kernel
theorem dX5_bitsFrom_3 : decode cX5_bitsFrom 3 = .ok (.iload_n 1, 1) := by decide +kernel
theorem dX5_bitsFrom_4 : decode cX5_bitsFrom 4 = .ok (.lshl, 1) := by decide +kernel
theorem dX5_bitsFrom_5 : decode cX5_bitsFrom 5 = .ok (.lconst 1, 1) := by decide +kernel
theorem dX5_bitsFrom_6 : decode cX5_bitsFrom 6 = .ok (.iload_n 0, 1) := by decide +kernel
theorem dX5_bitsFrom_7 : decode cX5_bitsFrom 7 = .ok (.lshl, 1) := by decide +kernel
theorem dX5_bitsFrom_8 : decode cX5_bitsFrom 8 = .ok (.lsub, 1) := by decide +kernel
theorem dX5_bitsFrom_9 : decode cX5_bitsFrom 9 = .ok (.lreturn, 1) := by decide +kernel
set_option maxRecDepth 20000 in
theorem ggX5_fieldsOf_J13_bitCount_95d88 : GoodIn wsX5_fieldsOf wsJ13_bitCount_95d88 := goodIn_r _ [6, 7, 8, 9] (by decide +kernel) (by decide +kernel)
set_option maxRecDepth 20000 in
theorem gX5_fieldsOf_J13_bitCount_95d88 : GoodIn wsX5_fieldsOf (va_wsS RX5 388 yJ13_bitCount_95d88 wsJ13_bitCount_95d88) := goodIn_app (goodIn_of _ (by decide +kernel)) ggX5_fieldsOf_J13_bitCount_95d88
theorem dX5_fieldsOf_0 : decode cX5_fieldsOf 0 = .ok (.lload_n 0, 1) := by decide +kernel
theorem dX5_fieldsOf_1 : decode cX5_fieldsOf 1 = .ok (.ldc2_w 386, 3) := by decide +kernel
theorem dX5_fieldsOf_4 : decode cX5_fieldsOf 4 = .ok (.land, 1) := by decide +kernel
theorem dX5_fieldsOf_5 : decode cX5_fieldsOf 5 = .ok (.invokestatic 388, 3) := by decide +kernel
theorem dX5_fieldsOf_8 : decode cX5_fieldsOf 8 = .ok (.lload_n 0, 1) := by decide +kernel
theorem dX5_fieldsOf_9 : decode cX5_fieldsOf 9 = .ok (.ldc2_w 392, 3) := by decide +kernel
theorem dX5_fieldsOf_12 : decode cX5_fieldsOf 12 = .ok (.land, 1) := by decide +kernel
theorem dX5_fieldsOf_13 : decode cX5_fieldsOf 13 = .ok (.invokestatic 388, 3) := by decide +kernel
theorem dX5_fieldsOf_16 : decode cX5_fieldsOf 16 = .ok (.imul, 1) := by decide +kernel
theorem dX5_fieldsOf_17 : decode cX5_fieldsOf 17 = .ok (.ireturn, 1) := by decide +kernel
theorem dX5_hasField_0 : decode cX5_hasField 0 = .ok (.lload_n 0, 1) := by decide +kernel
theorem dX5_hasField_1 : decode cX5_hasField 1 = .ok (.ldc2_w 386, 3) := by decide +kernel
theorem dX5_hasField_4 : decode cX5_hasField 4 = .ok (.land, 1) := by decide +kernel
theorem dX5_hasField_5 : decode cX5_hasField 5 = .ok (.lconst 0, 1) := by decide +kernel
theorem dX5_hasField_6 : decode cX5_hasField 6 = .ok (.lcmp, 1) := by decide +kernel
theorem dX5_hasField_7 : decode cX5_hasField 7 = .ok (.ifCond .eq 17, 3) := by decide +kernel
theorem dX5_hasField_10 : decode cX5_hasField 10 = .ok (.lload_n 0, 1) := by decide +kernel
theorem dX5_hasField_11 : decode cX5_hasField 11 = .ok (.ldc2_w 392, 3) := by decide +kernel
theorem dX5_hasField_14 : decode cX5_hasField 14 = .ok (.land, 1) := by decide +kernel
theorem dX5_hasField_15 : decode cX5_hasField 15 = .ok (.lconst 0, 1) := by decide +kernel
theorem dX5_hasField_16 : decode cX5_hasField 16 = .ok (.lcmp, 1) := by decide +kernel
theorem dX5_hasField_17 : decode cX5_hasField 17 = .ok (.ifCond .eq 7, 3) := by decide +kernel
theorem dX5_hasField_20 : decode cX5_hasField 20 = .ok (.iconst 1, 1) := by decide +kernel
theorem dX5_hasField_21 : decode cX5_hasField 21 = .ok (.goto 4, 3) := by decide +kernel
theorem dX5_hasField_24 : decode cX5_hasField 24 = .ok (.iconst 0, 1) := by decide +kernel
theorem dX5_hasField_25 : decode cX5_hasField 25 = .ok (.ireturn, 1) := by decide +kernel
set_option maxRecDepth 20000 in
theorem ggX5_isBroken_X5_isIn : GoodIn wsX5_isBroken wsX5_isIn := goodIn_r _ [5] (by decide +kernel) (by decide +kernel)
set_option maxRecDepth 20000 in
theorem gX5_isBroken_X5_isIn : GoodIn wsX5_isBroken (va_wsS RX5 216 yX5_isIn wsX5_isIn) := goodIn_app (goodIn_of _ (by decide +kernel)) ggX5_isBroken_X5_isIn
theorem dX5_isBroken_0 : decode cX5_isBroken 0 = .ok (.aload_n 0, 1) := by decide +kernel
theorem dX5_isBroken_1 : decode cX5_isBroken 1 = .ok (.getfield 11, 3) := by decide +kernel
theorem dX5_isBroken_4 : decode cX5_isBroken 4 = .ok (.aload_n 1, 1) := by decide +kernel
theorem dX5_isBroken_5 : decode cX5_isBroken 5 = .ok (.getfield 394, 3) := by decide +kernel
theorem dX5_isBroken_8 : decode cX5_isBroken 8 = .ok (.aaload, 1) := by decide +kernel
theorem dX5_isBroken_9 : decode cX5_isBroken 9 = .ok (.getfield 163, 3) := by decide +kernel
theorem dX5_isBroken_12 : decode cX5_isBroken 12 = .ok (.aload_n 1, 1) := by decide +kernel
theorem dX5_isBroken_13 : decode cX5_isBroken 13 = .ok (.getfield 397, 3) := by decide +kernel
theorem dX5_isBroken_16 : decode cX5_isBroken 16 = .ok (.invokestatic 216, 3) := by decide +kernel
theorem dX5_isBroken_19 : decode cX5_isBroken 19 = .ok (.ifCond .ne 7, 3) := by decide +kernel
theorem dX5_isBroken_22 : decode cX5_isBroken 22 = .ok (.iconst 1, 1) := by decide +kernel
theorem dX5_isBroken_23 : decode cX5_isBroken 23 = .ok (.goto 4, 3) := by decide +kernel
theorem dX5_isBroken_26 : decode cX5_isBroken 26 = .ok (.iconst 0, 1) := by decide +kernel
theorem dX5_isBroken_27 : decode cX5_isBroken 27 = .ok (.ireturn, 1) := by decide +kernel
set_option maxRecDepth 20000 in
theorem ggX5_brokenFrom_X5_isBroken : GoodIn wsX5_brokenFrom wsX5_isBroken := goodIn_r _ [7, 8, 9, 10, 6, 11, 12, 13, 14, 15, 16, 17, 18, 19, 20, 21, 22, 23, 24, 25, 26, 27, 28, 29, 30, 31, 32, 33, 34, 35, 36, 37] (by decide +kernel) (by decide +kernel)
set_option maxRecDepth 20000 in
theorem gX5_brokenFrom_X5_isBroken : GoodIn wsX5_brokenFrom (wsV RX5 187 RX5 yX5_isBroken wsX5_isBroken) := goodIn_app (goodIn_of _ (by decide +kernel)) ggX5_brokenFrom_X5_isBroken
theorem dX5_brokenFrom_0 : decode cX5_brokenFrom 0 = .ok (.iconst 0, 1) := by decide +kernel
theorem dX5_brokenFrom_1 : decode cX5_brokenFrom 1 = .ok (.istore_n 2, 1) := by decide +kernel
theorem dX5_brokenFrom_2 : decode cX5_brokenFrom 2 = .ok (.iconst 0, 1) := by decide +kernel
theorem dX5_brokenFrom_3 : decode cX5_brokenFrom 3 = .ok (.istore_n 3, 1) := by decide +kernel
theorem dX5_brokenFrom_4 : decode cX5_brokenFrom 4 = .ok (.iload_n 3, 1) := by decide +kernel
theorem dX5_brokenFrom_5 : decode cX5_brokenFrom 5 = .ok (.aload_n 0, 1) := by decide +kernel
theorem dX5_brokenFrom_6 : decode cX5_brokenFrom 6 = .ok (.getfield 52, 3) := by decide +kernel
theorem dX5_brokenFrom_9 : decode cX5_brokenFrom 9 = .ok (.if_icmp .ge 38, 3) := by decide +kernel
theorem dX5_brokenFrom_12 : decode cX5_brokenFrom 12 = .ok (.aload_n 0, 1) := by decide +kernel
theorem dX5_brokenFrom_13 : decode cX5_brokenFrom 13 = .ok (.getfield 17, 3) := by decide +kernel
theorem dX5_brokenFrom_16 : decode cX5_brokenFrom 16 = .ok (.iload_n 3, 1) := by decide +kernel
theorem dX5_brokenFrom_17 : decode cX5_brokenFrom 17 = .ok (.aaload, 1) := by decide +kernel
theorem dX5_brokenFrom_18 : decode cX5_brokenFrom 18 = .ok (.getfield 400, 3) := by decide +kernel
theorem dX5_brokenFrom_21 : decode cX5_brokenFrom 21 = .ok (.iload_n 1, 1) := by decide +kernel
theorem dX5_brokenFrom_22 : decode cX5_brokenFrom 22 = .ok (.if_icmp .ne 19, 3) := by decide +kernel
theorem dX5_brokenFrom_25 : decode cX5_brokenFrom 25 = .ok (.aload_n 0, 1) := by decide +kernel
theorem dX5_brokenFrom_26 : decode cX5_brokenFrom 26 = .ok (.aload_n 0, 1) := by decide +kernel
theorem dX5_brokenFrom_27 : decode cX5_brokenFrom 27 = .ok (.getfield 17, 3) := by decide +kernel
theorem dX5_brokenFrom_30 : decode cX5_brokenFrom 30 = .ok (.iload_n 3, 1) := by decide +kernel
theorem dX5_brokenFrom_31 : decode cX5_brokenFrom 31 = .ok (.aaload, 1) := by decide +kernel
theorem dX5_brokenFrom_32 : decode cX5_brokenFrom 32 = .ok (.invokevirtual 187, 3) := by decide +kernel
theorem dX5_brokenFrom_35 : decode cX5_brokenFrom 35 = .ok (.ifCond .eq 6, 3) := by decide +kernel
theorem dX5_brokenFrom_38 : decode cX5_brokenFrom 38 = .ok (.iinc 2 1, 3) := by decide +kernel
theorem dX5_brokenFrom_41 : decode cX5_brokenFrom 41 = .ok (.iinc 3 1, 3) := by decide +kernel
theorem dX5_brokenFrom_44 : decode cX5_brokenFrom 44 = .ok (.goto (-40), 3) := by decide +kernel
theorem dX5_brokenFrom_47 : decode cX5_brokenFrom 47 = .ok (.iload_n 2, 1) := by decide +kernel
theorem dX5_brokenFrom_48 : decode cX5_brokenFrom 48 = .ok (.ireturn, 1) := by decide +kernel
set_option maxRecDepth 20000 in
theorem ggX5_brokenTo_X5_isBroken : GoodIn wsX5_brokenTo wsX5_isBroken := goodIn_r _ [7, 8, 9, 10, 6, 11, 12, 13, 14, 15, 16, 17, 18, 19, 20, 21, 22, 23, 24, 25, 26, 27, 28, 29, 30, 31, 32, 33, 34, 35, 36, 37] (by decide +kernel) (by decide +kernel)
set_option maxRecDepth 20000 in
theorem gX5_brokenTo_X5_isBroken : GoodIn wsX5_brokenTo (wsV RX5 187 RX5 yX5_isBroken wsX5_isBroken) := goodIn_app (goodIn_of _ (by decide +kernel)) ggX5_brokenTo_X5_isBroken
theorem dX5_brokenTo_0 : decode cX5_brokenTo 0 = .ok (.iconst 0, 1) := by decide +kernel
theorem dX5_brokenTo_1 : decode cX5_brokenTo 1 = .ok (.istore_n 2, 1) := by decide +kernel
theorem dX5_brokenTo_2 : decode cX5_brokenTo 2 = .ok (.iconst 0, 1) := by decide +kernel
theorem dX5_brokenTo_3 : decode cX5_brokenTo 3 = .ok (.istore_n 3, 1) := by decide +kernel
theorem dX5_brokenTo_4 : decode cX5_brokenTo 4 = .ok (.iload_n 3, 1) := by decide +kernel
theorem dX5_brokenTo_5 : decode cX5_brokenTo 5 = .ok (.aload_n 0, 1) := by decide +kernel
theorem dX5_brokenTo_6 : decode cX5_brokenTo 6 = .ok (.getfield 52, 3) := by decide +kernel
theorem dX5_brokenTo_9 : decode cX5_brokenTo 9 = .ok (.if_icmp .ge 38, 3) := by decide +kernel
theorem dX5_brokenTo_12 : decode cX5_brokenTo 12 = .ok (.aload_n 0, 1) := by decide +kernel
theorem dX5_brokenTo_13 : decode cX5_brokenTo 13 = .ok (.getfield 17, 3) := by decide +kernel
theorem dX5_brokenTo_16 : decode cX5_brokenTo 16 = .ok (.iload_n 3, 1) := by decide +kernel
theorem dX5_brokenTo_17 : decode cX5_brokenTo 17 = .ok (.aaload, 1) := by decide +kernel
theorem dX5_brokenTo_18 : decode cX5_brokenTo 18 = .ok (.getfield 394, 3) := by decide +kernel
theorem dX5_brokenTo_21 : decode cX5_brokenTo 21 = .ok (.iload_n 1, 1) := by decide +kernel
theorem dX5_brokenTo_22 : decode cX5_brokenTo 22 = .ok (.if_icmp .ne 19, 3) := by decide +kernel
theorem dX5_brokenTo_25 : decode cX5_brokenTo 25 = .ok (.aload_n 0, 1) := by decide +kernel
theorem dX5_brokenTo_26 : decode cX5_brokenTo 26 = .ok (.aload_n 0, 1) := by decide +kernel
theorem dX5_brokenTo_27 : decode cX5_brokenTo 27 = .ok (.getfield 17, 3) := by decide +kernel
theorem dX5_brokenTo_30 : decode cX5_brokenTo 30 = .ok (.iload_n 3, 1) := by decide +kernel
theorem dX5_brokenTo_31 : decode cX5_brokenTo 31 = .ok (.aaload, 1) := by decide +kernel
theorem dX5_brokenTo_32 : decode cX5_brokenTo 32 = .ok (.invokevirtual 187, 3) := by decide +kernel
theorem dX5_brokenTo_35 : decode cX5_brokenTo 35 = .ok (.ifCond .eq 6, 3) := by decide +kernel
theorem dX5_brokenTo_38 : decode cX5_brokenTo 38 = .ok (.iinc 2 1, 3) := by decide +kernel
theorem dX5_brokenTo_41 : decode cX5_brokenTo 41 = .ok (.iinc 3 1, 3) := by decide +kernel
theorem dX5_brokenTo_44 : decode cX5_brokenTo 44 = .ok (.goto (-40), 3) := by decide +kernel
theorem dX5_brokenTo_47 : decode cX5_brokenTo 47 = .ok (.iload_n 2, 1) := by decide +kernel
theorem dX5_brokenTo_48 : decode cX5_brokenTo 48 = .ok (.ireturn, 1) := by decide +kernel
set_option maxRecDepth 20000 in
theorem ggX5_brokenOfAll_X5_isBroken : GoodIn wsX5_brokenOfAll wsX5_isBroken := goodIn_r _ [7, 8, 9, 10, 6, 11, 12, 13, 14, 15, 16, 17, 18, 19, 20, 21, 22, 23, 24, 25, 26, 27, 28, 29, 30, 31, 32, 33, 34, 35, 36, 37] (by decide +kernel) (by decide +kernel)
set_option maxRecDepth 20000 in
theorem gX5_brokenOfAll_X5_isBroken : GoodIn wsX5_brokenOfAll (wsV RX5 187 RX5 yX5_isBroken wsX5_isBroken) := goodIn_app (goodIn_of _ (by decide +kernel)) ggX5_brokenOfAll_X5_isBroken
theorem dX5_brokenOfAll_0 : decode cX5_brokenOfAll 0 = .ok (.iconst 0, 1) := by decide +kernel
theorem dX5_brokenOfAll_1 : decode cX5_brokenOfAll 1 = .ok (.istore_n 1, 1) := by decide +kernel
theorem dX5_brokenOfAll_2 : decode cX5_brokenOfAll 2 = .ok (.iconst 0, 1) := by decide +kernel
theorem dX5_brokenOfAll_3 : decode cX5_brokenOfAll 3 = .ok (.istore_n 2, 1) := by decide +kernel
theorem dX5_brokenOfAll_4 : decode cX5_brokenOfAll 4 = .ok (.iload_n 2, 1) := by decide +kernel
theorem dX5_brokenOfAll_5 : decode cX5_brokenOfAll 5 = .ok (.aload_n 0, 1) := by decide +kernel
theorem dX5_brokenOfAll_6 : decode cX5_brokenOfAll 6 = .ok (.getfield 52, 3) := by decide +kernel
theorem dX5_brokenOfAll_9 : decode cX5_brokenOfAll 9 = .ok (.if_icmp .ge 25, 3) := by decide +kernel
theorem dX5_brokenOfAll_12 : decode cX5_brokenOfAll 12 = .ok (.aload_n 0, 1) := by decide +kernel
theorem dX5_brokenOfAll_13 : decode cX5_brokenOfAll 13 = .ok (.aload_n 0, 1) := by decide +kernel
theorem dX5_brokenOfAll_14 : decode cX5_brokenOfAll 14 = .ok (.getfield 17, 3) := by decide +kernel
theorem dX5_brokenOfAll_17 : decode cX5_brokenOfAll 17 = .ok (.iload_n 2, 1) := by decide +kernel
theorem dX5_brokenOfAll_18 : decode cX5_brokenOfAll 18 = .ok (.aaload, 1) := by decide +kernel
theorem dX5_brokenOfAll_19 : decode cX5_brokenOfAll 19 = .ok (.invokevirtual 187, 3) := by decide +kernel
theorem dX5_brokenOfAll_22 : decode cX5_brokenOfAll 22 = .ok (.ifCond .eq 6, 3) := by decide +kernel
theorem dX5_brokenOfAll_25 : decode cX5_brokenOfAll 25 = .ok (.iinc 1 1, 3) := by decide +kernel
theorem dX5_brokenOfAll_28 : decode cX5_brokenOfAll 28 = .ok (.iinc 2 1, 3) := by decide +kernel
theorem dX5_brokenOfAll_31 : decode cX5_brokenOfAll 31 = .ok (.goto (-27), 3) := by decide +kernel
theorem dX5_brokenOfAll_34 : decode cX5_brokenOfAll 34 = .ok (.iload_n 1, 1) := by decide +kernel
theorem dX5_brokenOfAll_35 : decode cX5_brokenOfAll 35 = .ok (.ireturn, 1) := by decide +kernel
set_option maxRecDepth 20000 in
theorem ggX5_isReadyToIssue_X3_lastStatus : GoodIn wsX5_isReadyToIssue wsX3_lastStatus := goodIn_r _ [5, 6, 7, 8, 9, 3, 10, 11, 12, 40, 41, 42, 43, 44, 45, 46, 47, 48, 49] (by decide +kernel) (by decide +kernel)
set_option maxRecDepth 20000 in
theorem gX5_isReadyToIssue_X3_lastStatus_n97 : GoodIn wsX5_isReadyToIssue (wsX3_lastStatus) := ggX5_isReadyToIssue_X3_lastStatus
set_option maxRecDepth 20000 in
theorem ggX5_isReadyToIssue_X5_brokenFrom : GoodIn wsX5_isReadyToIssue wsX5_brokenFrom := goodIn_r _ [17, 18, 19, 20, 21, 22, 16, 23, 1, 24, 25, 26, 27, 28, 29, 30, 31, 32, 33, 34, 35, 36, 37, 38, 39, 50, 51, 52, 40, 41, 42, 43, 44, 45, 46, 47, 48, 49] (by decide +kernel) (by decide +kernel)
set_option maxRecDepth 20000 in
theorem gX5_isReadyToIssue_X5_brokenFrom : GoodIn wsX5_isReadyToIssue (wsV RX5 127 RX5 yX5_brokenFrom wsX5_brokenFrom) := goodIn_app (goodIn_of _ (by decide +kernel)) ggX5_isReadyToIssue_X5_brokenFrom
theorem dX5_isReadyToIssue_0 : decode cX5_isReadyToIssue 0 = .ok (.aload_n 0, 1) := by decide +kernel
theorem dX5_isReadyToIssue_1 : decode cX5_isReadyToIssue 1 = .ok (.getfield 11, 3) := by decide +kernel
theorem dX5_isReadyToIssue_4 : decode cX5_isReadyToIssue 4 = .ok (.iload_n 1, 1) := by decide +kernel
theorem dX5_isReadyToIssue_5 : decode cX5_isReadyToIssue 5 = .ok (.aaload, 1) := by decide +kernel
theorem dX5_isReadyToIssue_6 : decode cX5_isReadyToIssue 6 = .ok (.invokevirtual 97, 3) := by decide +kernel
theorem dX5_isReadyToIssue_9 : decode cX5_isReadyToIssue 9 = .ok (.iconst 1, 1) := by decide +kernel
theorem dX5_isReadyToIssue_10 : decode cX5_isReadyToIssue 10 = .ok (.if_icmp .ne 15, 3) := by decide +kernel
theorem dX5_isReadyToIssue_13 : decode cX5_isReadyToIssue 13 = .ok (.aload_n 0, 1) := by decide +kernel
theorem dX5_isReadyToIssue_14 : decode cX5_isReadyToIssue 14 = .ok (.iload_n 1, 1) := by decide +kernel
theorem dX5_isReadyToIssue_15 : decode cX5_isReadyToIssue 15 = .ok (.invokevirtual 127, 3) := by decide +kernel
theorem dX5_isReadyToIssue_18 : decode cX5_isReadyToIssue 18 = .ok (.ifCond .ne 7, 3) := by decide +kernel
theorem dX5_isReadyToIssue_21 : decode cX5_isReadyToIssue 21 = .ok (.iconst 1, 1) := by decide +kernel
theorem dX5_isReadyToIssue_22 : decode cX5_isReadyToIssue 22 = .ok (.goto 4, 3) := by decide +kernel
theorem dX5_isReadyToIssue_25 : decode cX5_isReadyToIssue 25 = .ok (.iconst 0, 1) := by decide +kernel
theorem dX5_isReadyToIssue_26 : decode cX5_isReadyToIssue 26 = .ok (.ireturn, 1) := by decide +kernel
set_option maxRecDepth 20000 in
theorem ggX5_areAllIssued_X5_isIn : GoodIn wsX5_areAllIssued wsX5_isIn := goodIn_r _ [6] (by decide +kernel) (by decide +kernel)
set_option maxRecDepth 20000 in
theorem gX5_areAllIssued_X5_isIn : GoodIn wsX5_areAllIssued (va_wsS RX5 216 yX5_isIn wsX5_isIn) := goodIn_app (goodIn_of _ (by decide +kernel)) ggX5_areAllIssued_X5_isIn
theorem dX5_areAllIssued_0 : decode cX5_areAllIssued 0 = .ok (.iconst 0, 1) := by decide +kernel
theorem dX5_areAllIssued_1 : decode cX5_areAllIssued 1 = .ok (.istore_n 2, 1) := by decide +kernel
theorem dX5_areAllIssued_2 : decode cX5_areAllIssued 2 = .ok (.iload_n 2, 1) := by decide +kernel
theorem dX5_areAllIssued_3 : decode cX5_areAllIssued 3 = .ok (.aload_n 0, 1) := by decide +kernel
theorem dX5_areAllIssued_4 : decode cX5_areAllIssued 4 = .ok (.getfield 48, 3) := by decide +kernel
theorem dX5_areAllIssued_7 : decode cX5_areAllIssued 7 = .ok (.if_icmp .ge 32, 3) := by decide +kernel
theorem dX5_areAllIssued_10 : decode cX5_areAllIssued 10 = .ok (.iload_n 1, 1) := by decide +kernel
theorem dX5_areAllIssued_11 : decode cX5_areAllIssued 11 = .ok (.iload_n 2, 1) := by decide +kernel
theorem dX5_areAllIssued_12 : decode cX5_areAllIssued 12 = .ok (.invokestatic 216, 3) := by decide +kernel
theorem dX5_areAllIssued_15 : decode cX5_areAllIssued 15 = .ok (.ifCond .eq 18, 3) := by decide +kernel
theorem dX5_areAllIssued_18 : decode cX5_areAllIssued 18 = .ok (.aload_n 0, 1) := by decide +kernel
theorem dX5_areAllIssued_19 : decode cX5_areAllIssued 19 = .ok (.getfield 11, 3) := by decide +kernel
theorem dX5_areAllIssued_22 : decode cX5_areAllIssued 22 = .ok (.iload_n 2, 1) := by decide +kernel
theorem dX5_areAllIssued_23 : decode cX5_areAllIssued 23 = .ok (.aaload, 1) := by decide +kernel
theorem dX5_areAllIssued_24 : decode cX5_areAllIssued 24 = .ok (.getfield 156, 3) := by decide +kernel
theorem dX5_areAllIssued_27 : decode cX5_areAllIssued 27 = .ok (.iconst (-1), 1) := by decide +kernel
theorem dX5_areAllIssued_28 : decode cX5_areAllIssued 28 = .ok (.if_icmp .ne 5, 3) := by decide +kernel
theorem dX5_areAllIssued_31 : decode cX5_areAllIssued 31 = .ok (.iconst 0, 1) := by decide +kernel
theorem dX5_areAllIssued_32 : decode cX5_areAllIssued 32 = .ok (.ireturn, 1) := by decide +kernel
theorem dX5_areAllIssued_33 : decode cX5_areAllIssued 33 = .ok (.iinc 2 1, 3) := by decide +kernel
theorem dX5_areAllIssued_36 : decode cX5_areAllIssued 36 = .ok (.goto (-34), 3) := by decide +kernel
theorem dX5_areAllIssued_39 : decode cX5_areAllIssued 39 = .ok (.iconst 1, 1) := by decide +kernel
theorem dX5_areAllIssued_40 : decode cX5_areAllIssued 40 = .ok (.ireturn, 1) := by decide +kernel
set_option maxRecDepth 20000 in
theorem ggX5_packSheets_X5_isIn : GoodIn wsX5_packSheets wsX5_isIn := goodIn_r _ [6] (by decide +kernel) (by decide +kernel)
set_option maxRecDepth 20000 in
theorem gX5_packSheets_X5_isIn : GoodIn wsX5_packSheets (va_wsS RX5 216 yX5_isIn wsX5_isIn) := goodIn_app (goodIn_of _ (by decide +kernel)) ggX5_packSheets_X5_isIn
theorem dX5_packSheets_0 : decode cX5_packSheets 0 = .ok (.iconst 0, 1) := by decide +kernel
theorem dX5_packSheets_1 : decode cX5_packSheets 1 = .ok (.istore_n 3, 1) := by decide +kernel
theorem dX5_packSheets_2 : decode cX5_packSheets 2 = .ok (.iload_n 3, 1) := by decide +kernel
theorem dX5_packSheets_3 : decode cX5_packSheets 3 = .ok (.aload_n 0, 1) := by decide +kernel
theorem dX5_packSheets_4 : decode cX5_packSheets 4 = .ok (.getfield 48, 3) := by decide +kernel
theorem dX5_packSheets_7 : decode cX5_packSheets 7 = .ok (.if_icmp .ge 32, 3) := by decide +kernel
theorem dX5_packSheets_10 : decode cX5_packSheets 10 = .ok (.iload_n 2, 1) := by decide +kernel
theorem dX5_packSheets_11 : decode cX5_packSheets 11 = .ok (.iload_n 3, 1) := by decide +kernel
theorem dX5_packSheets_12 : decode cX5_packSheets 12 = .ok (.invokestatic 216, 3) := by decide +kernel
theorem dX5_packSheets_15 : decode cX5_packSheets 15 = .ok (.ifCond .eq 18, 3) := by decide +kernel
theorem dX5_packSheets_18 : decode cX5_packSheets 18 = .ok (.aload_n 1, 1) := by decide +kernel
theorem dX5_packSheets_19 : decode cX5_packSheets 19 = .ok (.getfield 403, 3) := by decide +kernel
theorem dX5_packSheets_22 : decode cX5_packSheets 22 = .ok (.iload_n 3, 1) := by decide +kernel
theorem dX5_packSheets_23 : decode cX5_packSheets 23 = .ok (.aload_n 0, 1) := by decide +kernel
theorem dX5_packSheets_24 : decode cX5_packSheets 24 = .ok (.getfield 11, 3) := by decide +kernel
theorem dX5_packSheets_27 : decode cX5_packSheets 27 = .ok (.iload_n 3, 1) := by decide +kernel
theorem dX5_packSheets_28 : decode cX5_packSheets 28 = .ok (.aaload, 1) := by decide +kernel
theorem dX5_packSheets_29 : decode cX5_packSheets 29 = .ok (.getfield 156, 3) := by decide +kernel
theorem dX5_packSheets_32 : decode cX5_packSheets 32 = .ok (.iastore, 1) := by decide +kernel
theorem dX5_packSheets_33 : decode cX5_packSheets 33 = .ok (.iinc 3 1, 3) := by decide +kernel
theorem dX5_packSheets_36 : decode cX5_packSheets 36 = .ok (.goto (-34), 3) := by decide +kernel
theorem dX5_packSheets_39 : decode cX5_packSheets 39 = .ok (.return_, 1) := by decide +kernel
theorem dX5_takeLater_0 : decode cX5_takeLater 0 = .ok (.iconst 0, 1) := by decide +kernel
theorem dX5_takeLater_1 : decode cX5_takeLater 1 = .ok (.istore_n 2, 1) := by decide +kernel
theorem dX5_takeLater_2 : decode cX5_takeLater 2 = .ok (.iconst 0, 1) := by decide +kernel
theorem dX5_takeLater_3 : decode cX5_takeLater 3 = .ok (.istore_n 3, 1) := by decide +kernel
theorem dX5_takeLater_4 : decode cX5_takeLater 4 = .ok (.iload_n 3, 1) := by decide +kernel
theorem dX5_takeLater_5 : decode cX5_takeLater 5 = .ok (.bipush 10, 2) := by decide +kernel
theorem dX5_takeLater_7 : decode cX5_takeLater 7 = .ok (.if_icmp .ge 33, 3) := by decide +kernel
theorem dX5_takeLater_10 : decode cX5_takeLater 10 = .ok (.aload_n 0, 1) := by decide +kernel
theorem dX5_takeLater_11 : decode cX5_takeLater 11 = .ok (.getfield 403, 3) := by decide +kernel
theorem dX5_takeLater_14 : decode cX5_takeLater 14 = .ok (.iload_n 3, 1) := by decide +kernel
theorem dX5_takeLater_15 : decode cX5_takeLater 15 = .ok (.iaload, 1) := by decide +kernel
theorem dX5_takeLater_16 : decode cX5_takeLater 16 = .ok (.aload_n 1, 1) := by decide +kernel
theorem dX5_takeLater_17 : decode cX5_takeLater 17 = .ok (.iload_n 3, 1) := by decide +kernel
theorem dX5_takeLater_18 : decode cX5_takeLater 18 = .ok (.iaload, 1) := by decide +kernel
theorem dX5_takeLater_19 : decode cX5_takeLater 19 = .ok (.if_icmp .le 15, 3) := by decide +kernel
theorem dX5_takeLater_22 : decode cX5_takeLater 22 = .ok (.aload_n 1, 1) := by decide +kernel
theorem dX5_takeLater_23 : decode cX5_takeLater 23 = .ok (.iload_n 3, 1) := by decide +kernel
theorem dX5_takeLater_24 : decode cX5_takeLater 24 = .ok (.aload_n 0, 1) := by decide +kernel
theorem dX5_takeLater_25 : decode cX5_takeLater 25 = .ok (.getfield 403, 3) := by decide +kernel
theorem dX5_takeLater_28 : decode cX5_takeLater 28 = .ok (.iload_n 3, 1) := by decide +kernel
theorem dX5_takeLater_29 : decode cX5_takeLater 29 = .ok (.iaload, 1) := by decide +kernel
theorem dX5_takeLater_30 : decode cX5_takeLater 30 = .ok (.iastore, 1) := by decide +kernel
theorem dX5_takeLater_31 : decode cX5_takeLater 31 = .ok (.iinc 2 1, 3) := by decide +kernel
theorem dX5_takeLater_34 : decode cX5_takeLater 34 = .ok (.iinc 3 1, 3) := by decide +kernel
theorem dX5_takeLater_37 : decode cX5_takeLater 37 = .ok (.goto (-33), 3) := by decide +kernel
theorem dX5_takeLater_40 : decode cX5_takeLater 40 = .ok (.iload_n 2, 1) := by decide +kernel
theorem dX5_takeLater_41 : decode cX5_takeLater 41 = .ok (.ireturn, 1) := by decide +kernel
theorem dX5_closePromised_0 : decode cX5_closePromised 0 = .ok (.iconst 0, 1) := by decide +kernel
theorem dX5_closePromised_1 : decode cX5_closePromised 1 = .ok (.istore_n 2, 1) := by decide +kernel
theorem dX5_closePromised_2 : decode cX5_closePromised 2 = .ok (.iload_n 2, 1) := by decide +kernel
theorem dX5_closePromised_3 : decode cX5_closePromised 3 = .ok (.aload_n 0, 1) := by decide +kernel
theorem dX5_closePromised_4 : decode cX5_closePromised 4 = .ok (.getfield 58, 3) := by decide +kernel
theorem dX5_closePromised_7 : decode cX5_closePromised 7 = .ok (.if_icmp .ge 45, 3) := by decide +kernel
theorem dX5_closePromised_10 : decode cX5_closePromised 10 = .ok (.aload_n 0, 1) := by decide +kernel
theorem dX5_closePromised_11 : decode cX5_closePromised 11 = .ok (.getfield 29, 3) := by decide +kernel
theorem dX5_closePromised_14 : decode cX5_closePromised 14 = .ok (.iload_n 2, 1) := by decide +kernel
theorem dX5_closePromised_15 : decode cX5_closePromised 15 = .ok (.aaload, 1) := by decide +kernel
theorem dX5_closePromised_16 : decode cX5_closePromised 16 = .ok (.getfield 406, 3) := by decide +kernel
theorem dX5_closePromised_19 : decode cX5_closePromised 19 = .ok (.iload_n 1, 1) := by decide +kernel
theorem dX5_closePromised_20 : decode cX5_closePromised 20 = .ok (.if_icmp .ne 26, 3) := by decide +kernel
theorem dX5_closePromised_23 : decode cX5_closePromised 23 = .ok (.aload_n 0, 1) := by decide +kernel
theorem dX5_closePromised_24 : decode cX5_closePromised 24 = .ok (.getfield 29, 3) := by decide +kernel
theorem dX5_closePromised_27 : decode cX5_closePromised 27 = .ok (.iload_n 2, 1) := by decide +kernel
theorem dX5_closePromised_28 : decode cX5_closePromised 28 = .ok (.aaload, 1) := by decide +kernel
theorem dX5_closePromised_29 : decode cX5_closePromised 29 = .ok (.getfield 237, 3) := by decide +kernel
theorem dX5_closePromised_32 : decode cX5_closePromised 32 = .ok (.iconst 1, 1) := by decide +kernel
theorem dX5_closePromised_33 : decode cX5_closePromised 33 = .ok (.if_icmp .ne 13, 3) := by decide +kernel
theorem dX5_closePromised_36 : decode cX5_closePromised 36 = .ok (.aload_n 0, 1) := by decide +kernel
theorem dX5_closePromised_37 : decode cX5_closePromised 37 = .ok (.getfield 29, 3) := by decide +kernel
theorem dX5_closePromised_40 : decode cX5_closePromised 40 = .ok (.iload_n 2, 1) := by decide +kernel
theorem dX5_closePromised_41 : decode cX5_closePromised 41 = .ok (.aaload, 1) := by decide +kernel
theorem dX5_closePromised_42 : decode cX5_closePromised 42 = .ok (.iconst 2, 1) := by decide +kernel
theorem dX5_closePromised_43 : decode cX5_closePromised 43 = .ok (.putfield 237, 3) := by decide +kernel
theorem dX5_closePromised_46 : decode cX5_closePromised 46 = .ok (.iinc 2 1, 3) := by decide +kernel
theorem dX5_closePromised_49 : decode cX5_closePromised 49 = .ok (.goto (-47), 3) := by decide +kernel
theorem dX5_closePromised_52 : decode cX5_closePromised 52 = .ok (.return_, 1) := by decide +kernel
theorem dX5_queriesNotClosed_0 : decode cX5_queriesNotClosed 0 = .ok (.iconst 0, 1) := by decide +kernel
theorem dX5_queriesNotClosed_1 : decode cX5_queriesNotClosed 1 = .ok (.istore_n 1, 1) := by decide +kernel
theorem dX5_queriesNotClosed_2 : decode cX5_queriesNotClosed 2 = .ok (.iconst 0, 1) := by decide +kernel
theorem dX5_queriesNotClosed_3 : decode cX5_queriesNotClosed 3 = .ok (.istore_n 2, 1) := by decide +kernel
theorem dX5_queriesNotClosed_4 : decode cX5_queriesNotClosed 4 = .ok (.iload_n 2, 1) := by decide +kernel
theorem dX5_queriesNotClosed_5 : decode cX5_queriesNotClosed 5 = .ok (.aload_n 0, 1) := by decide +kernel
theorem dX5_queriesNotClosed_6 : decode cX5_queriesNotClosed 6 = .ok (.getfield 58, 3) := by decide +kernel
theorem dX5_queriesNotClosed_9 : decode cX5_queriesNotClosed 9 = .ok (.if_icmp .ge 25, 3) := by decide +kernel
theorem dX5_queriesNotClosed_12 : decode cX5_queriesNotClosed 12 = .ok (.aload_n 0, 1) := by decide +kernel
theorem dX5_queriesNotClosed_13 : decode cX5_queriesNotClosed 13 = .ok (.getfield 29, 3) := by decide +kernel
theorem dX5_queriesNotClosed_16 : decode cX5_queriesNotClosed 16 = .ok (.iload_n 2, 1) := by decide +kernel
theorem dX5_queriesNotClosed_17 : decode cX5_queriesNotClosed 17 = .ok (.aaload, 1) := by decide +kernel
theorem dX5_queriesNotClosed_18 : decode cX5_queriesNotClosed 18 = .ok (.getfield 237, 3) := by decide +kernel
theorem dX5_queriesNotClosed_21 : decode cX5_queriesNotClosed 21 = .ok (.iconst 2, 1) := by decide +kernel
theorem dX5_queriesNotClosed_22 : decode cX5_queriesNotClosed 22 = .ok (.if_icmp .eq 6, 3) := by decide +kernel
theorem dX5_queriesNotClosed_25 : decode cX5_queriesNotClosed 25 = .ok (.iinc 1 1, 3) := by decide +kernel
theorem dX5_queriesNotClosed_28 : decode cX5_queriesNotClosed 28 = .ok (.iinc 2 1, 3) := by decide +kernel
theorem dX5_queriesNotClosed_31 : decode cX5_queriesNotClosed 31 = .ok (.goto (-27), 3) := by decide +kernel
theorem dX5_queriesNotClosed_34 : decode cX5_queriesNotClosed 34 = .ok (.iload_n 1, 1) := by decide +kernel
theorem dX5_queriesNotClosed_35 : decode cX5_queriesNotClosed 35 = .ok (.ireturn, 1) := by decide +kernel
set_option maxRecDepth 20000 in
theorem ggX5_clashRegion_X5_isIn : GoodIn wsX5_clashRegion wsX5_isIn := goodIn_r _ [5] (by decide +kernel) (by decide +kernel)
set_option maxRecDepth 20000 in
theorem gX5_clashRegion_X5_isIn : GoodIn wsX5_clashRegion (va_wsS RX5 216 yX5_isIn wsX5_isIn) := goodIn_app (goodIn_of _ (by decide +kernel)) ggX5_clashRegion_X5_isIn
theorem dX5_clashRegion_0 : decode cX5_clashRegion 0 = .ok (.aload_n 0, 1) := by decide +kernel
theorem dX5_clashRegion_1 : decode cX5_clashRegion 1 = .ok (.getfield 11, 3) := by decide +kernel
theorem dX5_clashRegion_4 : decode cX5_clashRegion 4 = .ok (.iload_n 1, 1) := by decide +kernel
theorem dX5_clashRegion_5 : decode cX5_clashRegion 5 = .ok (.aaload, 1) := by decide +kernel
theorem dX5_clashRegion_6 : decode cX5_clashRegion 6 = .ok (.astore_n 3, 1) := by decide +kernel
theorem dX5_clashRegion_7 : decode cX5_clashRegion 7 = .ok (.aload_n 0, 1) := by decide +kernel
theorem dX5_clashRegion_8 : decode cX5_clashRegion 8 = .ok (.getfield 11, 3) := by decide +kernel
theorem dX5_clashRegion_11 : decode cX5_clashRegion 11 = .ok (.iload_n 2, 1) := by decide +kernel
theorem dX5_clashRegion_12 : decode cX5_clashRegion 12 = .ok (.aaload, 1) := by decide +kernel
theorem dX5_clashRegion_13 : decode cX5_clashRegion 13 = .ok (.astore 4, 2) := by decide +kernel
theorem dX5_clashRegion_15 : decode cX5_clashRegion 15 = .ok (.aload_n 3, 1) := by decide +kernel
theorem dX5_clashRegion_16 : decode cX5_clashRegion 16 = .ok (.getfield 153, 3) := by decide +kernel
theorem dX5_clashRegion_19 : decode cX5_clashRegion 19 = .ok (.aload 4, 2) := by decide +kernel
theorem dX5_clashRegion_21 : decode cX5_clashRegion 21 = .ok (.getfield 153, 3) := by decide +kernel
theorem dX5_clashRegion_24 : decode cX5_clashRegion 24 = .ok (.if_icmp .eq 14, 3) := by decide +kernel
theorem dX5_clashRegion_27 : decode cX5_clashRegion 27 = .ok (.aload_n 3, 1) := by decide +kernel
theorem dX5_clashRegion_28 : decode cX5_clashRegion 28 = .ok (.getfield 249, 3) := by decide +kernel
theorem dX5_clashRegion_31 : decode cX5_clashRegion 31 = .ok (.iload_n 2, 1) := by decide +kernel
theorem dX5_clashRegion_32 : decode cX5_clashRegion 32 = .ok (.invokestatic 216, 3) := by decide +kernel
theorem dX5_clashRegion_35 : decode cX5_clashRegion 35 = .ok (.ifCond .eq 5, 3) := by decide +kernel
theorem dX5_clashRegion_38 : decode cX5_clashRegion 38 = .ok (.lconst 0, 1) := by decide +kernel
theorem dX5_clashRegion_39 : decode cX5_clashRegion 39 = .ok (.lreturn, 1) := by decide +kernel
theorem dX5_clashRegion_40 : decode cX5_clashRegion 40 = .ok (.aload_n 3, 1) := by decide +kernel
theorem dX5_clashRegion_41 : decode cX5_clashRegion 41 = .ok (.getfield 159, 3) := by decide +kernel
theorem dX5_clashRegion_44 : decode cX5_clashRegion 44 = .ok (.aload 4, 2) := by decide +kernel
theorem dX5_clashRegion_46 : decode cX5_clashRegion 46 = .ok (.getfield 159, 3) := by decide +kernel
theorem dX5_clashRegion_49 : decode cX5_clashRegion 49 = .ok (.land, 1) := by decide +kernel
theorem dX5_clashRegion_50 : decode cX5_clashRegion 50 = .ok (.lreturn, 1) := by decide +kernel
set_option maxRecDepth 20000 in
theorem ggX5_clashesOf_X5_clashRegion : GoodIn wsX5_clashesOf wsX5_clashRegion := goodIn_r _ [6, 7, 8, 9, 5, 10, 16, 17, 18, 19, 20, 21, 22, 23, 24, 25, 26, 27, 28, 29, 30, 31, 32, 33, 34, 35, 36, 37, 38] (by decide +kernel) (by decide +kernel)
set_option maxRecDepth 20000 in
theorem gX5_clashesOf_X5_clashRegion : GoodIn wsX5_clashesOf (wsV RX5 245 RX5 yX5_clashRegion wsX5_clashRegion) := goodIn_app (goodIn_of _ (by decide +kernel)) ggX5_clashesOf_X5_clashRegion
set_option maxRecDepth 20000 in
theorem ggX5_clashesOf_X5_hasField : GoodIn wsX5_clashesOf wsX5_hasField := goodIn_r _ [13, 14, 15] (by decide +kernel) (by decide +kernel)
set_option maxRecDepth 20000 in
theorem gX5_clashesOf_X5_hasField : GoodIn wsX5_clashesOf (va_wsS RX5 409 yX5_hasField wsX5_hasField) := goodIn_app (goodIn_of _ (by decide +kernel)) ggX5_clashesOf_X5_hasField
theorem dX5_clashesOf_0 : decode cX5_clashesOf 0 = .ok (.iconst 0, 1) := by decide +kernel
theorem dX5_clashesOf_1 : decode cX5_clashesOf 1 = .ok (.istore_n 2, 1) := by decide +kernel
theorem dX5_clashesOf_2 : decode cX5_clashesOf 2 = .ok (.iconst 0, 1) := by decide +kernel
theorem dX5_clashesOf_3 : decode cX5_clashesOf 3 = .ok (.istore_n 3, 1) := by decide +kernel
theorem dX5_clashesOf_4 : decode cX5_clashesOf 4 = .ok (.iload_n 3, 1) := by decide +kernel
theorem dX5_clashesOf_5 : decode cX5_clashesOf 5 = .ok (.aload_n 0, 1) := by decide +kernel
theorem dX5_clashesOf_6 : decode cX5_clashesOf 6 = .ok (.getfield 48, 3) := by decide +kernel
theorem dX5_clashesOf_9 : decode cX5_clashesOf 9 = .ok (.if_icmp .ge 24, 3) := by decide +kernel
theorem dX5_clashesOf_12 : decode cX5_clashesOf 12 = .ok (.aload_n 0, 1) := by decide +kernel
theorem dX5_clashesOf_13 : decode cX5_clashesOf 13 = .ok (.iload_n 1, 1) := by decide +kernel
theorem dX5_clashesOf_14 : decode cX5_clashesOf 14 = .ok (.iload_n 3, 1) := by decide +kernel
theorem dX5_clashesOf_15 : decode cX5_clashesOf 15 = .ok (.invokevirtual 245, 3) := by decide +kernel
theorem dX5_clashesOf_18 : decode cX5_clashesOf 18 = .ok (.invokestatic 409, 3) := by decide +kernel
theorem dX5_clashesOf_21 : decode cX5_clashesOf 21 = .ok (.ifCond .eq 6, 3) := by decide +kernel
theorem dX5_clashesOf_24 : decode cX5_clashesOf 24 = .ok (.iinc 2 1, 3) := by decide +kernel
theorem dX5_clashesOf_27 : decode cX5_clashesOf 27 = .ok (.iinc 3 1, 3) := by decide +kernel
theorem dX5_clashesOf_30 : decode cX5_clashesOf 30 = .ok (.goto (-26), 3) := by decide +kernel
theorem dX5_clashesOf_33 : decode cX5_clashesOf 33 = .ok (.iload_n 2, 1) := by decide +kernel
theorem dX5_clashesOf_34 : decode cX5_clashesOf 34 = .ok (.ireturn, 1) := by decide +kernel
set_option maxRecDepth 20000 in
theorem ggX5_clashingPairs_X5_clashRegion : GoodIn wsX5_clashingPairs wsX5_clashRegion := goodIn_r _ [6, 7, 8, 9, 5, 10, 16, 17, 18, 19, 20, 21, 22, 23, 24, 25, 26, 27, 28, 29, 30, 31, 32, 33, 34, 35, 36, 37, 38] (by decide +kernel) (by decide +kernel)
set_option maxRecDepth 20000 in
theorem gX5_clashingPairs_X5_clashRegion : GoodIn wsX5_clashingPairs (wsV RX5 245 RX5 yX5_clashRegion wsX5_clashRegion) := goodIn_app (goodIn_of _ (by decide +kernel)) ggX5_clashingPairs_X5_clashRegion
set_option maxRecDepth 20000 in
theorem ggX5_clashingPairs_X5_hasField : GoodIn wsX5_clashingPairs wsX5_hasField := goodIn_r _ [13, 14, 15] (by decide +kernel) (by decide +kernel)
set_option maxRecDepth 20000 in
theorem gX5_clashingPairs_X5_hasField : GoodIn wsX5_clashingPairs (va_wsS RX5 409 yX5_hasField wsX5_hasField) := goodIn_app (goodIn_of _ (by decide +kernel)) ggX5_clashingPairs_X5_hasField
theorem dX5_clashingPairs_0 : decode cX5_clashingPairs 0 = .ok (.iconst 0, 1) := by decide +kernel
theorem dX5_clashingPairs_1 : decode cX5_clashingPairs 1 = .ok (.istore_n 1, 1) := by decide +kernel
theorem dX5_clashingPairs_2 : decode cX5_clashingPairs 2 = .ok (.iconst 0, 1) := by decide +kernel
theorem dX5_clashingPairs_3 : decode cX5_clashingPairs 3 = .ok (.istore_n 2, 1) := by decide +kernel
theorem dX5_clashingPairs_4 : decode cX5_clashingPairs 4 = .ok (.iload_n 2, 1) := by decide +kernel
theorem dX5_clashingPairs_5 : decode cX5_clashingPairs 5 = .ok (.aload_n 0, 1) := by decide +kernel
theorem dX5_clashingPairs_6 : decode cX5_clashingPairs 6 = .ok (.getfield 48, 3) := by decide +kernel
theorem dX5_clashingPairs_9 : decode cX5_clashingPairs 9 = .ok (.if_icmp .ge 42, 3) := by decide +kernel
theorem dX5_clashingPairs_12 : decode cX5_clashingPairs 12 = .ok (.iload_n 2, 1) := by decide +kernel
theorem dX5_clashingPairs_13 : decode cX5_clashingPairs 13 = .ok (.iconst 1, 1) := by decide +kernel
theorem dX5_clashingPairs_14 : decode cX5_clashingPairs 14 = .ok (.iadd, 1) := by decide +kernel
theorem dX5_clashingPairs_15 : decode cX5_clashingPairs 15 = .ok (.istore_n 3, 1) := by decide +kernel
theorem dX5_clashingPairs_16 : decode cX5_clashingPairs 16 = .ok (.iload_n 3, 1) := by decide +kernel
theorem dX5_clashingPairs_17 : decode cX5_clashingPairs 17 = .ok (.aload_n 0, 1) := by decide +kernel
theorem dX5_clashingPairs_18 : decode cX5_clashingPairs 18 = .ok (.getfield 48, 3) := by decide +kernel
theorem dX5_clashingPairs_21 : decode cX5_clashingPairs 21 = .ok (.if_icmp .ge 24, 3) := by decide +kernel
theorem dX5_clashingPairs_24 : decode cX5_clashingPairs 24 = .ok (.aload_n 0, 1) := by decide +kernel
theorem dX5_clashingPairs_25 : decode cX5_clashingPairs 25 = .ok (.iload_n 2, 1) := by decide +kernel
theorem dX5_clashingPairs_26 : decode cX5_clashingPairs 26 = .ok (.iload_n 3, 1) := by decide +kernel
theorem dX5_clashingPairs_27 : decode cX5_clashingPairs 27 = .ok (.invokevirtual 245, 3) := by decide +kernel
theorem dX5_clashingPairs_30 : decode cX5_clashingPairs 30 = .ok (.invokestatic 409, 3) := by decide +kernel
theorem dX5_clashingPairs_33 : decode cX5_clashingPairs 33 = .ok (.ifCond .eq 6, 3) := by decide +kernel
theorem dX5_clashingPairs_36 : decode cX5_clashingPairs 36 = .ok (.iinc 1 1, 3) := by decide +kernel
theorem dX5_clashingPairs_39 : decode cX5_clashingPairs 39 = .ok (.iinc 3 1, 3) := by decide +kernel
theorem dX5_clashingPairs_42 : decode cX5_clashingPairs 42 = .ok (.goto (-26), 3) := by decide +kernel
theorem dX5_clashingPairs_45 : decode cX5_clashingPairs 45 = .ok (.iinc 2 1, 3) := by decide +kernel
theorem dX5_clashingPairs_48 : decode cX5_clashingPairs 48 = .ok (.goto (-44), 3) := by decide +kernel
theorem dX5_clashingPairs_51 : decode cX5_clashingPairs 51 = .ok (.iload_n 1, 1) := by decide +kernel
theorem dX5_clashingPairs_52 : decode cX5_clashingPairs 52 = .ok (.ireturn, 1) := by decide +kernel
set_option maxRecDepth 20000 in
theorem ggX5_cloudsOver_X5_hasField : GoodIn wsX5_cloudsOver wsX5_hasField := goodIn_r _ [7, 8, 9] (by decide +kernel) (by decide +kernel)
set_option maxRecDepth 20000 in
theorem gX5_cloudsOver_X5_hasField : GoodIn wsX5_cloudsOver (va_wsS RX5 409 yX5_hasField wsX5_hasField) := goodIn_app (goodIn_of _ (by decide +kernel)) ggX5_cloudsOver_X5_hasField
set_option maxRecDepth 20000 in
theorem ggX5_cloudsOver_X5_clashRegion : GoodIn wsX5_cloudsOver wsX5_clashRegion := goodIn_r _ [13, 14, 15, 16, 6, 17, 18, 19, 20, 21, 22, 23, 24, 25, 26, 27, 28, 29, 30, 34, 35, 36, 37, 38, 39, 40, 41, 42, 43] (by decide +kernel) (by decide +kernel)
set_option maxRecDepth 20000 in
theorem gX5_cloudsOver_X5_clashRegion : GoodIn wsX5_cloudsOver (wsV RX5 245 RX5 yX5_clashRegion wsX5_clashRegion) := goodIn_app (goodIn_of _ (by decide +kernel)) ggX5_cloudsOver_X5_clashRegion
theorem dX5_cloudsOver_0 : decode cX5_cloudsOver 0 = .ok (.iconst 0, 1) := by decide +kernel
theorem dX5_cloudsOver_1 : decode cX5_cloudsOver 1 = .ok (.istore 4, 2) := by decide +kernel
theorem dX5_cloudsOver_3 : decode cX5_cloudsOver 3 = .ok (.iconst 0, 1) := by decide +kernel
theorem dX5_cloudsOver_4 : decode cX5_cloudsOver 4 = .ok (.istore 5, 2) := by decide +kernel
theorem dX5_cloudsOver_6 : decode cX5_cloudsOver 6 = .ok (.iload 5, 2) := by decide +kernel
theorem dX5_cloudsOver_8 : decode cX5_cloudsOver 8 = .ok (.aload_n 0, 1) := by decide +kernel
theorem dX5_cloudsOver_9 : decode cX5_cloudsOver 9 = .ok (.getfield 58, 3) := by decide +kernel
theorem dX5_cloudsOver_12 : decode cX5_cloudsOver 12 = .ok (.if_icmp .ge 52, 3) := by decide +kernel
theorem dX5_cloudsOver_15 : decode cX5_cloudsOver 15 = .ok (.aload_n 0, 1) := by decide +kernel
theorem dX5_cloudsOver_16 : decode cX5_cloudsOver 16 = .ok (.getfield 29, 3) := by decide +kernel
theorem dX5_cloudsOver_19 : decode cX5_cloudsOver 19 = .ok (.iload 5, 2) := by decide +kernel
theorem dX5_cloudsOver_21 : decode cX5_cloudsOver 21 = .ok (.aaload, 1) := by decide +kernel
theorem dX5_cloudsOver_22 : decode cX5_cloudsOver 22 = .ok (.astore 6, 2) := by decide +kernel
theorem dX5_cloudsOver_24 : decode cX5_cloudsOver 24 = .ok (.aload 6, 2) := by decide +kernel
theorem dX5_cloudsOver_26 : decode cX5_cloudsOver 26 = .ok (.getfield 406, 3) := by decide +kernel
theorem dX5_cloudsOver_29 : decode cX5_cloudsOver 29 = .ok (.iload_n 1, 1) := by decide +kernel
theorem dX5_cloudsOver_30 : decode cX5_cloudsOver 30 = .ok (.if_icmp .ne 28, 3) := by decide +kernel
theorem dX5_cloudsOver_33 : decode cX5_cloudsOver 33 = .ok (.aload 6, 2) := by decide +kernel
theorem dX5_cloudsOver_35 : decode cX5_cloudsOver 35 = .ok (.getfield 237, 3) := by decide +kernel
theorem dX5_cloudsOver_38 : decode cX5_cloudsOver 38 = .ok (.iconst 2, 1) := by decide +kernel
theorem dX5_cloudsOver_39 : decode cX5_cloudsOver 39 = .ok (.if_icmp .eq 19, 3) := by decide +kernel
theorem dX5_cloudsOver_42 : decode cX5_cloudsOver 42 = .ok (.aload 6, 2) := by decide +kernel
theorem dX5_cloudsOver_44 : decode cX5_cloudsOver 44 = .ok (.getfield 413, 3) := by decide +kernel
theorem dX5_cloudsOver_47 : decode cX5_cloudsOver 47 = .ok (.lload_n 2, 1) := by decide +kernel
theorem dX5_cloudsOver_48 : decode cX5_cloudsOver 48 = .ok (.land, 1) := by decide +kernel
theorem dX5_cloudsOver_49 : decode cX5_cloudsOver 49 = .ok (.invokestatic 409, 3) := by decide +kernel
theorem dX5_cloudsOver_52 : decode cX5_cloudsOver 52 = .ok (.ifCond .eq 6, 3) := by decide +kernel
theorem dX5_cloudsOver_55 : decode cX5_cloudsOver 55 = .ok (.iinc 4 1, 3) := by decide +kernel
theorem dX5_cloudsOver_58 : decode cX5_cloudsOver 58 = .ok (.iinc 5 1, 3) := by decide +kernel
theorem dX5_cloudsOver_61 : decode cX5_cloudsOver 61 = .ok (.goto (-55), 3) := by decide +kernel
theorem dX5_cloudsOver_64 : decode cX5_cloudsOver 64 = .ok (.iconst 0, 1) := by decide +kernel
theorem dX5_cloudsOver_65 : decode cX5_cloudsOver 65 = .ok (.istore 5, 2) := by decide +kernel
theorem dX5_cloudsOver_67 : decode cX5_cloudsOver 67 = .ok (.iload 5, 2) := by decide +kernel
theorem dX5_cloudsOver_69 : decode cX5_cloudsOver 69 = .ok (.aload_n 0, 1) := by decide +kernel
theorem dX5_cloudsOver_70 : decode cX5_cloudsOver 70 = .ok (.getfield 48, 3) := by decide +kernel
theorem dX5_cloudsOver_73 : decode cX5_cloudsOver 73 = .ok (.if_icmp .ge 27, 3) := by decide +kernel
theorem dX5_cloudsOver_76 : decode cX5_cloudsOver 76 = .ok (.aload_n 0, 1) := by decide +kernel
theorem dX5_cloudsOver_77 : decode cX5_cloudsOver 77 = .ok (.iload_n 1, 1) := by decide +kernel
theorem dX5_cloudsOver_78 : decode cX5_cloudsOver 78 = .ok (.iload 5, 2) := by decide +kernel
theorem dX5_cloudsOver_80 : decode cX5_cloudsOver 80 = .ok (.invokevirtual 245, 3) := by decide +kernel
theorem dX5_cloudsOver_83 : decode cX5_cloudsOver 83 = .ok (.lload_n 2, 1) := by decide +kernel
theorem dX5_cloudsOver_84 : decode cX5_cloudsOver 84 = .ok (.land, 1) := by decide +kernel
theorem dX5_cloudsOver_85 : decode cX5_cloudsOver 85 = .ok (.invokestatic 409, 3) := by decide +kernel
theorem dX5_cloudsOver_88 : decode cX5_cloudsOver 88 = .ok (.ifCond .eq 6, 3) := by decide +kernel
theorem dX5_cloudsOver_91 : decode cX5_cloudsOver 91 = .ok (.iinc 4 1, 3) := by decide +kernel
theorem dX5_cloudsOver_94 : decode cX5_cloudsOver 94 = .ok (.iinc 5 1, 3) := by decide +kernel
theorem dX5_cloudsOver_97 : decode cX5_cloudsOver 97 = .ok (.goto (-30), 3) := by decide +kernel
theorem dX5_cloudsOver_100 : decode cX5_cloudsOver 100 = .ok (.iload 4, 2) := by decide +kernel
theorem dX5_cloudsOver_102 : decode cX5_cloudsOver 102 = .ok (.ireturn, 1) := by decide +kernel
set_option maxRecDepth 20000 in
theorem ggX5_wrongWith_X5_brokenFrom : GoodIn wsX5_wrongWith wsX5_brokenFrom := goodIn_r _ [6, 7, 8, 9, 10, 11, 5, 12, 1, 13, 14, 15, 32, 33, 34, 35, 36, 37, 38, 39, 40, 41, 42, 43, 44, 61, 62, 63, 45, 46, 47, 48, 49, 50, 51, 52, 53, 54] (by decide +kernel) (by decide +kernel)
set_option maxRecDepth 20000 in
theorem gX5_wrongWith_X5_brokenFrom : GoodIn wsX5_wrongWith (wsV RX5 127 RX5 yX5_brokenFrom wsX5_brokenFrom) := goodIn_app (goodIn_of _ (by decide +kernel)) ggX5_wrongWith_X5_brokenFrom
set_option maxRecDepth 20000 in
theorem ggX5_wrongWith_X5_cloudsOver : GoodIn wsX5_wrongWith wsX5_cloudsOver := goodIn_r _ [19, 20, 21, 22, 23, 24, 5, 25, 26, 27, 28, 29, 30, 31, 1, 13, 14, 15, 32, 33, 34, 35, 36, 37, 38, 39, 40, 41, 42, 43, 44, 64, 65, 66, 45, 46, 47, 48, 49, 50, 51, 52, 53, 54] (by decide +kernel) (by decide +kernel)
set_option maxRecDepth 20000 in
theorem gX5_wrongWith_X5_cloudsOver : GoodIn wsX5_wrongWith (wsV RX5 252 RX5 yX5_cloudsOver wsX5_cloudsOver) := goodIn_app (goodIn_of _ (by decide +kernel)) ggX5_wrongWith_X5_cloudsOver
theorem dX5_wrongWith_0 : decode cX5_wrongWith 0 = .ok (.aload_n 0, 1) := by decide +kernel
theorem dX5_wrongWith_1 : decode cX5_wrongWith 1 = .ok (.getfield 11, 3) := by decide +kernel
theorem dX5_wrongWith_4 : decode cX5_wrongWith 4 = .ok (.iload_n 1, 1) := by decide +kernel
theorem dX5_wrongWith_5 : decode cX5_wrongWith 5 = .ok (.aaload, 1) := by decide +kernel
theorem dX5_wrongWith_6 : decode cX5_wrongWith 6 = .ok (.astore 4, 2) := by decide +kernel
theorem dX5_wrongWith_8 : decode cX5_wrongWith 8 = .ok (.aload 4, 2) := by decide +kernel
theorem dX5_wrongWith_10 : decode cX5_wrongWith 10 = .ok (.getfield 156, 3) := by decide +kernel
theorem dX5_wrongWith_13 : decode cX5_wrongWith 13 = .ok (.iconst (-1), 1) := by decide +kernel
theorem dX5_wrongWith_14 : decode cX5_wrongWith 14 = .ok (.if_icmp .ne 5, 3) := by decide +kernel
theorem dX5_wrongWith_17 : decode cX5_wrongWith 17 = .ok (.iconst 1, 1) := by decide +kernel
theorem dX5_wrongWith_18 : decode cX5_wrongWith 18 = .ok (.ireturn, 1) := by decide +kernel
theorem dX5_wrongWith_19 : decode cX5_wrongWith 19 = .ok (.aload_n 3, 1) := by decide +kernel
theorem dX5_wrongWith_20 : decode cX5_wrongWith 20 = .ok (.iload_n 1, 1) := by decide +kernel
theorem dX5_wrongWith_21 : decode cX5_wrongWith 21 = .ok (.iaload, 1) := by decide +kernel
theorem dX5_wrongWith_22 : decode cX5_wrongWith 22 = .ok (.aload 4, 2) := by decide +kernel
theorem dX5_wrongWith_24 : decode cX5_wrongWith 24 = .ok (.getfield 156, 3) := by decide +kernel
theorem dX5_wrongWith_27 : decode cX5_wrongWith 27 = .ok (.if_icmp .eq 5, 3) := by decide +kernel
theorem dX5_wrongWith_30 : decode cX5_wrongWith 30 = .ok (.iconst 2, 1) := by decide +kernel
theorem dX5_wrongWith_31 : decode cX5_wrongWith 31 = .ok (.ireturn, 1) := by decide +kernel
theorem dX5_wrongWith_32 : decode cX5_wrongWith 32 = .ok (.aload_n 0, 1) := by decide +kernel
theorem dX5_wrongWith_33 : decode cX5_wrongWith 33 = .ok (.iload_n 1, 1) := by decide +kernel
theorem dX5_wrongWith_34 : decode cX5_wrongWith 34 = .ok (.invokevirtual 127, 3) := by decide +kernel
theorem dX5_wrongWith_37 : decode cX5_wrongWith 37 = .ok (.ifCond .le 5, 3) := by decide +kernel
theorem dX5_wrongWith_40 : decode cX5_wrongWith 40 = .ok (.iconst 3, 1) := by decide +kernel
theorem dX5_wrongWith_41 : decode cX5_wrongWith 41 = .ok (.ireturn, 1) := by decide +kernel
theorem dX5_wrongWith_42 : decode cX5_wrongWith 42 = .ok (.aload_n 0, 1) := by decide +kernel
theorem dX5_wrongWith_43 : decode cX5_wrongWith 43 = .ok (.iload_n 1, 1) := by decide +kernel
theorem dX5_wrongWith_44 : decode cX5_wrongWith 44 = .ok (.aload_n 2, 1) := by decide +kernel
theorem dX5_wrongWith_45 : decode cX5_wrongWith 45 = .ok (.getfield 267, 3) := by decide +kernel
theorem dX5_wrongWith_48 : decode cX5_wrongWith 48 = .ok (.invokevirtual 252, 3) := by decide +kernel
theorem dX5_wrongWith_51 : decode cX5_wrongWith 51 = .ok (.ifCond .le 5, 3) := by decide +kernel
theorem dX5_wrongWith_54 : decode cX5_wrongWith 54 = .ok (.iconst 4, 1) := by decide +kernel
theorem dX5_wrongWith_55 : decode cX5_wrongWith 55 = .ok (.ireturn, 1) := by decide +kernel
theorem dX5_wrongWith_56 : decode cX5_wrongWith 56 = .ok (.aload 4, 2) := by decide +kernel
theorem dX5_wrongWith_58 : decode cX5_wrongWith 58 = .ok (.getfield 166, 3) := by decide +kernel
theorem dX5_wrongWith_61 : decode cX5_wrongWith 61 = .ok (.iconst 3, 1) := by decide +kernel
theorem dX5_wrongWith_62 : decode cX5_wrongWith 62 = .ok (.if_icmp .lt 7, 3) := by decide +kernel
theorem dX5_wrongWith_65 : decode cX5_wrongWith 65 = .ok (.iconst 5, 1) := by decide +kernel
theorem dX5_wrongWith_66 : decode cX5_wrongWith 66 = .ok (.goto 4, 3) := by decide +kernel
theorem dX5_wrongWith_69 : decode cX5_wrongWith 69 = .ok (.iconst 0, 1) := by decide +kernel
theorem dX5_wrongWith_70 : decode cX5_wrongWith 70 = .ok (.ireturn, 1) := by decide +kernel
set_option maxRecDepth 20000 in
theorem ggX5_firstUnfit_X5_isIn : GoodIn wsX5_firstUnfit wsX5_isIn := goodIn_r _ [5] (by decide +kernel) (by decide +kernel)
set_option maxRecDepth 20000 in
theorem gX5_firstUnfit_X5_isIn : GoodIn wsX5_firstUnfit (va_wsS RX5 216 yX5_isIn wsX5_isIn) := goodIn_app (goodIn_of _ (by decide +kernel)) ggX5_firstUnfit_X5_isIn
set_option maxRecDepth 20000 in
theorem ggX5_firstUnfit_X5_wrongWith : GoodIn wsX5_firstUnfit wsX5_wrongWith := goodIn_r _ [9, 10, 11, 12, 13, 4, 14, 15, 16, 17, 18, 19, 20, 2, 3, 5, 21, 22, 23, 24, 25, 26, 1, 27, 28, 29, 30, 31, 32, 33, 34, 35, 36, 37, 38, 39, 40, 41, 42, 43, 44, 45, 46, 47, 48, 55, 56, 57, 58, 59, 60, 61, 62, 63, 64, 49, 50, 51, 52, 53, 54, 65, 66, 67, 68, 69, 70] (by decide +kernel) (by decide +kernel)
set_option maxRecDepth 20000 in
theorem gX5_firstUnfit_X5_wrongWith : GoodIn wsX5_firstUnfit (wsV RX5 414 RX5 yX5_wrongWith wsX5_wrongWith) := goodIn_app (goodIn_of _ (by decide +kernel)) ggX5_firstUnfit_X5_wrongWith
theorem dX5_firstUnfit_0 : decode cX5_firstUnfit 0 = .ok (.iconst 0, 1) := by decide +kernel
theorem dX5_firstUnfit_1 : decode cX5_firstUnfit 1 = .ok (.istore_n 3, 1) := by decide +kernel
theorem dX5_firstUnfit_2 : decode cX5_firstUnfit 2 = .ok (.iload_n 3, 1) := by decide +kernel
theorem dX5_firstUnfit_3 : decode cX5_firstUnfit 3 = .ok (.aload_n 0, 1) := by decide +kernel
theorem dX5_firstUnfit_4 : decode cX5_firstUnfit 4 = .ok (.getfield 48, 3) := by decide +kernel
theorem dX5_firstUnfit_7 : decode cX5_firstUnfit 7 = .ok (.if_icmp .ge 32, 3) := by decide +kernel
theorem dX5_firstUnfit_10 : decode cX5_firstUnfit 10 = .ok (.aload_n 1, 1) := by decide +kernel
theorem dX5_firstUnfit_11 : decode cX5_firstUnfit 11 = .ok (.getfield 289, 3) := by decide +kernel
theorem dX5_firstUnfit_14 : decode cX5_firstUnfit 14 = .ok (.iload_n 3, 1) := by decide +kernel
theorem dX5_firstUnfit_15 : decode cX5_firstUnfit 15 = .ok (.invokestatic 216, 3) := by decide +kernel
theorem dX5_firstUnfit_18 : decode cX5_firstUnfit 18 = .ok (.ifCond .eq 15, 3) := by decide +kernel
theorem dX5_firstUnfit_21 : decode cX5_firstUnfit 21 = .ok (.aload_n 0, 1) := by decide +kernel
theorem dX5_firstUnfit_22 : decode cX5_firstUnfit 22 = .ok (.iload_n 3, 1) := by decide +kernel
theorem dX5_firstUnfit_23 : decode cX5_firstUnfit 23 = .ok (.aload_n 1, 1) := by decide +kernel
theorem dX5_firstUnfit_24 : decode cX5_firstUnfit 24 = .ok (.aload_n 2, 1) := by decide +kernel
theorem dX5_firstUnfit_25 : decode cX5_firstUnfit 25 = .ok (.invokevirtual 414, 3) := by decide +kernel
theorem dX5_firstUnfit_28 : decode cX5_firstUnfit 28 = .ok (.ifCond .eq 5, 3) := by decide +kernel
theorem dX5_firstUnfit_31 : decode cX5_firstUnfit 31 = .ok (.iload_n 3, 1) := by decide +kernel
theorem dX5_firstUnfit_32 : decode cX5_firstUnfit 32 = .ok (.ireturn, 1) := by decide +kernel
theorem dX5_firstUnfit_33 : decode cX5_firstUnfit 33 = .ok (.iinc 3 1, 3) := by decide +kernel
theorem dX5_firstUnfit_36 : decode cX5_firstUnfit 36 = .ok (.goto (-34), 3) := by decide +kernel
theorem dX5_firstUnfit_39 : decode cX5_firstUnfit 39 = .ok (.iconst (-1), 1) := by decide +kernel
theorem dX5_firstUnfit_40 : decode cX5_firstUnfit 40 = .ok (.ireturn, 1) := by decide +kernel
set_option maxRecDepth 20000 in
theorem ggX5_wrongWithFirst_X5_firstUnfit : GoodIn wsX5_wrongWithFirst wsX5_firstUnfit := goodIn_r _ [6, 7, 8, 9, 5, 10, 11, 12, 13, 14, 15, 16, 17, 18, 19, 20, 21, 22, 23, 24, 25, 26, 27, 28, 29, 30, 31, 32, 33, 34, 35, 36, 37, 38, 39, 40, 41, 42, 43, 44, 45, 46, 47, 48, 49, 50, 51, 52, 53, 54, 55, 56, 57, 58, 59, 60, 61, 62, 63, 64, 65, 66, 67, 68, 69, 70, 71, 72, 73, 74, 75] (by decide +kernel) (by decide +kernel)
set_option maxRecDepth 20000 in
theorem gX5_wrongWithFirst_X5_firstUnfit : GoodIn wsX5_wrongWithFirst (wsV RX5 277 RX5 yX5_firstUnfit wsX5_firstUnfit) := goodIn_app (goodIn_of _ (by decide +kernel)) ggX5_wrongWithFirst_X5_firstUnfit
set_option maxRecDepth 20000 in
theorem ggX5_wrongWithFirst_X5_wrongWith : GoodIn wsX5_wrongWithFirst wsX5_wrongWith := goodIn_r _ [14, 15, 16, 17, 18, 5, 19, 20, 21, 22, 23, 24, 25, 8, 9, 10, 26, 27, 28, 29, 30, 31, 7, 32, 33, 34, 35, 36, 37, 38, 39, 40, 41, 42, 43, 44, 45, 46, 47, 48, 49, 50, 51, 52, 53, 60, 61, 62, 63, 64, 65, 66, 67, 68, 69, 54, 55, 56, 57, 58, 59, 70, 71, 72, 73, 74, 75] (by decide +kernel) (by decide +kernel)
set_option maxRecDepth 20000 in
theorem gX5_wrongWithFirst_X5_wrongWith : GoodIn wsX5_wrongWithFirst (wsV RX5 414 RX5 yX5_wrongWith wsX5_wrongWith) := goodIn_app (goodIn_of _ (by decide +kernel)) ggX5_wrongWithFirst_X5_wrongWith
theorem dX5_wrongWithFirst_0 : decode cX5_wrongWithFirst 0 = .ok (.aload_n 0, 1) := by decide +kernel
theorem dX5_wrongWithFirst_1 : decode cX5_wrongWithFirst 1 = .ok (.getfield 41, 3) := by decide +kernel
theorem dX5_wrongWithFirst_4 : decode cX5_wrongWithFirst 4 = .ok (.aload_n 1, 1) := by decide +kernel
theorem dX5_wrongWithFirst_5 : decode cX5_wrongWithFirst 5 = .ok (.getfield 274, 3) := by decide +kernel
theorem dX5_wrongWithFirst_8 : decode cX5_wrongWithFirst 8 = .ok (.aaload, 1) := by decide +kernel
theorem dX5_wrongWithFirst_9 : decode cX5_wrongWithFirst 9 = .ok (.astore_n 2, 1) := by decide +kernel
theorem dX5_wrongWithFirst_10 : decode cX5_wrongWithFirst 10 = .ok (.aload_n 0, 1) := by decide +kernel
theorem dX5_wrongWithFirst_11 : decode cX5_wrongWithFirst 11 = .ok (.aload_n 1, 1) := by decide +kernel
theorem dX5_wrongWithFirst_12 : decode cX5_wrongWithFirst 12 = .ok (.aload_n 2, 1) := by decide +kernel
theorem dX5_wrongWithFirst_13 : decode cX5_wrongWithFirst 13 = .ok (.invokevirtual 277, 3) := by decide +kernel
theorem dX5_wrongWithFirst_16 : decode cX5_wrongWithFirst 16 = .ok (.istore_n 3, 1) := by decide +kernel
theorem dX5_wrongWithFirst_17 : decode cX5_wrongWithFirst 17 = .ok (.iload_n 3, 1) := by decide +kernel
theorem dX5_wrongWithFirst_18 : decode cX5_wrongWithFirst 18 = .ok (.iconst (-1), 1) := by decide +kernel
theorem dX5_wrongWithFirst_19 : decode cX5_wrongWithFirst 19 = .ok (.if_icmp .ne 7, 3) := by decide +kernel
theorem dX5_wrongWithFirst_22 : decode cX5_wrongWithFirst 22 = .ok (.iconst 0, 1) := by decide +kernel
theorem dX5_wrongWithFirst_23 : decode cX5_wrongWithFirst 23 = .ok (.goto 10, 3) := by decide +kernel
theorem dX5_wrongWithFirst_26 : decode cX5_wrongWithFirst 26 = .ok (.aload_n 0, 1) := by decide +kernel
theorem dX5_wrongWithFirst_27 : decode cX5_wrongWithFirst 27 = .ok (.iload_n 3, 1) := by decide +kernel
theorem dX5_wrongWithFirst_28 : decode cX5_wrongWithFirst 28 = .ok (.aload_n 1, 1) := by decide +kernel
theorem dX5_wrongWithFirst_29 : decode cX5_wrongWithFirst 29 = .ok (.aload_n 2, 1) := by decide +kernel
theorem dX5_wrongWithFirst_30 : decode cX5_wrongWithFirst 30 = .ok (.invokevirtual 414, 3) := by decide +kernel
theorem dX5_wrongWithFirst_33 : decode cX5_wrongWithFirst 33 = .ok (.ireturn, 1) := by decide +kernel
set_option maxRecDepth 20000 in
theorem ggX5_unfitRunning_X5_firstUnfit : GoodIn wsX5_unfitRunning wsX5_firstUnfit := goodIn_r _ [8, 9, 10, 11, 7, 12, 13, 14, 15, 16, 17, 18, 19, 20, 21, 22, 23, 24, 25, 26, 27, 28, 29, 30, 31, 32, 33, 34, 35, 36, 37, 38, 39, 40, 41, 42, 43, 44, 45, 46, 47, 48, 49, 50, 51, 52, 53, 54, 55, 56, 57, 58, 59, 60, 61, 62, 63, 64, 65, 66, 67, 68, 69, 70, 71, 72, 73, 74, 75, 76, 77] (by decide +kernel) (by decide +kernel)
set_option maxRecDepth 20000 in
theorem gX5_unfitRunning_X5_firstUnfit : GoodIn wsX5_unfitRunning (wsV RX5 277 RX5 yX5_firstUnfit wsX5_firstUnfit) := goodIn_app (goodIn_of _ (by decide +kernel)) ggX5_unfitRunning_X5_firstUnfit
theorem dX5_unfitRunning_0 : decode cX5_unfitRunning 0 = .ok (.iconst 0, 1) := by decide +kernel
theorem dX5_unfitRunning_1 : decode cX5_unfitRunning 1 = .ok (.istore_n 1, 1) := by decide +kernel
theorem dX5_unfitRunning_2 : decode cX5_unfitRunning 2 = .ok (.iconst 0, 1) := by decide +kernel
theorem dX5_unfitRunning_3 : decode cX5_unfitRunning 3 = .ok (.istore_n 2, 1) := by decide +kernel
theorem dX5_unfitRunning_4 : decode cX5_unfitRunning 4 = .ok (.iload_n 2, 1) := by decide +kernel
theorem dX5_unfitRunning_5 : decode cX5_unfitRunning 5 = .ok (.aload_n 0, 1) := by decide +kernel
theorem dX5_unfitRunning_6 : decode cX5_unfitRunning 6 = .ok (.getfield 61, 3) := by decide +kernel
theorem dX5_unfitRunning_9 : decode cX5_unfitRunning 9 = .ok (.if_icmp .ge 48, 3) := by decide +kernel
theorem dX5_unfitRunning_12 : decode cX5_unfitRunning 12 = .ok (.aload_n 0, 1) := by decide +kernel
theorem dX5_unfitRunning_13 : decode cX5_unfitRunning 13 = .ok (.getfield 35, 3) := by decide +kernel
theorem dX5_unfitRunning_16 : decode cX5_unfitRunning 16 = .ok (.iload_n 2, 1) := by decide +kernel
theorem dX5_unfitRunning_17 : decode cX5_unfitRunning 17 = .ok (.aaload, 1) := by decide +kernel
theorem dX5_unfitRunning_18 : decode cX5_unfitRunning 18 = .ok (.astore_n 3, 1) := by decide +kernel
theorem dX5_unfitRunning_19 : decode cX5_unfitRunning 19 = .ok (.aload_n 3, 1) := by decide +kernel
theorem dX5_unfitRunning_20 : decode cX5_unfitRunning 20 = .ok (.getfield 264, 3) := by decide +kernel
theorem dX5_unfitRunning_23 : decode cX5_unfitRunning 23 = .ok (.iconst 1, 1) := by decide +kernel
theorem dX5_unfitRunning_24 : decode cX5_unfitRunning 24 = .ok (.if_icmp .ne 27, 3) := by decide +kernel
theorem dX5_unfitRunning_27 : decode cX5_unfitRunning 27 = .ok (.aload_n 0, 1) := by decide +kernel
theorem dX5_unfitRunning_28 : decode cX5_unfitRunning 28 = .ok (.aload_n 3, 1) := by decide +kernel
theorem dX5_unfitRunning_29 : decode cX5_unfitRunning 29 = .ok (.aload_n 0, 1) := by decide +kernel
theorem dX5_unfitRunning_30 : decode cX5_unfitRunning 30 = .ok (.getfield 41, 3) := by decide +kernel
theorem dX5_unfitRunning_33 : decode cX5_unfitRunning 33 = .ok (.aload_n 3, 1) := by decide +kernel
theorem dX5_unfitRunning_34 : decode cX5_unfitRunning 34 = .ok (.getfield 274, 3) := by decide +kernel
theorem dX5_unfitRunning_37 : decode cX5_unfitRunning 37 = .ok (.aaload, 1) := by decide +kernel
theorem dX5_unfitRunning_38 : decode cX5_unfitRunning 38 = .ok (.invokevirtual 277, 3) := by decide +kernel
theorem dX5_unfitRunning_41 : decode cX5_unfitRunning 41 = .ok (.iconst (-1), 1) := by decide +kernel
theorem dX5_unfitRunning_42 : decode cX5_unfitRunning 42 = .ok (.if_icmp .eq 9, 3) := by decide +kernel
theorem dX5_unfitRunning_45 : decode cX5_unfitRunning 45 = .ok (.iload_n 1, 1) := by decide +kernel
theorem dX5_unfitRunning_46 : decode cX5_unfitRunning 46 = .ok (.iconst 1, 1) := by decide +kernel
theorem dX5_unfitRunning_47 : decode cX5_unfitRunning 47 = .ok (.iload_n 2, 1) := by decide +kernel
theorem dX5_unfitRunning_48 : decode cX5_unfitRunning 48 = .ok (.ishl, 1) := by decide +kernel
theorem dX5_unfitRunning_49 : decode cX5_unfitRunning 49 = .ok (.ior, 1) := by decide +kernel
theorem dX5_unfitRunning_50 : decode cX5_unfitRunning 50 = .ok (.istore_n 1, 1) := by decide +kernel
theorem dX5_unfitRunning_51 : decode cX5_unfitRunning 51 = .ok (.iinc 2 1, 3) := by decide +kernel
theorem dX5_unfitRunning_54 : decode cX5_unfitRunning 54 = .ok (.goto (-50), 3) := by decide +kernel
theorem dX5_unfitRunning_57 : decode cX5_unfitRunning 57 = .ok (.iload_n 1, 1) := by decide +kernel
theorem dX5_unfitRunning_58 : decode cX5_unfitRunning 58 = .ok (.ireturn, 1) := by decide +kernel
set_option maxRecDepth 20000 in
theorem ggX5_stopUnfit_X5_unfitRunning : GoodIn wsX5_stopUnfit wsX5_unfitRunning := goodIn_r _ [7, 1, 2, 8, 9, 10, 11, 6, 12, 13, 14, 15, 16, 17, 18, 19, 20, 21, 22, 23, 24, 25, 26, 27, 28, 29, 30, 31, 32, 33, 34, 35, 36, 37, 38, 39, 40, 41, 42, 43, 44, 45, 46, 54, 55, 56, 57, 58, 59, 60, 61, 62, 63, 64, 65, 66, 67, 68, 69, 70, 71, 72, 73, 74, 75, 76, 77, 78, 79, 80, 81, 82, 83, 84, 85, 86, 87, 88] (by decide +kernel) (by decide +kernel)
set_option maxRecDepth 20000 in
theorem gX5_stopUnfit_X5_unfitRunning : GoodIn wsX5_stopUnfit (wsV RX5 317 RX5 yX5_unfitRunning wsX5_unfitRunning) := goodIn_app (goodIn_of _ (by decide +kernel)) ggX5_stopUnfit_X5_unfitRunning
set_option maxRecDepth 20000 in
theorem ggX5_stopUnfit_X5_isIn : GoodIn wsX5_stopUnfit wsX5_isIn := goodIn_r _ [16] (by decide +kernel) (by decide +kernel)
set_option maxRecDepth 20000 in
theorem gX5_stopUnfit_X5_isIn : GoodIn wsX5_stopUnfit (va_wsS RX5 216 yX5_isIn wsX5_isIn) := goodIn_app (goodIn_of _ (by decide +kernel)) ggX5_stopUnfit_X5_isIn
set_option maxRecDepth 20000 in
theorem ggX5_stopUnfit_J6_bitCount_0f7a4 : GoodIn wsX5_stopUnfit wsJ6_bitCount_0f7a4 := goodIn_r _ [50, 51, 52, 53] (by decide +kernel) (by decide +kernel)
set_option maxRecDepth 20000 in
theorem gX5_stopUnfit_J6_bitCount_0f7a4 : GoodIn wsX5_stopUnfit (va_wsS RX5 320 yJ6_bitCount_0f7a4 wsJ6_bitCount_0f7a4) := goodIn_app (goodIn_of _ (by decide +kernel)) ggX5_stopUnfit_J6_bitCount_0f7a4
theorem dX5_stopUnfit_0 : decode cX5_stopUnfit 0 = .ok (.aload_n 0, 1) := by decide +kernel
theorem dX5_stopUnfit_1 : decode cX5_stopUnfit 1 = .ok (.invokevirtual 317, 3) := by decide +kernel
theorem dX5_stopUnfit_4 : decode cX5_stopUnfit 4 = .ok (.istore_n 1, 1) := by decide +kernel
theorem dX5_stopUnfit_5 : decode cX5_stopUnfit 5 = .ok (.iconst 0, 1) := by decide +kernel
theorem dX5_stopUnfit_6 : decode cX5_stopUnfit 6 = .ok (.istore_n 2, 1) := by decide +kernel
theorem dX5_stopUnfit_7 : decode cX5_stopUnfit 7 = .ok (.iload_n 2, 1) := by decide +kernel
theorem dX5_stopUnfit_8 : decode cX5_stopUnfit 8 = .ok (.aload_n 0, 1) := by decide +kernel
theorem dX5_stopUnfit_9 : decode cX5_stopUnfit 9 = .ok (.getfield 61, 3) := by decide +kernel
theorem dX5_stopUnfit_12 : decode cX5_stopUnfit 12 = .ok (.if_icmp .ge 42, 3) := by decide +kernel
theorem dX5_stopUnfit_15 : decode cX5_stopUnfit 15 = .ok (.iload_n 1, 1) := by decide +kernel
theorem dX5_stopUnfit_16 : decode cX5_stopUnfit 16 = .ok (.iload_n 2, 1) := by decide +kernel
theorem dX5_stopUnfit_17 : decode cX5_stopUnfit 17 = .ok (.invokestatic 216, 3) := by decide +kernel
theorem dX5_stopUnfit_20 : decode cX5_stopUnfit 20 = .ok (.ifCond .eq 28, 3) := by decide +kernel
theorem dX5_stopUnfit_23 : decode cX5_stopUnfit 23 = .ok (.aload_n 0, 1) := by decide +kernel
theorem dX5_stopUnfit_24 : decode cX5_stopUnfit 24 = .ok (.getfield 35, 3) := by decide +kernel
theorem dX5_stopUnfit_27 : decode cX5_stopUnfit 27 = .ok (.iload_n 2, 1) := by decide +kernel
theorem dX5_stopUnfit_28 : decode cX5_stopUnfit 28 = .ok (.aaload, 1) := by decide +kernel
theorem dX5_stopUnfit_29 : decode cX5_stopUnfit 29 = .ok (.iconst 2, 1) := by decide +kernel
theorem dX5_stopUnfit_30 : decode cX5_stopUnfit 30 = .ok (.putfield 264, 3) := by decide +kernel
theorem dX5_stopUnfit_33 : decode cX5_stopUnfit 33 = .ok (.aload_n 0, 1) := by decide +kernel
theorem dX5_stopUnfit_34 : decode cX5_stopUnfit 34 = .ok (.getfield 35, 3) := by decide +kernel
theorem dX5_stopUnfit_37 : decode cX5_stopUnfit 37 = .ok (.iload_n 2, 1) := by decide +kernel
theorem dX5_stopUnfit_38 : decode cX5_stopUnfit 38 = .ok (.aaload, 1) := by decide +kernel
theorem dX5_stopUnfit_39 : decode cX5_stopUnfit 39 = .ok (.dup, 1) := by decide +kernel
theorem dX5_stopUnfit_40 : decode cX5_stopUnfit 40 = .ok (.getfield 298, 3) := by decide +kernel
theorem dX5_stopUnfit_43 : decode cX5_stopUnfit 43 = .ok (.iconst 1, 1) := by decide +kernel
theorem dX5_stopUnfit_44 : decode cX5_stopUnfit 44 = .ok (.iadd, 1) := by decide +kernel
theorem dX5_stopUnfit_45 : decode cX5_stopUnfit 45 = .ok (.putfield 298, 3) := by decide +kernel
theorem dX5_stopUnfit_48 : decode cX5_stopUnfit 48 = .ok (.iinc 2 1, 3) := by decide +kernel
theorem dX5_stopUnfit_51 : decode cX5_stopUnfit 51 = .ok (.goto (-44), 3) := by decide +kernel
theorem dX5_stopUnfit_54 : decode cX5_stopUnfit 54 = .ok (.iload_n 1, 1) := by decide +kernel
theorem dX5_stopUnfit_55 : decode cX5_stopUnfit 55 = .ok (.invokestatic 320, 3) := by decide +kernel
theorem dX5_stopUnfit_58 : decode cX5_stopUnfit 58 = .ok (.ireturn, 1) := by decide +kernel
set_option maxRecDepth 20000 in
theorem ggX5_fitStopped_X5_firstUnfit : GoodIn wsX5_fitStopped wsX5_firstUnfit := goodIn_r _ [8, 9, 10, 11, 7, 12, 13, 14, 15, 16, 17, 18, 19, 20, 21, 22, 23, 24, 25, 26, 27, 28, 29, 30, 31, 32, 33, 34, 35, 36, 37, 38, 39, 40, 41, 42, 43, 44, 45, 46, 47, 48, 49, 50, 51, 52, 53, 54, 55, 56, 57, 58, 59, 60, 61, 62, 63, 64, 65, 66, 67, 68, 69, 70, 71, 72, 73, 74, 75, 76, 77] (by decide +kernel) (by decide +kernel)
set_option maxRecDepth 20000 in
theorem gX5_fitStopped_X5_firstUnfit : GoodIn wsX5_fitStopped (wsV RX5 277 RX5 yX5_firstUnfit wsX5_firstUnfit) := goodIn_app (goodIn_of _ (by decide +kernel)) ggX5_fitStopped_X5_firstUnfit
theorem dX5_fitStopped_0 : decode cX5_fitStopped 0 = .ok (.iconst 0, 1) := by decide +kernel
theorem dX5_fitStopped_1 : decode cX5_fitStopped 1 = .ok (.istore_n 1, 1) := by decide +kernel
theorem dX5_fitStopped_2 : decode cX5_fitStopped 2 = .ok (.iconst 0, 1) := by decide +kernel
theorem dX5_fitStopped_3 : decode cX5_fitStopped 3 = .ok (.istore_n 2, 1) := by decide +kernel
theorem dX5_fitStopped_4 : decode cX5_fitStopped 4 = .ok (.iload_n 2, 1) := by decide +kernel
theorem dX5_fitStopped_5 : decode cX5_fitStopped 5 = .ok (.aload_n 0, 1) := by decide +kernel
theorem dX5_fitStopped_6 : decode cX5_fitStopped 6 = .ok (.getfield 61, 3) := by decide +kernel
theorem dX5_fitStopped_9 : decode cX5_fitStopped 9 = .ok (.if_icmp .ge 45, 3) := by decide +kernel
theorem dX5_fitStopped_12 : decode cX5_fitStopped 12 = .ok (.aload_n 0, 1) := by decide +kernel
theorem dX5_fitStopped_13 : decode cX5_fitStopped 13 = .ok (.getfield 35, 3) := by decide +kernel
theorem dX5_fitStopped_16 : decode cX5_fitStopped 16 = .ok (.iload_n 2, 1) := by decide +kernel
theorem dX5_fitStopped_17 : decode cX5_fitStopped 17 = .ok (.aaload, 1) := by decide +kernel
theorem dX5_fitStopped_18 : decode cX5_fitStopped 18 = .ok (.astore_n 3, 1) := by decide +kernel
theorem dX5_fitStopped_19 : decode cX5_fitStopped 19 = .ok (.aload_n 3, 1) := by decide +kernel
theorem dX5_fitStopped_20 : decode cX5_fitStopped 20 = .ok (.getfield 264, 3) := by decide +kernel
theorem dX5_fitStopped_23 : decode cX5_fitStopped 23 = .ok (.iconst 2, 1) := by decide +kernel
theorem dX5_fitStopped_24 : decode cX5_fitStopped 24 = .ok (.if_icmp .ne 24, 3) := by decide +kernel
theorem dX5_fitStopped_27 : decode cX5_fitStopped 27 = .ok (.aload_n 0, 1) := by decide +kernel
theorem dX5_fitStopped_28 : decode cX5_fitStopped 28 = .ok (.aload_n 3, 1) := by decide +kernel
theorem dX5_fitStopped_29 : decode cX5_fitStopped 29 = .ok (.aload_n 0, 1) := by decide +kernel
theorem dX5_fitStopped_30 : decode cX5_fitStopped 30 = .ok (.getfield 41, 3) := by decide +kernel
theorem dX5_fitStopped_33 : decode cX5_fitStopped 33 = .ok (.aload_n 3, 1) := by decide +kernel
theorem dX5_fitStopped_34 : decode cX5_fitStopped 34 = .ok (.getfield 274, 3) := by decide +kernel
theorem dX5_fitStopped_37 : decode cX5_fitStopped 37 = .ok (.aaload, 1) := by decide +kernel
theorem dX5_fitStopped_38 : decode cX5_fitStopped 38 = .ok (.invokevirtual 277, 3) := by decide +kernel
theorem dX5_fitStopped_41 : decode cX5_fitStopped 41 = .ok (.iconst (-1), 1) := by decide +kernel
theorem dX5_fitStopped_42 : decode cX5_fitStopped 42 = .ok (.if_icmp .ne 6, 3) := by decide +kernel
theorem dX5_fitStopped_45 : decode cX5_fitStopped 45 = .ok (.iinc 1 1, 3) := by decide +kernel
theorem dX5_fitStopped_48 : decode cX5_fitStopped 48 = .ok (.iinc 2 1, 3) := by decide +kernel
theorem dX5_fitStopped_51 : decode cX5_fitStopped 51 = .ok (.goto (-47), 3) := by decide +kernel
theorem dX5_fitStopped_54 : decode cX5_fitStopped 54 = .ok (.iload_n 1, 1) := by decide +kernel
theorem dX5_fitStopped_55 : decode cX5_fitStopped 55 = .ok (.ireturn, 1) := by decide +kernel
theorem dX5_packagesThatAre_0 : decode cX5_packagesThatAre 0 = .ok (.iconst 0, 1) := by decide +kernel
theorem dX5_packagesThatAre_1 : decode cX5_packagesThatAre 1 = .ok (.istore_n 2, 1) := by decide +kernel
theorem dX5_packagesThatAre_2 : decode cX5_packagesThatAre 2 = .ok (.iconst 0, 1) := by decide +kernel
theorem dX5_packagesThatAre_3 : decode cX5_packagesThatAre 3 = .ok (.istore_n 3, 1) := by decide +kernel
theorem dX5_packagesThatAre_4 : decode cX5_packagesThatAre 4 = .ok (.iload_n 3, 1) := by decide +kernel
theorem dX5_packagesThatAre_5 : decode cX5_packagesThatAre 5 = .ok (.aload_n 0, 1) := by decide +kernel
theorem dX5_packagesThatAre_6 : decode cX5_packagesThatAre 6 = .ok (.getfield 61, 3) := by decide +kernel
theorem dX5_packagesThatAre_9 : decode cX5_packagesThatAre 9 = .ok (.if_icmp .ge 25, 3) := by decide +kernel
theorem dX5_packagesThatAre_12 : decode cX5_packagesThatAre 12 = .ok (.aload_n 0, 1) := by decide +kernel
theorem dX5_packagesThatAre_13 : decode cX5_packagesThatAre 13 = .ok (.getfield 35, 3) := by decide +kernel
theorem dX5_packagesThatAre_16 : decode cX5_packagesThatAre 16 = .ok (.iload_n 3, 1) := by decide +kernel
theorem dX5_packagesThatAre_17 : decode cX5_packagesThatAre 17 = .ok (.aaload, 1) := by decide +kernel
theorem dX5_packagesThatAre_18 : decode cX5_packagesThatAre 18 = .ok (.getfield 264, 3) := by decide +kernel
theorem dX5_packagesThatAre_21 : decode cX5_packagesThatAre 21 = .ok (.iload_n 1, 1) := by decide +kernel
theorem dX5_packagesThatAre_22 : decode cX5_packagesThatAre 22 = .ok (.if_icmp .ne 6, 3) := by decide +kernel
theorem dX5_packagesThatAre_25 : decode cX5_packagesThatAre 25 = .ok (.iinc 2 1, 3) := by decide +kernel
theorem dX5_packagesThatAre_28 : decode cX5_packagesThatAre 28 = .ok (.iinc 3 1, 3) := by decide +kernel
theorem dX5_packagesThatAre_31 : decode cX5_packagesThatAre 31 = .ok (.goto (-27), 3) := by decide +kernel
theorem dX5_packagesThatAre_34 : decode cX5_packagesThatAre 34 = .ok (.iload_n 2, 1) := by decide +kernel
theorem dX5_packagesThatAre_35 : decode cX5_packagesThatAre 35 = .ok (.ireturn, 1) := by decide +kernel
set_option maxRecDepth 20000 in
theorem ggX5_mark_X5_isIn : GoodIn wsX5_mark wsX5_isIn := goodIn_r _ [6] (by decide +kernel) (by decide +kernel)
set_option maxRecDepth 20000 in
theorem gX5_mark_X5_isIn : GoodIn wsX5_mark (va_wsS RX5 216 yX5_isIn wsX5_isIn) := goodIn_app (goodIn_of _ (by decide +kernel)) ggX5_mark_X5_isIn
theorem dX5_mark_0 : decode cX5_mark 0 = .ok (.iconst 0, 1) := by decide +kernel
theorem dX5_mark_1 : decode cX5_mark 1 = .ok (.istore_n 2, 1) := by decide +kernel
theorem dX5_mark_2 : decode cX5_mark 2 = .ok (.iload_n 2, 1) := by decide +kernel
theorem dX5_mark_3 : decode cX5_mark 3 = .ok (.aload_n 0, 1) := by decide +kernel
theorem dX5_mark_4 : decode cX5_mark 4 = .ok (.getfield 48, 3) := by decide +kernel
theorem dX5_mark_7 : decode cX5_mark 7 = .ok (.if_icmp .ge 32, 3) := by decide +kernel
theorem dX5_mark_10 : decode cX5_mark 10 = .ok (.iload_n 1, 1) := by decide +kernel
theorem dX5_mark_11 : decode cX5_mark 11 = .ok (.iload_n 2, 1) := by decide +kernel
theorem dX5_mark_12 : decode cX5_mark 12 = .ok (.invokestatic 216, 3) := by decide +kernel
theorem dX5_mark_15 : decode cX5_mark 15 = .ok (.ifCond .eq 18, 3) := by decide +kernel
theorem dX5_mark_18 : decode cX5_mark 18 = .ok (.aload_n 0, 1) := by decide +kernel
theorem dX5_mark_19 : decode cX5_mark 19 = .ok (.getfield 11, 3) := by decide +kernel
theorem dX5_mark_22 : decode cX5_mark 22 = .ok (.iload_n 2, 1) := by decide +kernel
theorem dX5_mark_23 : decode cX5_mark 23 = .ok (.aaload, 1) := by decide +kernel
theorem dX5_mark_24 : decode cX5_mark 24 = .ok (.dup, 1) := by decide +kernel
theorem dX5_mark_25 : decode cX5_mark 25 = .ok (.getfield 166, 3) := by decide +kernel
theorem dX5_mark_28 : decode cX5_mark 28 = .ok (.iconst 1, 1) := by decide +kernel
theorem dX5_mark_29 : decode cX5_mark 29 = .ok (.iadd, 1) := by decide +kernel
theorem dX5_mark_30 : decode cX5_mark 30 = .ok (.putfield 166, 3) := by decide +kernel
theorem dX5_mark_33 : decode cX5_mark 33 = .ok (.iinc 2 1, 3) := by decide +kernel
theorem dX5_mark_36 : decode cX5_mark 36 = .ok (.goto (-34), 3) := by decide +kernel
theorem dX5_mark_39 : decode cX5_mark 39 = .ok (.return_, 1) := by decide +kernel
set_option maxRecDepth 20000 in
theorem ggX6_init_Jx4a65c_init_da8c8 : GoodIn wsX6_init wsJx4a65c_init_da8c8 := goodIn_r _ [22, 23, 24, 25, 26, 27, 28, 29, 30, 31, 32, 33, 34, 2, 3, 35, 36, 37] (by decide +kernel) (by decide +kernel)
set_option maxRecDepth 20000 in
theorem gX6_init_Jx4a65c_init_da8c8 : GoodIn wsX6_init (wsJx4a65c_init_da8c8) := ggX6_init_Jx4a65c_init_da8c8
theorem dX6_init_0 : decode cX6_init 0 = .ok (.aload_n 0, 1) := by decide +kernel
theorem dX6_init_1 : decode cX6_init 1 = .ok (.invokespecial 3, 3) := by decide +kernel
theorem dX6_init_4 : decode cX6_init 4 = .ok (.aload_n 0, 1) := by decide +kernel
theorem dX6_init_5 : decode cX6_init 5 = .ok (.new 9, 3) := by decide +kernel
theorem dX6_init_8 : decode cX6_init 8 = .ok (.dup, 1) := by decide +kernel
theorem dX6_init_9 : decode cX6_init 9 = .ok (.invokespecial 11, 3) := by decide +kernel
theorem dX6_init_12 : decode cX6_init 12 = .ok (.putfield 12, 3) := by decide +kernel
theorem dX6_init_15 : decode cX6_init 15 = .ok (.aload_n 0, 1) := by decide +kernel
theorem dX6_init_16 : decode cX6_init 16 = .ok (.new 9, 3) := by decide +kernel
theorem dX6_init_19 : decode cX6_init 19 = .ok (.dup, 1) := by decide +kernel
theorem dX6_init_20 : decode cX6_init 20 = .ok (.invokespecial 11, 3) := by decide +kernel
theorem dX6_init_23 : decode cX6_init 23 = .ok (.putfield 18, 3) := by decide +kernel
theorem dX6_init_26 : decode cX6_init 26 = .ok (.aload_n 0, 1) := by decide +kernel
theorem dX6_init_27 : decode cX6_init 27 = .ok (.new 9, 3) := by decide +kernel
theorem dX6_init_30 : decode cX6_init 30 = .ok (.dup, 1) := by decide +kernel
theorem dX6_init_31 : decode cX6_init 31 = .ok (.invokespecial 11, 3) := by decide +kernel
theorem dX6_init_34 : decode cX6_init 34 = .ok (.putfield 21, 3) := by decide +kernel
theorem dX6_init_37 : decode cX6_init 37 = .ok (.aload_n 0, 1) := by decide +kernel
theorem dX6_init_38 : decode cX6_init 38 = .ok (.new 9, 3) := by decide +kernel
theorem dX6_init_41 : decode cX6_init 41 = .ok (.dup, 1) := by decide +kernel
theorem dX6_init_42 : decode cX6_init 42 = .ok (.invokespecial 11, 3) := by decide +kernel
theorem dX6_init_45 : decode cX6_init 45 = .ok (.putfield 24, 3) := by decide +kernel
theorem dX6_init_48 : decode cX6_init 48 = .ok (.aload_n 0, 1) := by decide +kernel
theorem dX6_init_49 : decode cX6_init 49 = .ok (.iconst 4, 1) := by decide +kernel
theorem dX6_init_50 : decode cX6_init 50 = .ok (.bipush 10, 2) := by decide +kernel
theorem dX6_init_52 : decode cX6_init 52 = .ok (.multianewarray 27 2, 4) := by decide +kernel
theorem dX6_init_56 : decode cX6_init 56 = .ok (.putfield 29, 3) := by decide +kernel
theorem dX6_init_59 : decode cX6_init 59 = .ok (.aload_n 0, 1) := by decide +kernel
theorem dX6_init_60 : decode cX6_init 60 = .ok (.new 9, 3) := by decide +kernel
theorem dX6_init_63 : decode cX6_init 63 = .ok (.dup, 1) := by decide +kernel
theorem dX6_init_64 : decode cX6_init 64 = .ok (.invokespecial 11, 3) := by decide +kernel
theorem dX6_init_67 : decode cX6_init 67 = .ok (.putfield 32, 3) := by decide +kernel
theorem dX6_init_70 : decode cX6_init 70 = .ok (.aload_n 0, 1) := by decide +kernel
theorem dX6_init_71 : decode cX6_init 71 = .ok (.new 9, 3) := by decide +kernel
theorem dX6_init_74 : decode cX6_init 74 = .ok (.dup, 1) := by decide +kernel
theorem dX6_init_75 : decode cX6_init 75 = .ok (.invokespecial 11, 3) := by decide +kernel
theorem dX6_init_78 : decode cX6_init 78 = .ok (.putfield 35, 3) := by decide +kernel
theorem dX6_init_81 : decode cX6_init 81 = .ok (.aload_n 0, 1) := by decide +kernel
theorem dX6_init_82 : decode cX6_init 82 = .ok (.bipush 10, 2) := by decide +kernel
theorem dX6_init_84 : decode cX6_init 84 = .ok (.bipush 10, 2) := by decide +kernel
theorem dX6_init_86 : decode cX6_init 86 = .ok (.multianewarray 38 2, 4) := by decide +kernel
theorem dX6_init_90 : decode cX6_init 90 = .ok (.putfield 40, 3) := by decide +kernel
theorem dX6_init_93 : decode cX6_init 93 = .ok (.aload_n 0, 1) := by decide +kernel
theorem dX6_init_94 : decode cX6_init 94 = .ok (.new 9, 3) := by decide +kernel
theorem dX6_init_97 : decode cX6_init 97 = .ok (.dup, 1) := by decide +kernel
theorem dX6_init_98 : decode cX6_init 98 = .ok (.invokespecial 11, 3) := by decide +kernel
theorem dX6_init_101 : decode cX6_init 101 = .ok (.putfield 43, 3) := by decide +kernel
theorem dX6_init_104 : decode cX6_init 104 = .ok (.iconst 0, 1) := by decide +kernel
theorem dX6_init_105 : decode cX6_init 105 = .ok (.istore_n 1, 1) := by decide +kernel
theorem dX6_init_106 : decode cX6_init 106 = .ok (.iload_n 1, 1) := by decide +kernel
theorem dX6_init_107 : decode cX6_init 107 = .ok (.iconst 4, 1) := by decide +kernel
theorem dX6_init_108 : decode cX6_init 108 = .ok (.if_icmp .ge 32, 3) := by decide +kernel
theorem dX6_init_111 : decode cX6_init 111 = .ok (.iconst 0, 1) := by decide +kernel
theorem dX6_init_112 : decode cX6_init 112 = .ok (.istore_n 2, 1) := by decide +kernel
theorem dX6_init_113 : decode cX6_init 113 = .ok (.iload_n 2, 1) := by decide +kernel
theorem dX6_init_114 : decode cX6_init 114 = .ok (.bipush 10, 2) := by decide +kernel
theorem dX6_init_116 : decode cX6_init 116 = .ok (.if_icmp .ge 18, 3) := by decide +kernel
theorem dX6_init_119 : decode cX6_init 119 = .ok (.aload_n 0, 1) := by decide +kernel
theorem dX6_init_120 : decode cX6_init 120 = .ok (.getfield 29, 3) := by decide +kernel
theorem dX6_init_123 : decode cX6_init 123 = .ok (.iload_n 1, 1) := by decide +kernel
theorem dX6_init_124 : decode cX6_init 124 = .ok (.aaload, 1) := by decide +kernel
theorem dX6_init_125 : decode cX6_init 125 = .ok (.iload_n 2, 1) := by decide +kernel
theorem dX6_init_126 : decode cX6_init 126 = .ok (.iconst (-1), 1) := by decide +kernel
theorem dX6_init_127 : decode cX6_init 127 = .ok (.iastore, 1) := by decide +kernel
theorem dX6_init_128 : decode cX6_init 128 = .ok (.iinc 2 1, 3) := by decide +kernel
theorem dX6_init_131 : decode cX6_init 131 = .ok (.goto (-18), 3) := by decide +kernel
theorem dX6_init_134 : decode cX6_init 134 = .ok (.iinc 1 1, 3) := by decide +kernel
theorem dX6_init_137 : decode cX6_init 137 = .ok (.goto (-31), 3) := by decide +kernel
theorem dX6_init_140 : decode cX6_init 140 = .ok (.return_, 1) := by decide +kernel
set_option maxRecDepth 20000 in
theorem ggX6_copy_X6_init : GoodIn wsX6_copy wsX6_init := goodIn_r _ [28, 29, 30, 31, 32, 33, 34, 4, 6, 7, 8, 35, 36, 15, 20, 21, 37, 38, 22, 23, 39, 40, 41, 42, 43, 44, 45, 46, 47, 48, 49, 50, 51, 52, 53, 205, 206, 207, 195, 196, 197, 198, 199, 200, 201, 202, 203, 204] (by decide +kernel) (by decide +kernel)
set_option maxRecDepth 20000 in
theorem gX6_copy_X6_init : GoodIn wsX6_copy (wsX6_init) := ggX6_copy_X6_init
set_option maxRecDepth 20000 in
theorem ggX6_copy_Jx4a65c_size_8abf5 : GoodIn wsX6_copy wsJx4a65c_size_8abf5 := goodIn_r _ [57, 58, 205, 206, 207] (by decide +kernel) (by decide +kernel)
set_option maxRecDepth 20000 in
theorem gX6_copy_Jx4a65c_size_8abf5 : GoodIn wsX6_copy (wsV RX6 47 RJx4a65c yJx4a65c_size_8abf5 wsJx4a65c_size_8abf5) := goodIn_app (goodIn_of _ (by decide +kernel)) ggX6_copy_Jx4a65c_size_8abf5
set_option maxRecDepth 20000 in
theorem ggX6_copy_Jx4a65c_get_915e3 : GoodIn wsX6_copy wsJx4a65c_get_915e3 := goodIn_r _ [62, 58, 63, 64, 65, 66, 67, 68, 69, 70, 71, 72, 73, 34, 74, 43, 205, 206, 207] (by decide +kernel) (by decide +kernel)
set_option maxRecDepth 20000 in
theorem gX6_copy_Jx4a65c_get_915e3 : GoodIn wsX6_copy (wsV RX6 51 RJx4a65c yJx4a65c_get_915e3 wsJx4a65c_get_915e3) := goodIn_app (goodIn_of _ (by decide +kernel)) ggX6_copy_Jx4a65c_get_915e3
set_option maxRecDepth 20000 in
theorem ggX6_copy_X10_copy : GoodIn wsX6_copy wsX10_copy := goodIn_r _ [79, 80, 81, 78, 82, 83, 84, 85, 86, 87, 88, 89, 30, 31, 90, 33, 34, 91, 40, 41, 42, 43, 44, 45, 46, 47, 48, 49, 50, 51, 52, 53, 92, 55, 56, 57, 58, 93, 60, 61, 62, 63, 64, 65, 66, 67, 68, 69, 70, 71, 72, 73, 74, 94, 95, 96, 97, 98, 99, 100, 101, 102, 103, 104, 105, 106, 107, 108, 109, 110, 111, 112, 113, 114, 115, 116, 117, 118, 119, 120, 121, 122, 123, 124, 125, 126, 127, 128, 129, 130, 131, 132, 133, 134, 135, 136, 137, 138, 139, 140, 141, 142, 143, 144, 145, 146, 147, 148, 149, 150, 151, 152, 153, 154, 155, 156, 17, 18, 19, 208, 209, 210, 205, 206, 207, 211, 212, 213] (by decide +kernel) (by decide +kernel)
set_option maxRecDepth 20000 in
theorem gX6_copy_X10_copy : GoodIn wsX6_copy (wsV RX6 57 RX10 yX10_copy wsX10_copy) := goodIn_app (goodIn_of _ (by decide +kernel)) ggX6_copy_X10_copy
set_option maxRecDepth 20000 in
theorem ggX6_copy_Jx4a65c_add_9ea2d : GoodIn wsX6_copy wsJx4a65c_add_9ea2d := goodIn_r _ [111, 112, 113, 43, 58, 114, 115, 116, 34, 117, 118, 119, 120, 121, 122, 123, 124, 125, 42, 126, 127, 128, 129, 130, 131, 132, 133, 134, 135, 136, 137, 138, 139, 140, 141, 142, 143, 144, 145, 146, 147, 148, 149, 150, 151, 152, 153, 154, 155, 156, 17, 18, 19, 205, 206, 207] (by decide +kernel) (by decide +kernel)
set_option maxRecDepth 20000 in
theorem gX6_copy_Jx4a65c_add_9ea2d : GoodIn wsX6_copy (wsV RX6 61 RJx4a65c yJx4a65c_add_9ea2d wsJx4a65c_add_9ea2d) := goodIn_app (goodIn_of _ (by decide +kernel)) ggX6_copy_Jx4a65c_add_9ea2d
set_option maxRecDepth 20000 in
theorem ggX6_copy_Jx4a65c_addAll_f0b43 : GoodIn wsX6_copy wsJx4a65c_addAll_f0b43 := goodIn_r _ [161, 112, 113, 43, 58, 162, 17, 18, 19, 163, 164, 165, 34, 166, 140, 141, 142, 143, 144, 145, 146, 147, 148, 149, 150, 151, 152, 153, 154, 128, 155, 156, 122, 123, 124, 125, 42, 126, 127, 129, 130, 131, 132, 133, 134, 135, 136, 137, 138, 139, 205, 206, 207] (by decide +kernel) (by decide +kernel)
set_option maxRecDepth 20000 in
theorem gX6_copy_Jx4a65c_addAll_f0b43 : GoodIn wsX6_copy (wsV RX6 65 RJx4a65c yJx4a65c_addAll_f0b43 wsJx4a65c_addAll_f0b43) := goodIn_app (goodIn_of _ (by decide +kernel)) ggX6_copy_Jx4a65c_addAll_f0b43
set_option maxRecDepth 20000 in
theorem ggX6_copy_X7_copy : GoodIn wsX6_copy wsX7_copy := goodIn_r _ [171, 172, 173, 170, 174, 175, 176, 177, 178, 179, 180, 181, 182, 183, 30, 31, 184, 185, 186, 187, 188, 189, 190, 191, 192, 193, 194, 214, 215, 216, 217, 218, 219, 220, 221, 222, 223] (by decide +kernel) (by decide +kernel)
set_option maxRecDepth 20000 in
theorem gX6_copy_X7_copy : GoodIn wsX6_copy (wsV RX6 83 RX7 yX7_copy wsX7_copy) := goodIn_app (goodIn_of _ (by decide +kernel)) ggX6_copy_X7_copy
theorem dX6_copy_0 : decode cX6_copy 0 = .ok (.new 13, 3) := by decide +kernel
theorem dX6_copy_3 : decode cX6_copy 3 = .ok (.dup, 1) := by decide +kernel
theorem dX6_copy_4 : decode cX6_copy 4 = .ok (.invokespecial 46, 3) := by decide +kernel
theorem dX6_copy_7 : decode cX6_copy 7 = .ok (.astore_n 1, 1) := by decide +kernel
theorem dX6_copy_8 : decode cX6_copy 8 = .ok (.iconst 0, 1) := by decide +kernel
theorem dX6_copy_9 : decode cX6_copy 9 = .ok (.istore_n 2, 1) := by decide +kernel
theorem dX6_copy_10 : decode cX6_copy 10 = .ok (.iload_n 2, 1) := by decide +kernel
theorem dX6_copy_11 : decode cX6_copy 11 = .ok (.aload_n 0, 1) := by decide +kernel
theorem dX6_copy_12 : decode cX6_copy 12 = .ok (.getfield 12, 3) := by decide +kernel
theorem dX6_copy_15 : decode cX6_copy 15 = .ok (.invokevirtual 47, 3) := by decide +kernel
theorem dX6_copy_18 : decode cX6_copy 18 = .ok (.if_icmp .ge 31, 3) := by decide +kernel
theorem dX6_copy_21 : decode cX6_copy 21 = .ok (.aload_n 1, 1) := by decide +kernel
theorem dX6_copy_22 : decode cX6_copy 22 = .ok (.getfield 12, 3) := by decide +kernel
theorem dX6_copy_25 : decode cX6_copy 25 = .ok (.aload_n 0, 1) := by decide +kernel
theorem dX6_copy_26 : decode cX6_copy 26 = .ok (.getfield 12, 3) := by decide +kernel
theorem dX6_copy_29 : decode cX6_copy 29 = .ok (.iload_n 2, 1) := by decide +kernel
theorem dX6_copy_30 : decode cX6_copy 30 = .ok (.invokevirtual 51, 3) := by decide +kernel
theorem dX6_copy_33 : decode cX6_copy 33 = .ok (.checkcast 55, 3) := by decide +kernel
theorem dX6_copy_36 : decode cX6_copy 36 = .ok (.invokevirtual 57, 3) := by decide +kernel
theorem dX6_copy_39 : decode cX6_copy 39 = .ok (.invokevirtual 61, 3) := by decide +kernel
theorem dX6_copy_42 : decode cX6_copy 42 = .ok (.pop, 1) := by decide +kernel
theorem dX6_copy_43 : decode cX6_copy 43 = .ok (.iinc 2 1, 3) := by decide +kernel
theorem dX6_copy_46 : decode cX6_copy 46 = .ok (.goto (-36), 3) := by decide +kernel
theorem dX6_copy_49 : decode cX6_copy 49 = .ok (.aload_n 1, 1) := by decide +kernel
theorem dX6_copy_50 : decode cX6_copy 50 = .ok (.getfield 18, 3) := by decide +kernel
theorem dX6_copy_53 : decode cX6_copy 53 = .ok (.aload_n 0, 1) := by decide +kernel
theorem dX6_copy_54 : decode cX6_copy 54 = .ok (.getfield 18, 3) := by decide +kernel
theorem dX6_copy_57 : decode cX6_copy 57 = .ok (.invokevirtual 65, 3) := by decide +kernel
theorem dX6_copy_60 : decode cX6_copy 60 = .ok (.pop, 1) := by decide +kernel
theorem dX6_copy_61 : decode cX6_copy 61 = .ok (.aload_n 1, 1) := by decide +kernel
theorem dX6_copy_62 : decode cX6_copy 62 = .ok (.getfield 21, 3) := by decide +kernel
theorem dX6_copy_65 : decode cX6_copy 65 = .ok (.aload_n 0, 1) := by decide +kernel
theorem dX6_copy_66 : decode cX6_copy 66 = .ok (.getfield 21, 3) := by decide +kernel
theorem dX6_copy_69 : decode cX6_copy 69 = .ok (.invokevirtual 65, 3) := by decide +kernel
theorem dX6_copy_72 : decode cX6_copy 72 = .ok (.pop, 1) := by decide +kernel
theorem dX6_copy_73 : decode cX6_copy 73 = .ok (.iconst 0, 1) := by decide +kernel
theorem dX6_copy_74 : decode cX6_copy 74 = .ok (.istore_n 2, 1) := by decide +kernel
theorem dX6_copy_75 : decode cX6_copy 75 = .ok (.iload_n 2, 1) := by decide +kernel
theorem dX6_copy_76 : decode cX6_copy 76 = .ok (.aload_n 0, 1) := by decide +kernel
theorem dX6_copy_77 : decode cX6_copy 77 = .ok (.getfield 24, 3) := by decide +kernel
theorem dX6_copy_80 : decode cX6_copy 80 = .ok (.invokevirtual 47, 3) := by decide +kernel
theorem dX6_copy_83 : decode cX6_copy 83 = .ok (.if_icmp .ge 34, 3) := by decide +kernel
theorem dX6_copy_86 : decode cX6_copy 86 = .ok (.aload_n 1, 1) := by decide +kernel
theorem dX6_copy_87 : decode cX6_copy 87 = .ok (.getfield 24, 3) := by decide +kernel
theorem dX6_copy_90 : decode cX6_copy 90 = .ok (.aload_n 0, 1) := by decide +kernel
theorem dX6_copy_91 : decode cX6_copy 91 = .ok (.getfield 24, 3) := by decide +kernel
theorem dX6_copy_94 : decode cX6_copy 94 = .ok (.iload_n 2, 1) := by decide +kernel
theorem dX6_copy_95 : decode cX6_copy 95 = .ok (.invokevirtual 51, 3) := by decide +kernel
theorem dX6_copy_98 : decode cX6_copy 98 = .ok (.checkcast 69, 3) := by decide +kernel
theorem dX6_copy_101 : decode cX6_copy 101 = .ok (.invokevirtual 71, 3) := by decide +kernel
theorem dX6_copy_104 : decode cX6_copy 104 = .ok (.checkcast 69, 3) := by decide +kernel
theorem dX6_copy_107 : decode cX6_copy 107 = .ok (.invokevirtual 61, 3) := by decide +kernel
theorem dX6_copy_110 : decode cX6_copy 110 = .ok (.pop, 1) := by decide +kernel
theorem dX6_copy_111 : decode cX6_copy 111 = .ok (.iinc 2 1, 3) := by decide +kernel
theorem dX6_copy_114 : decode cX6_copy 114 = .ok (.goto (-39), 3) := by decide +kernel
theorem dX6_copy_117 : decode cX6_copy 117 = .ok (.iconst 0, 1) := by decide +kernel
theorem dX6_copy_118 : decode cX6_copy 118 = .ok (.istore_n 2, 1) := by decide +kernel
theorem dX6_copy_119 : decode cX6_copy 119 = .ok (.iload_n 2, 1) := by decide +kernel
theorem dX6_copy_120 : decode cX6_copy 120 = .ok (.iconst 4, 1) := by decide +kernel
theorem dX6_copy_121 : decode cX6_copy 121 = .ok (.if_icmp .ge 28, 3) := by decide +kernel
theorem dX6_copy_124 : decode cX6_copy 124 = .ok (.aload_n 0, 1) := by decide +kernel
theorem dX6_copy_125 : decode cX6_copy 125 = .ok (.getfield 29, 3) := by decide +kernel
theorem dX6_copy_128 : decode cX6_copy 128 = .ok (.iload_n 2, 1) := by decide +kernel
theorem dX6_copy_129 : decode cX6_copy 129 = .ok (.aaload, 1) := by decide +kernel
theorem dX6_copy_130 : decode cX6_copy 130 = .ok (.iconst 0, 1) := by decide +kernel
theorem dX6_copy_131 : decode cX6_copy 131 = .ok (.aload_n 1, 1) := by decide +kernel
theorem dX6_copy_132 : decode cX6_copy 132 = .ok (.getfield 29, 3) := by decide +kernel
theorem dX6_copy_135 : decode cX6_copy 135 = .ok (.iload_n 2, 1) := by decide +kernel
theorem dX6_copy_136 : decode cX6_copy 136 = .ok (.aaload, 1) := by decide +kernel
theorem dX6_copy_137 : decode cX6_copy 137 = .ok (.iconst 0, 1) := by decide +kernel
theorem dX6_copy_138 : decode cX6_copy 138 = .ok (.bipush 10, 2) := by decide +kernel
theorem dX6_copy_140 : decode cX6_copy 140 = .ok (.invokestatic 75, 3) := by decide +kernel
theorem dX6_copy_143 : decode cX6_copy 143 = .ok (.iinc 2 1, 3) := by decide +kernel
theorem dX6_copy_146 : decode cX6_copy 146 = .ok (.goto (-27), 3) := by decide +kernel
theorem dX6_copy_149 : decode cX6_copy 149 = .ok (.aload_n 1, 1) := by decide +kernel
theorem dX6_copy_150 : decode cX6_copy 150 = .ok (.getfield 32, 3) := by decide +kernel
theorem dX6_copy_153 : decode cX6_copy 153 = .ok (.aload_n 0, 1) := by decide +kernel
theorem dX6_copy_154 : decode cX6_copy 154 = .ok (.getfield 32, 3) := by decide +kernel
theorem dX6_copy_157 : decode cX6_copy 157 = .ok (.invokevirtual 65, 3) := by decide +kernel
theorem dX6_copy_160 : decode cX6_copy 160 = .ok (.pop, 1) := by decide +kernel
theorem dX6_copy_161 : decode cX6_copy 161 = .ok (.iconst 0, 1) := by decide +kernel
theorem dX6_copy_162 : decode cX6_copy 162 = .ok (.istore_n 2, 1) := by decide +kernel
theorem dX6_copy_163 : decode cX6_copy 163 = .ok (.iload_n 2, 1) := by decide +kernel
theorem dX6_copy_164 : decode cX6_copy 164 = .ok (.aload_n 0, 1) := by decide +kernel
theorem dX6_copy_165 : decode cX6_copy 165 = .ok (.getfield 35, 3) := by decide +kernel
theorem dX6_copy_168 : decode cX6_copy 168 = .ok (.invokevirtual 47, 3) := by decide +kernel
theorem dX6_copy_171 : decode cX6_copy 171 = .ok (.if_icmp .ge 34, 3) := by decide +kernel
theorem dX6_copy_174 : decode cX6_copy 174 = .ok (.aload_n 1, 1) := by decide +kernel
theorem dX6_copy_175 : decode cX6_copy 175 = .ok (.getfield 35, 3) := by decide +kernel
theorem dX6_copy_178 : decode cX6_copy 178 = .ok (.aload_n 0, 1) := by decide +kernel
theorem dX6_copy_179 : decode cX6_copy 179 = .ok (.getfield 35, 3) := by decide +kernel
theorem dX6_copy_182 : decode cX6_copy 182 = .ok (.iload_n 2, 1) := by decide +kernel
theorem dX6_copy_183 : decode cX6_copy 183 = .ok (.invokevirtual 51, 3) := by decide +kernel
theorem dX6_copy_186 : decode cX6_copy 186 = .ok (.checkcast 69, 3) := by decide +kernel
theorem dX6_copy_189 : decode cX6_copy 189 = .ok (.invokevirtual 71, 3) := by decide +kernel
theorem dX6_copy_192 : decode cX6_copy 192 = .ok (.checkcast 69, 3) := by decide +kernel
theorem dX6_copy_195 : decode cX6_copy 195 = .ok (.invokevirtual 61, 3) := by decide +kernel
theorem dX6_copy_198 : decode cX6_copy 198 = .ok (.pop, 1) := by decide +kernel
theorem dX6_copy_199 : decode cX6_copy 199 = .ok (.iinc 2 1, 3) := by decide +kernel
theorem dX6_copy_202 : decode cX6_copy 202 = .ok (.goto (-39), 3) := by decide +kernel
theorem dX6_copy_205 : decode cX6_copy 205 = .ok (.iconst 0, 1) := by decide +kernel
theorem dX6_copy_206 : decode cX6_copy 206 = .ok (.istore_n 2, 1) := by decide +kernel
theorem dX6_copy_207 : decode cX6_copy 207 = .ok (.iload_n 2, 1) := by decide +kernel
theorem dX6_copy_208 : decode cX6_copy 208 = .ok (.bipush 10, 2) := by decide +kernel
theorem dX6_copy_210 : decode cX6_copy 210 = .ok (.if_icmp .ge 28, 3) := by decide +kernel
theorem dX6_copy_213 : decode cX6_copy 213 = .ok (.aload_n 0, 1) := by decide +kernel
theorem dX6_copy_214 : decode cX6_copy 214 = .ok (.getfield 40, 3) := by decide +kernel
theorem dX6_copy_217 : decode cX6_copy 217 = .ok (.iload_n 2, 1) := by decide +kernel
theorem dX6_copy_218 : decode cX6_copy 218 = .ok (.aaload, 1) := by decide +kernel
theorem dX6_copy_219 : decode cX6_copy 219 = .ok (.iconst 0, 1) := by decide +kernel
theorem dX6_copy_220 : decode cX6_copy 220 = .ok (.aload_n 1, 1) := by decide +kernel
theorem dX6_copy_221 : decode cX6_copy 221 = .ok (.getfield 40, 3) := by decide +kernel
theorem dX6_copy_224 : decode cX6_copy 224 = .ok (.iload_n 2, 1) := by decide +kernel
theorem dX6_copy_225 : decode cX6_copy 225 = .ok (.aaload, 1) := by decide +kernel
theorem dX6_copy_226 : decode cX6_copy 226 = .ok (.iconst 0, 1) := by decide +kernel
theorem dX6_copy_227 : decode cX6_copy 227 = .ok (.bipush 10, 2) := by decide +kernel
theorem dX6_copy_229 : decode cX6_copy 229 = .ok (.invokestatic 75, 3) := by decide +kernel
theorem dX6_copy_232 : decode cX6_copy 232 = .ok (.iinc 2 1, 3) := by decide +kernel
theorem dX6_copy_235 : decode cX6_copy 235 = .ok (.goto (-28), 3) := by decide +kernel
theorem dX6_copy_238 : decode cX6_copy 238 = .ok (.iconst 0, 1) := by decide +kernel
theorem dX6_copy_239 : decode cX6_copy 239 = .ok (.istore_n 2, 1) := by decide +kernel
theorem dX6_copy_240 : decode cX6_copy 240 = .ok (.iload_n 2, 1) := by decide +kernel
theorem dX6_copy_241 : decode cX6_copy 241 = .ok (.aload_n 0, 1) := by decide +kernel
theorem dX6_copy_242 : decode cX6_copy 242 = .ok (.getfield 43, 3) := by decide +kernel
theorem dX6_copy_245 : decode cX6_copy 245 = .ok (.invokevirtual 47, 3) := by decide +kernel
theorem dX6_copy_248 : decode cX6_copy 248 = .ok (.if_icmp .ge 31, 3) := by decide +kernel
theorem dX6_copy_251 : decode cX6_copy 251 = .ok (.aload_n 1, 1) := by decide +kernel
theorem dX6_copy_252 : decode cX6_copy 252 = .ok (.getfield 43, 3) := by decide +kernel
theorem dX6_copy_255 : decode cX6_copy 255 = .ok (.aload_n 0, 1) := by decide +kernel
theorem dX6_copy_256 : decode cX6_copy 256 = .ok (.getfield 43, 3) := by decide +kernel
theorem dX6_copy_259 : decode cX6_copy 259 = .ok (.iload_n 2, 1) := by decide +kernel
theorem dX6_copy_260 : decode cX6_copy 260 = .ok (.invokevirtual 51, 3) := by decide +kernel
theorem dX6_copy_263 : decode cX6_copy 263 = .ok (.checkcast 81, 3) := by decide +kernel
theorem dX6_copy_266 : decode cX6_copy 266 = .ok (.invokevirtual 83, 3) := by decide +kernel
theorem dX6_copy_269 : decode cX6_copy 269 = .ok (.invokevirtual 61, 3) := by decide +kernel
theorem dX6_copy_272 : decode cX6_copy 272 = .ok (.pop, 1) := by decide +kernel
theorem dX6_copy_273 : decode cX6_copy 273 = .ok (.iinc 2 1, 3) := by decide +kernel
theorem dX6_copy_276 : decode cX6_copy 276 = .ok (.goto (-36), 3) := by decide +kernel
theorem dX6_copy_279 : decode cX6_copy 279 = .ok (.aload_n 1, 1) := by decide +kernel
theorem dX6_copy_280 : decode cX6_copy 280 = .ok (.aload_n 0, 1) := by decide +kernel
theorem dX6_copy_281 : decode cX6_copy 281 = .ok (.getfield 86, 3) := by decide +kernel
theorem dX6_copy_284 : decode cX6_copy 284 = .ok (.putfield 86, 3) := by decide +kernel
theorem dX6_copy_287 : decode cX6_copy 287 = .ok (.aload_n 1, 1) := by decide +kernel
theorem dX6_copy_288 : decode cX6_copy 288 = .ok (.areturn, 1) := by decide +kernel
set_option maxRecDepth 20000 in
theorem ggX6_holds_Jx4a65c_get_915e3 : GoodIn wsX6_holds wsJx4a65c_get_915e3 := goodIn_r _ [10, 11, 12, 13, 14, 15, 16, 17, 18, 19, 20, 21, 22, 9, 23, 24, 55, 56, 57] (by decide +kernel) (by decide +kernel)
set_option maxRecDepth 20000 in
theorem gX6_holds_Jx4a65c_get_915e3 : GoodIn wsX6_holds (wsV RX6 51 RJx4a65c yJx4a65c_get_915e3 wsJx4a65c_get_915e3) := goodIn_app (goodIn_of _ (by decide +kernel)) ggX6_holds_Jx4a65c_get_915e3
set_option maxRecDepth 20000 in
theorem ggX6_holds_X10_issuedOne : GoodIn wsX6_holds wsX10_issuedOne := goodIn_r _ [29, 30, 31, 32, 33, 34, 28, 35, 36, 37, 38, 39, 9, 40, 11, 41, 7, 8, 10, 12, 13, 14, 15, 16, 17, 18, 19, 20, 21, 22, 23, 24, 58, 59, 60, 52, 53, 54, 55, 56, 57] (by decide +kernel) (by decide +kernel)
set_option maxRecDepth 20000 in
theorem gX6_holds_X10_issuedOne : GoodIn wsX6_holds (wsV RX6 90 RX10 yX10_issuedOne wsX10_issuedOne) := goodIn_app (goodIn_of _ (by decide +kernel)) ggX6_holds_X10_issuedOne
theorem dX6_holds_0 : decode cX6_holds 0 = .ok (.aload_n 0, 1) := by decide +kernel
theorem dX6_holds_1 : decode cX6_holds 1 = .ok (.getfield 18, 3) := by decide +kernel
theorem dX6_holds_4 : decode cX6_holds 4 = .ok (.iload_n 1, 1) := by decide +kernel
theorem dX6_holds_5 : decode cX6_holds 5 = .ok (.invokevirtual 51, 3) := by decide +kernel
theorem dX6_holds_8 : decode cX6_holds 8 = .ok (.checkcast 69, 3) := by decide +kernel
theorem dX6_holds_11 : decode cX6_holds 11 = .ok (.astore_n 2, 1) := by decide +kernel
theorem dX6_holds_12 : decode cX6_holds 12 = .ok (.aload_n 0, 1) := by decide +kernel
theorem dX6_holds_13 : decode cX6_holds 13 = .ok (.getfield 12, 3) := by decide +kernel
theorem dX6_holds_16 : decode cX6_holds 16 = .ok (.aload_n 2, 1) := by decide +kernel
theorem dX6_holds_17 : decode cX6_holds 17 = .ok (.iconst 1, 1) := by decide +kernel
theorem dX6_holds_18 : decode cX6_holds 18 = .ok (.iaload, 1) := by decide +kernel
theorem dX6_holds_19 : decode cX6_holds 19 = .ok (.invokevirtual 51, 3) := by decide +kernel
theorem dX6_holds_22 : decode cX6_holds 22 = .ok (.checkcast 55, 3) := by decide +kernel
theorem dX6_holds_25 : decode cX6_holds 25 = .ok (.invokevirtual 90, 3) := by decide +kernel
theorem dX6_holds_28 : decode cX6_holds 28 = .ok (.astore_n 3, 1) := by decide +kernel
theorem dX6_holds_29 : decode cX6_holds 29 = .ok (.aload_n 3, 1) := by decide +kernel
theorem dX6_holds_30 : decode cX6_holds 30 = .ok (.ifnull 21, 3) := by decide +kernel
theorem dX6_holds_33 : decode cX6_holds 33 = .ok (.aload_n 3, 1) := by decide +kernel
theorem dX6_holds_34 : decode cX6_holds 34 = .ok (.getfield 94, 3) := by decide +kernel
theorem dX6_holds_37 : decode cX6_holds 37 = .ok (.aload_n 2, 1) := by decide +kernel
theorem dX6_holds_38 : decode cX6_holds 38 = .ok (.iconst 2, 1) := by decide +kernel
theorem dX6_holds_39 : decode cX6_holds 39 = .ok (.iaload, 1) := by decide +kernel
theorem dX6_holds_40 : decode cX6_holds 40 = .ok (.ishr, 1) := by decide +kernel
theorem dX6_holds_41 : decode cX6_holds 41 = .ok (.iconst 1, 1) := by decide +kernel
theorem dX6_holds_42 : decode cX6_holds 42 = .ok (.iand, 1) := by decide +kernel
theorem dX6_holds_43 : decode cX6_holds 43 = .ok (.iconst 1, 1) := by decide +kernel
theorem dX6_holds_44 : decode cX6_holds 44 = .ok (.if_icmp .ne 7, 3) := by decide +kernel
theorem dX6_holds_47 : decode cX6_holds 47 = .ok (.iconst 1, 1) := by decide +kernel
theorem dX6_holds_48 : decode cX6_holds 48 = .ok (.goto 4, 3) := by decide +kernel
theorem dX6_holds_51 : decode cX6_holds 51 = .ok (.iconst 0, 1) := by decide +kernel
theorem dX6_holds_52 : decode cX6_holds 52 = .ok (.ireturn, 1) := by decide +kernel
set_option maxRecDepth 20000 in
theorem ggX6_broken_Jx4a65c_size_8abf5 : GoodIn wsX6_broken wsJx4a65c_size_8abf5 := goodIn_r _ [7, 8, 58, 59, 60] (by decide +kernel) (by decide +kernel)
set_option maxRecDepth 20000 in
theorem gX6_broken_Jx4a65c_size_8abf5 : GoodIn wsX6_broken (wsV RX6 47 RJx4a65c yJx4a65c_size_8abf5 wsJx4a65c_size_8abf5) := goodIn_app (goodIn_of _ (by decide +kernel)) ggX6_broken_Jx4a65c_size_8abf5
set_option maxRecDepth 20000 in
theorem ggX6_broken_Jx4a65c_get_915e3 : GoodIn wsX6_broken wsJx4a65c_get_915e3 := goodIn_r _ [12, 8, 13, 14, 15, 16, 17, 18, 19, 20, 21, 22, 23, 6, 24, 25, 58, 59, 60] (by decide +kernel) (by decide +kernel)
set_option maxRecDepth 20000 in
theorem gX6_broken_Jx4a65c_get_915e3 : GoodIn wsX6_broken (wsV RX6 51 RJx4a65c yJx4a65c_get_915e3 wsJx4a65c_get_915e3) := goodIn_app (goodIn_of _ (by decide +kernel)) ggX6_broken_Jx4a65c_get_915e3
set_option maxRecDepth 20000 in
theorem ggX6_broken_X6_holds : GoodIn wsX6_broken wsX6_holds := goodIn_r _ [30, 1, 2, 31, 32, 33, 9, 10, 11, 6, 12, 8, 13, 14, 15, 16, 17, 18, 19, 20, 21, 22, 23, 24, 25, 34, 35, 36, 37, 38, 39, 40, 41, 42, 43, 44, 45, 46, 4, 5, 7, 47, 48, 49, 50, 51, 52, 53, 54, 55, 56, 57, 61, 62, 63, 58, 59, 60, 64, 65, 66] (by decide +kernel) (by decide +kernel)
set_option maxRecDepth 20000 in
theorem gX6_broken_X6_holds : GoodIn wsX6_broken (wsV RX6 99 RX6 yX6_holds wsX6_holds) := goodIn_app (goodIn_of _ (by decide +kernel)) ggX6_broken_X6_holds
theorem dX6_broken_0 : decode cX6_broken 0 = .ok (.iconst 0, 1) := by decide +kernel
theorem dX6_broken_1 : decode cX6_broken 1 = .ok (.istore_n 3, 1) := by decide +kernel
theorem dX6_broken_2 : decode cX6_broken 2 = .ok (.iconst 0, 1) := by decide +kernel
theorem dX6_broken_3 : decode cX6_broken 3 = .ok (.istore 4, 2) := by decide +kernel
theorem dX6_broken_5 : decode cX6_broken 5 = .ok (.iload 4, 2) := by decide +kernel
theorem dX6_broken_7 : decode cX6_broken 7 = .ok (.aload_n 0, 1) := by decide +kernel
theorem dX6_broken_8 : decode cX6_broken 8 = .ok (.getfield 18, 3) := by decide +kernel
theorem dX6_broken_11 : decode cX6_broken 11 = .ok (.invokevirtual 47, 3) := by decide +kernel
theorem dX6_broken_14 : decode cX6_broken 14 = .ok (.if_icmp .ge 52, 3) := by decide +kernel
theorem dX6_broken_17 : decode cX6_broken 17 = .ok (.iload_n 3, 1) := by decide +kernel
theorem dX6_broken_18 : decode cX6_broken 18 = .ok (.aload_n 0, 1) := by decide +kernel
theorem dX6_broken_19 : decode cX6_broken 19 = .ok (.getfield 18, 3) := by decide +kernel
theorem dX6_broken_22 : decode cX6_broken 22 = .ok (.iload 4, 2) := by decide +kernel
theorem dX6_broken_24 : decode cX6_broken 24 = .ok (.invokevirtual 51, 3) := by decide +kernel
theorem dX6_broken_27 : decode cX6_broken 27 = .ok (.checkcast 69, 3) := by decide +kernel
theorem dX6_broken_30 : decode cX6_broken 30 = .ok (.iload_n 2, 1) := by decide +kernel
theorem dX6_broken_31 : decode cX6_broken 31 = .ok (.ifCond .eq 7, 3) := by decide +kernel
theorem dX6_broken_34 : decode cX6_broken 34 = .ok (.iconst 0, 1) := by decide +kernel
theorem dX6_broken_35 : decode cX6_broken 35 = .ok (.goto 4, 3) := by decide +kernel
theorem dX6_broken_38 : decode cX6_broken 38 = .ok (.iconst 1, 1) := by decide +kernel
theorem dX6_broken_39 : decode cX6_broken 39 = .ok (.iaload, 1) := by decide +kernel
theorem dX6_broken_40 : decode cX6_broken 40 = .ok (.iload_n 1, 1) := by decide +kernel
theorem dX6_broken_41 : decode cX6_broken 41 = .ok (.if_icmp .ne 16, 3) := by decide +kernel
theorem dX6_broken_44 : decode cX6_broken 44 = .ok (.aload_n 0, 1) := by decide +kernel
theorem dX6_broken_45 : decode cX6_broken 45 = .ok (.iload 4, 2) := by decide +kernel
theorem dX6_broken_47 : decode cX6_broken 47 = .ok (.invokevirtual 99, 3) := by decide +kernel
theorem dX6_broken_50 : decode cX6_broken 50 = .ok (.ifCond .ne 7, 3) := by decide +kernel
theorem dX6_broken_53 : decode cX6_broken 53 = .ok (.iconst 1, 1) := by decide +kernel
theorem dX6_broken_54 : decode cX6_broken 54 = .ok (.goto 4, 3) := by decide +kernel
theorem dX6_broken_57 : decode cX6_broken 57 = .ok (.iconst 0, 1) := by decide +kernel
theorem dX6_broken_58 : decode cX6_broken 58 = .ok (.iadd, 1) := by decide +kernel
theorem dX6_broken_59 : decode cX6_broken 59 = .ok (.istore_n 3, 1) := by decide +kernel
theorem dX6_broken_60 : decode cX6_broken 60 = .ok (.iinc 4 1, 3) := by decide +kernel
theorem dX6_broken_63 : decode cX6_broken 63 = .ok (.goto (-58), 3) := by decide +kernel
theorem dX6_broken_66 : decode cX6_broken 66 = .ok (.iload_n 3, 1) := by decide +kernel
theorem dX6_broken_67 : decode cX6_broken 67 = .ok (.ireturn, 1) := by decide +kernel
set_option maxRecDepth 20000 in
theorem ggX6_clash_Jx4a65c_get_915e3 : GoodIn wsX6_clash wsJx4a65c_get_915e3 := goodIn_r _ [13, 14, 15, 16, 17, 18, 19, 20, 21, 22, 23, 24, 25, 12, 26, 27, 88, 89, 90] (by decide +kernel) (by decide +kernel)
set_option maxRecDepth 20000 in
theorem gX6_clash_Jx4a65c_get_915e3 : GoodIn wsX6_clash (wsV RX6 51 RJx4a65c yJx4a65c_get_915e3 wsJx4a65c_get_915e3) := goodIn_app (goodIn_of _ (by decide +kernel)) ggX6_clash_Jx4a65c_get_915e3
set_option maxRecDepth 20000 in
theorem ggX6_clash_X10_issuedOne : GoodIn wsX6_clash wsX10_issuedOne := goodIn_r _ [32, 33, 34, 35, 36, 37, 31, 38, 39, 40, 41, 42, 12, 43, 14, 44, 10, 11, 13, 15, 16, 17, 18, 19, 20, 21, 22, 23, 24, 25, 26, 27, 78, 79, 80, 81, 82, 83, 88, 89, 90] (by decide +kernel) (by decide +kernel)
set_option maxRecDepth 20000 in
theorem gX6_clash_X10_issuedOne : GoodIn wsX6_clash (wsV RX6 90 RX10 yX10_issuedOne wsX10_issuedOne) := goodIn_app (goodIn_of _ (by decide +kernel)) ggX6_clash_X10_issuedOne
set_option maxRecDepth 20000 in
theorem ggX6_clash_X8_with : GoodIn wsX6_clash wsX8_with := goodIn_r _ [48, 49, 7, 8, 50, 51, 52, 53, 54, 55, 56, 57, 58, 59, 60, 61, 62, 63, 64, 65, 66, 84, 85, 86, 87] (by decide +kernel) (by decide +kernel)
set_option maxRecDepth 20000 in
theorem gX6_clash_X8_with : GoodIn wsX6_clash (wsV RX6 110 RX8 yX8_with wsX8_with) := goodIn_app (goodIn_of _ (by decide +kernel)) ggX6_clash_X8_with
set_option maxRecDepth 20000 in
theorem ggX6_clash_X8_init : GoodIn wsX6_clash wsX8_init := goodIn_r _ [63, 64, 65, 66, 50, 55, 56, 60, 84, 85, 86, 87] (by decide +kernel) (by decide +kernel)
set_option maxRecDepth 20000 in
theorem gX6_clash_X8_init : GoodIn wsX6_clash (wsX8_init) := ggX6_clash_X8_init
theorem dX6_clash_0 : decode cX6_clash 0 = .ok (.aload_n 0, 1) := by decide +kernel
theorem dX6_clash_1 : decode cX6_clash 1 = .ok (.getfield 12, 3) := by decide +kernel
theorem dX6_clash_4 : decode cX6_clash 4 = .ok (.iload_n 1, 1) := by decide +kernel
theorem dX6_clash_5 : decode cX6_clash 5 = .ok (.invokevirtual 51, 3) := by decide +kernel
theorem dX6_clash_8 : decode cX6_clash 8 = .ok (.checkcast 55, 3) := by decide +kernel
theorem dX6_clash_11 : decode cX6_clash 11 = .ok (.invokevirtual 90, 3) := by decide +kernel
theorem dX6_clash_14 : decode cX6_clash 14 = .ok (.astore_n 3, 1) := by decide +kernel
theorem dX6_clash_15 : decode cX6_clash 15 = .ok (.aload_n 0, 1) := by decide +kernel
theorem dX6_clash_16 : decode cX6_clash 16 = .ok (.getfield 12, 3) := by decide +kernel
theorem dX6_clash_19 : decode cX6_clash 19 = .ok (.iload_n 2, 1) := by decide +kernel
theorem dX6_clash_20 : decode cX6_clash 20 = .ok (.invokevirtual 51, 3) := by decide +kernel
theorem dX6_clash_23 : decode cX6_clash 23 = .ok (.checkcast 55, 3) := by decide +kernel
theorem dX6_clash_26 : decode cX6_clash 26 = .ok (.invokevirtual 90, 3) := by decide +kernel
theorem dX6_clash_29 : decode cX6_clash 29 = .ok (.astore 4, 2) := by decide +kernel
theorem dX6_clash_31 : decode cX6_clash 31 = .ok (.iload_n 1, 1) := by decide +kernel
theorem dX6_clash_32 : decode cX6_clash 32 = .ok (.iload_n 2, 1) := by decide +kernel
theorem dX6_clash_33 : decode cX6_clash 33 = .ok (.if_icmp .eq 58, 3) := by decide +kernel
theorem dX6_clash_36 : decode cX6_clash 36 = .ok (.aload_n 0, 1) := by decide +kernel
theorem dX6_clash_37 : decode cX6_clash 37 = .ok (.getfield 12, 3) := by decide +kernel
theorem dX6_clash_40 : decode cX6_clash 40 = .ok (.iload_n 1, 1) := by decide +kernel
theorem dX6_clash_41 : decode cX6_clash 41 = .ok (.invokevirtual 51, 3) := by decide +kernel
theorem dX6_clash_44 : decode cX6_clash 44 = .ok (.checkcast 55, 3) := by decide +kernel
theorem dX6_clash_47 : decode cX6_clash 47 = .ok (.getfield 103, 3) := by decide +kernel
theorem dX6_clash_50 : decode cX6_clash 50 = .ok (.aload_n 0, 1) := by decide +kernel
theorem dX6_clash_51 : decode cX6_clash 51 = .ok (.getfield 12, 3) := by decide +kernel
theorem dX6_clash_54 : decode cX6_clash 54 = .ok (.iload_n 2, 1) := by decide +kernel
theorem dX6_clash_55 : decode cX6_clash 55 = .ok (.invokevirtual 51, 3) := by decide +kernel
theorem dX6_clash_58 : decode cX6_clash 58 = .ok (.checkcast 55, 3) := by decide +kernel
theorem dX6_clash_61 : decode cX6_clash 61 = .ok (.getfield 103, 3) := by decide +kernel
theorem dX6_clash_64 : decode cX6_clash 64 = .ok (.if_icmp .eq 27, 3) := by decide +kernel
theorem dX6_clash_67 : decode cX6_clash 67 = .ok (.aload_n 0, 1) := by decide +kernel
theorem dX6_clash_68 : decode cX6_clash 68 = .ok (.getfield 40, 3) := by decide +kernel
theorem dX6_clash_71 : decode cX6_clash 71 = .ok (.iload_n 1, 1) := by decide +kernel
theorem dX6_clash_72 : decode cX6_clash 72 = .ok (.aaload, 1) := by decide +kernel
theorem dX6_clash_73 : decode cX6_clash 73 = .ok (.iload_n 2, 1) := by decide +kernel
theorem dX6_clash_74 : decode cX6_clash 74 = .ok (.baload, 1) := by decide +kernel
theorem dX6_clash_75 : decode cX6_clash 75 = .ok (.ifCond .ne 16, 3) := by decide +kernel
theorem dX6_clash_78 : decode cX6_clash 78 = .ok (.aload_n 3, 1) := by decide +kernel
theorem dX6_clash_79 : decode cX6_clash 79 = .ok (.ifnull 12, 3) := by decide +kernel
theorem dX6_clash_82 : decode cX6_clash 82 = .ok (.aload 4, 2) := by decide +kernel
theorem dX6_clash_84 : decode cX6_clash 84 = .ok (.ifnull 7, 3) := by decide +kernel
theorem dX6_clash_87 : decode cX6_clash 87 = .ok (.iconst 1, 1) := by decide +kernel
theorem dX6_clash_88 : decode cX6_clash 88 = .ok (.goto 4, 3) := by decide +kernel
theorem dX6_clash_91 : decode cX6_clash 91 = .ok (.iconst 0, 1) := by decide +kernel
theorem dX6_clash_92 : decode cX6_clash 92 = .ok (.istore 5, 2) := by decide +kernel
theorem dX6_clash_94 : decode cX6_clash 94 = .ok (.iload 5, 2) := by decide +kernel
theorem dX6_clash_96 : decode cX6_clash 96 = .ok (.ifCond .eq 18, 3) := by decide +kernel
theorem dX6_clash_99 : decode cX6_clash 99 = .ok (.aload_n 3, 1) := by decide +kernel
theorem dX6_clash_100 : decode cX6_clash 100 = .ok (.getfield 106, 3) := by decide +kernel
theorem dX6_clash_103 : decode cX6_clash 103 = .ok (.aload 4, 2) := by decide +kernel
theorem dX6_clash_105 : decode cX6_clash 105 = .ok (.getfield 106, 3) := by decide +kernel
theorem dX6_clash_108 : decode cX6_clash 108 = .ok (.invokevirtual 110, 3) := by decide +kernel
theorem dX6_clash_111 : decode cX6_clash 111 = .ok (.goto 14, 3) := by decide +kernel
theorem dX6_clash_114 : decode cX6_clash 114 = .ok (.new 111, 3) := by decide +kernel
theorem dX6_clash_117 : decode cX6_clash 117 = .ok (.dup, 1) := by decide +kernel
theorem dX6_clash_118 : decode cX6_clash 118 = .ok (.iconst 0, 1) := by decide +kernel
theorem dX6_clash_119 : decode cX6_clash 119 = .ok (.iconst 0, 1) := by decide +kernel
theorem dX6_clash_120 : decode cX6_clash 120 = .ok (.iconst (-1), 1) := by decide +kernel
theorem dX6_clash_121 : decode cX6_clash 121 = .ok (.iconst (-1), 1) := by decide +kernel
theorem dX6_clash_122 : decode cX6_clash 122 = .ok (.invokespecial 116, 3) := by decide +kernel
theorem dX6_clash_125 : decode cX6_clash 125 = .ok (.areturn, 1) := by decide +kernel
set_option maxRecDepth 20000 in
theorem ggX6_clashes_Jx4a65c_size_8abf5 : GoodIn wsX6_clashes wsJx4a65c_size_8abf5 := goodIn_r _ [6, 7, 88, 89, 90] (by decide +kernel) (by decide +kernel)
set_option maxRecDepth 20000 in
theorem gX6_clashes_Jx4a65c_size_8abf5 : GoodIn wsX6_clashes (wsV RX6 47 RJx4a65c yJx4a65c_size_8abf5 wsJx4a65c_size_8abf5) := goodIn_app (goodIn_of _ (by decide +kernel)) ggX6_clashes_Jx4a65c_size_8abf5
set_option maxRecDepth 20000 in
theorem ggX6_clashes_X6_clash : GoodIn wsX6_clashes wsX6_clash := goodIn_r _ [12, 1, 13, 14, 15, 16, 17, 18, 19, 20, 21, 22, 5, 23, 7, 24, 25, 26, 27, 28, 29, 30, 31, 32, 33, 34, 35, 36, 37, 38, 39, 40, 41, 42, 43, 44, 45, 46, 47, 48, 49, 3, 4, 6, 50, 51, 52, 53, 54, 55, 56, 57, 58, 59, 60, 61, 62, 63, 64, 65, 66, 67, 68, 69, 70, 71, 72, 73, 78, 79, 80, 81, 82, 83, 84, 85, 86, 87, 91, 92, 93, 94, 95, 96, 97, 98, 99, 100, 88, 89, 90] (by decide +kernel) (by decide +kernel)
set_option maxRecDepth 20000 in
theorem gX6_clashes_X6_clash : GoodIn wsX6_clashes (wsV RX6 119 RX6 yX6_clash wsX6_clash) := goodIn_app (goodIn_of _ (by decide +kernel)) ggX6_clashes_X6_clash
set_option maxRecDepth 20000 in
theorem ggX6_clashes_X8_fields : GoodIn wsX6_clashes wsX8_fields := goodIn_r _ [77, 62, 56, 66, 61, 97, 98, 99, 100] (by decide +kernel) (by decide +kernel)
set_option maxRecDepth 20000 in
theorem gX6_clashes_X8_fields : GoodIn wsX6_clashes (wsV RX6 123 RX8 yX8_fields wsX8_fields) := goodIn_app (goodIn_of _ (by decide +kernel)) ggX6_clashes_X8_fields
theorem dX6_clashes_0 : decode cX6_clashes 0 = .ok (.iconst 0, 1) := by decide +kernel
theorem dX6_clashes_1 : decode cX6_clashes 1 = .ok (.istore_n 2, 1) := by decide +kernel
theorem dX6_clashes_2 : decode cX6_clashes 2 = .ok (.iconst 0, 1) := by decide +kernel
theorem dX6_clashes_3 : decode cX6_clashes 3 = .ok (.istore_n 3, 1) := by decide +kernel
theorem dX6_clashes_4 : decode cX6_clashes 4 = .ok (.iload_n 3, 1) := by decide +kernel
theorem dX6_clashes_5 : decode cX6_clashes 5 = .ok (.aload_n 0, 1) := by decide +kernel
theorem dX6_clashes_6 : decode cX6_clashes 6 = .ok (.getfield 12, 3) := by decide +kernel
theorem dX6_clashes_9 : decode cX6_clashes 9 = .ok (.invokevirtual 47, 3) := by decide +kernel
theorem dX6_clashes_12 : decode cX6_clashes 12 = .ok (.if_icmp .ge 29, 3) := by decide +kernel
theorem dX6_clashes_15 : decode cX6_clashes 15 = .ok (.iload_n 2, 1) := by decide +kernel
theorem dX6_clashes_16 : decode cX6_clashes 16 = .ok (.aload_n 0, 1) := by decide +kernel
theorem dX6_clashes_17 : decode cX6_clashes 17 = .ok (.iload_n 1, 1) := by decide +kernel
theorem dX6_clashes_18 : decode cX6_clashes 18 = .ok (.iload_n 3, 1) := by decide +kernel
theorem dX6_clashes_19 : decode cX6_clashes 19 = .ok (.invokevirtual 119, 3) := by decide +kernel
theorem dX6_clashes_22 : decode cX6_clashes 22 = .ok (.invokevirtual 123, 3) := by decide +kernel
theorem dX6_clashes_25 : decode cX6_clashes 25 = .ok (.ifCond .le 7, 3) := by decide +kernel
theorem dX6_clashes_28 : decode cX6_clashes 28 = .ok (.iconst 1, 1) := by decide +kernel
theorem dX6_clashes_29 : decode cX6_clashes 29 = .ok (.goto 4, 3) := by decide +kernel
theorem dX6_clashes_32 : decode cX6_clashes 32 = .ok (.iconst 0, 1) := by decide +kernel
theorem dX6_clashes_33 : decode cX6_clashes 33 = .ok (.iadd, 1) := by decide +kernel
theorem dX6_clashes_34 : decode cX6_clashes 34 = .ok (.istore_n 2, 1) := by decide +kernel
theorem dX6_clashes_35 : decode cX6_clashes 35 = .ok (.iinc 3 1, 3) := by decide +kernel
theorem dX6_clashes_38 : decode cX6_clashes 38 = .ok (.goto (-34), 3) := by decide +kernel
theorem dX6_clashes_41 : decode cX6_clashes 41 = .ok (.iload_n 2, 1) := by decide +kernel
theorem dX6_clashes_42 : decode cX6_clashes 42 = .ok (.ireturn, 1) := by decide +kernel
set_option maxRecDepth 20000 in
theorem ggX6_clouds_Jx4a65c_size_8abf5 : GoodIn wsX6_clouds wsJx4a65c_size_8abf5 := goodIn_r _ [10, 11, 98, 99, 100] (by decide +kernel) (by decide +kernel)
set_option maxRecDepth 20000 in
theorem gX6_clouds_Jx4a65c_size_8abf5 : GoodIn wsX6_clouds (wsV RX6 47 RJx4a65c yJx4a65c_size_8abf5 wsJx4a65c_size_8abf5) := goodIn_app (goodIn_of _ (by decide +kernel)) ggX6_clouds_Jx4a65c_size_8abf5
set_option maxRecDepth 20000 in
theorem ggX6_clouds_Jx4a65c_get_915e3 : GoodIn wsX6_clouds wsJx4a65c_get_915e3 := goodIn_r _ [15, 11, 16, 17, 18, 19, 20, 21, 22, 23, 24, 25, 26, 9, 27, 28, 98, 99, 100] (by decide +kernel) (by decide +kernel)
set_option maxRecDepth 20000 in
theorem gX6_clouds_Jx4a65c_get_915e3 : GoodIn wsX6_clouds (wsV RX6 51 RJx4a65c yJx4a65c_get_915e3 wsJx4a65c_get_915e3) := goodIn_app (goodIn_of _ (by decide +kernel)) ggX6_clouds_Jx4a65c_get_915e3
set_option maxRecDepth 20000 in
theorem ggX6_clouds_X8_meets : GoodIn wsX6_clouds wsX8_meets := goodIn_r _ [33, 34, 35, 36, 32, 37, 38, 39, 40, 41, 42, 43, 44, 45, 46, 47, 48, 49, 50, 51, 52, 53, 54, 55, 56, 57, 58, 59, 60, 101, 102, 103, 104] (by decide +kernel) (by decide +kernel)
set_option maxRecDepth 20000 in
theorem gX6_clouds_X8_meets : GoodIn wsX6_clouds (wsV RX6 126 RX8 yX8_meets wsX8_meets) := goodIn_app (goodIn_of _ (by decide +kernel)) ggX6_clouds_X8_meets
set_option maxRecDepth 20000 in
theorem ggX6_clouds_X6_clash : GoodIn wsX6_clouds wsX6_clash := goodIn_r _ [65, 5, 66, 67, 68, 69, 70, 39, 32, 12, 13, 14, 9, 15, 11, 16, 17, 18, 19, 20, 21, 22, 23, 24, 25, 26, 27, 28, 71, 72, 73, 74, 75, 76, 77, 78, 79, 80, 81, 82, 83, 7, 8, 10, 84, 85, 35, 36, 37, 38, 40, 41, 42, 43, 44, 45, 46, 47, 48, 49, 50, 51, 52, 53, 54, 55, 56, 86, 88, 89, 90, 91, 92, 93, 94, 95, 96, 97, 105, 106, 107, 108, 109, 110, 101, 102, 103, 104, 98, 99, 100] (by decide +kernel) (by decide +kernel)
set_option maxRecDepth 20000 in
theorem gX6_clouds_X6_clash : GoodIn wsX6_clouds (wsV RX6 119 RX6 yX6_clash wsX6_clash) := goodIn_app (goodIn_of _ (by decide +kernel)) ggX6_clouds_X6_clash
set_option maxRecDepth 20000 in
theorem ggX6_clouds_X8_fields : GoodIn wsX6_clouds wsX8_fields := goodIn_r _ [60, 46, 40, 50, 45, 101, 102, 103, 104] (by decide +kernel) (by decide +kernel)
set_option maxRecDepth 20000 in
theorem gX6_clouds_X8_fields : GoodIn wsX6_clouds (wsV RX6 123 RX8 yX8_fields wsX8_fields) := goodIn_app (goodIn_of _ (by decide +kernel)) ggX6_clouds_X8_fields
theorem dX6_clouds_0 : decode cX6_clouds 0 = .ok (.iconst 0, 1) := by decide +kernel
theorem dX6_clouds_1 : decode cX6_clouds 1 = .ok (.istore_n 3, 1) := by decide +kernel
theorem dX6_clouds_2 : decode cX6_clouds 2 = .ok (.iconst 0, 1) := by decide +kernel
theorem dX6_clouds_3 : decode cX6_clouds 3 = .ok (.istore 4, 2) := by decide +kernel
theorem dX6_clouds_5 : decode cX6_clouds 5 = .ok (.iload 4, 2) := by decide +kernel
theorem dX6_clouds_7 : decode cX6_clouds 7 = .ok (.aload_n 0, 1) := by decide +kernel
theorem dX6_clouds_8 : decode cX6_clouds 8 = .ok (.getfield 32, 3) := by decide +kernel
theorem dX6_clouds_11 : decode cX6_clouds 11 = .ok (.invokevirtual 47, 3) := by decide +kernel
theorem dX6_clouds_14 : decode cX6_clouds 14 = .ok (.if_icmp .ge 72, 3) := by decide +kernel
theorem dX6_clouds_17 : decode cX6_clouds 17 = .ok (.iload_n 3, 1) := by decide +kernel
theorem dX6_clouds_18 : decode cX6_clouds 18 = .ok (.aload_n 0, 1) := by decide +kernel
theorem dX6_clouds_19 : decode cX6_clouds 19 = .ok (.getfield 35, 3) := by decide +kernel
theorem dX6_clouds_22 : decode cX6_clouds 22 = .ok (.iload 4, 2) := by decide +kernel
theorem dX6_clouds_24 : decode cX6_clouds 24 = .ok (.invokevirtual 51, 3) := by decide +kernel
theorem dX6_clouds_27 : decode cX6_clouds 27 = .ok (.checkcast 69, 3) := by decide +kernel
theorem dX6_clouds_30 : decode cX6_clouds 30 = .ok (.iconst 0, 1) := by decide +kernel
theorem dX6_clouds_31 : decode cX6_clouds 31 = .ok (.iaload, 1) := by decide +kernel
theorem dX6_clouds_32 : decode cX6_clouds 32 = .ok (.iload_n 1, 1) := by decide +kernel
theorem dX6_clouds_33 : decode cX6_clouds 33 = .ok (.if_icmp .ne 44, 3) := by decide +kernel
theorem dX6_clouds_36 : decode cX6_clouds 36 = .ok (.aload_n 0, 1) := by decide +kernel
theorem dX6_clouds_37 : decode cX6_clouds 37 = .ok (.getfield 35, 3) := by decide +kernel
theorem dX6_clouds_40 : decode cX6_clouds 40 = .ok (.iload 4, 2) := by decide +kernel
theorem dX6_clouds_42 : decode cX6_clouds 42 = .ok (.invokevirtual 51, 3) := by decide +kernel
theorem dX6_clouds_45 : decode cX6_clouds 45 = .ok (.checkcast 69, 3) := by decide +kernel
theorem dX6_clouds_48 : decode cX6_clouds 48 = .ok (.iconst 1, 1) := by decide +kernel
theorem dX6_clouds_49 : decode cX6_clouds 49 = .ok (.iaload, 1) := by decide +kernel
theorem dX6_clouds_50 : decode cX6_clouds 50 = .ok (.iconst 2, 1) := by decide +kernel
theorem dX6_clouds_51 : decode cX6_clouds 51 = .ok (.if_icmp .eq 26, 3) := by decide +kernel
theorem dX6_clouds_54 : decode cX6_clouds 54 = .ok (.aload_n 0, 1) := by decide +kernel
theorem dX6_clouds_55 : decode cX6_clouds 55 = .ok (.getfield 32, 3) := by decide +kernel
theorem dX6_clouds_58 : decode cX6_clouds 58 = .ok (.iload 4, 2) := by decide +kernel
theorem dX6_clouds_60 : decode cX6_clouds 60 = .ok (.invokevirtual 51, 3) := by decide +kernel
theorem dX6_clouds_63 : decode cX6_clouds 63 = .ok (.checkcast 111, 3) := by decide +kernel
theorem dX6_clouds_66 : decode cX6_clouds 66 = .ok (.aload_n 2, 1) := by decide +kernel
theorem dX6_clouds_67 : decode cX6_clouds 67 = .ok (.invokevirtual 126, 3) := by decide +kernel
theorem dX6_clouds_70 : decode cX6_clouds 70 = .ok (.ifCond .eq 7, 3) := by decide +kernel
theorem dX6_clouds_73 : decode cX6_clouds 73 = .ok (.iconst 1, 1) := by decide +kernel
theorem dX6_clouds_74 : decode cX6_clouds 74 = .ok (.goto 4, 3) := by decide +kernel
theorem dX6_clouds_77 : decode cX6_clouds 77 = .ok (.iconst 0, 1) := by decide +kernel
theorem dX6_clouds_78 : decode cX6_clouds 78 = .ok (.iadd, 1) := by decide +kernel
theorem dX6_clouds_79 : decode cX6_clouds 79 = .ok (.istore_n 3, 1) := by decide +kernel
theorem dX6_clouds_80 : decode cX6_clouds 80 = .ok (.iinc 4 1, 3) := by decide +kernel
theorem dX6_clouds_83 : decode cX6_clouds 83 = .ok (.goto (-78), 3) := by decide +kernel
theorem dX6_clouds_86 : decode cX6_clouds 86 = .ok (.iconst 0, 1) := by decide +kernel
theorem dX6_clouds_87 : decode cX6_clouds 87 = .ok (.istore 4, 2) := by decide +kernel
theorem dX6_clouds_89 : decode cX6_clouds 89 = .ok (.iload 4, 2) := by decide +kernel
theorem dX6_clouds_91 : decode cX6_clouds 91 = .ok (.aload_n 0, 1) := by decide +kernel
theorem dX6_clouds_92 : decode cX6_clouds 92 = .ok (.getfield 12, 3) := by decide +kernel
theorem dX6_clouds_95 : decode cX6_clouds 95 = .ok (.invokevirtual 47, 3) := by decide +kernel
theorem dX6_clouds_98 : decode cX6_clouds 98 = .ok (.if_icmp .ge 44, 3) := by decide +kernel
theorem dX6_clouds_101 : decode cX6_clouds 101 = .ok (.iload_n 3, 1) := by decide +kernel
theorem dX6_clouds_102 : decode cX6_clouds 102 = .ok (.aload_n 0, 1) := by decide +kernel
theorem dX6_clouds_103 : decode cX6_clouds 103 = .ok (.iload_n 1, 1) := by decide +kernel
theorem dX6_clouds_104 : decode cX6_clouds 104 = .ok (.iload 4, 2) := by decide +kernel
theorem dX6_clouds_106 : decode cX6_clouds 106 = .ok (.invokevirtual 119, 3) := by decide +kernel
theorem dX6_clouds_109 : decode cX6_clouds 109 = .ok (.invokevirtual 123, 3) := by decide +kernel
theorem dX6_clouds_112 : decode cX6_clouds 112 = .ok (.ifCond .le 21, 3) := by decide +kernel
theorem dX6_clouds_115 : decode cX6_clouds 115 = .ok (.aload_n 0, 1) := by decide +kernel
theorem dX6_clouds_116 : decode cX6_clouds 116 = .ok (.iload_n 1, 1) := by decide +kernel
theorem dX6_clouds_117 : decode cX6_clouds 117 = .ok (.iload 4, 2) := by decide +kernel
theorem dX6_clouds_119 : decode cX6_clouds 119 = .ok (.invokevirtual 119, 3) := by decide +kernel
theorem dX6_clouds_122 : decode cX6_clouds 122 = .ok (.aload_n 2, 1) := by decide +kernel
theorem dX6_clouds_123 : decode cX6_clouds 123 = .ok (.invokevirtual 126, 3) := by decide +kernel
theorem dX6_clouds_126 : decode cX6_clouds 126 = .ok (.ifCond .eq 7, 3) := by decide +kernel
theorem dX6_clouds_129 : decode cX6_clouds 129 = .ok (.iconst 1, 1) := by decide +kernel
theorem dX6_clouds_130 : decode cX6_clouds 130 = .ok (.goto 4, 3) := by decide +kernel
theorem dX6_clouds_133 : decode cX6_clouds 133 = .ok (.iconst 0, 1) := by decide +kernel
theorem dX6_clouds_134 : decode cX6_clouds 134 = .ok (.iadd, 1) := by decide +kernel
theorem dX6_clouds_135 : decode cX6_clouds 135 = .ok (.istore_n 3, 1) := by decide +kernel
theorem dX6_clouds_136 : decode cX6_clouds 136 = .ok (.iinc 4 1, 3) := by decide +kernel
theorem dX6_clouds_139 : decode cX6_clouds 139 = .ok (.goto (-50), 3) := by decide +kernel
theorem dX6_clouds_142 : decode cX6_clouds 142 = .ok (.iload_n 3, 1) := by decide +kernel
theorem dX6_clouds_143 : decode cX6_clouds 143 = .ok (.ireturn, 1) := by decide +kernel
set_option maxRecDepth 20000 in
theorem ggX6_wrong_Jx4a65c_get_915e3 : GoodIn wsX6_wrong wsJx4a65c_get_915e3 := goodIn_r _ [11, 12, 13, 14, 15, 16, 17, 18, 19, 20, 21, 22, 23, 10, 24, 25, 126, 127, 128] (by decide +kernel) (by decide +kernel)
set_option maxRecDepth 20000 in
theorem gX6_wrong_Jx4a65c_get_915e3 : GoodIn wsX6_wrong (wsV RX6 51 RJx4a65c yJx4a65c_get_915e3 wsJx4a65c_get_915e3) := goodIn_app (goodIn_of _ (by decide +kernel)) ggX6_wrong_Jx4a65c_get_915e3
set_option maxRecDepth 20000 in
theorem ggX6_wrong_X10_issued : GoodIn wsX6_wrong wsX10_issued := goodIn_r _ [30, 31, 32, 33, 34, 35, 36, 10, 37, 12, 38, 8, 9, 11, 13, 14, 15, 16, 17, 18, 19, 20, 21, 22, 23, 24, 25, 123, 124, 125, 129, 130, 131, 126, 127, 128] (by decide +kernel) (by decide +kernel)
set_option maxRecDepth 20000 in
theorem gX6_wrong_X10_issued : GoodIn wsX6_wrong (wsV RX6 130 RX10 yX10_issued wsX10_issued) := goodIn_app (goodIn_of _ (by decide +kernel)) ggX6_wrong_X10_issued
set_option maxRecDepth 20000 in
theorem ggX6_wrong_X6_broken : GoodIn wsX6_wrong wsX6_broken := goodIn_r _ [43, 44, 45, 46, 35, 36, 10, 37, 12, 7, 8, 9, 11, 13, 14, 15, 16, 17, 18, 19, 20, 21, 22, 23, 24, 25, 47, 48, 49, 42, 50, 1, 2, 51, 52, 53, 54, 29, 55, 31, 32, 56, 27, 28, 30, 33, 34, 38, 107, 108, 109, 110, 111, 112, 113, 114, 115, 116, 126, 127, 128, 129, 130, 131, 123, 124, 125] (by decide +kernel) (by decide +kernel)
set_option maxRecDepth 20000 in
theorem gX6_wrong_X6_broken : GoodIn wsX6_wrong (wsV RX6 136 RX6 yX6_broken wsX6_broken) := goodIn_app (goodIn_of _ (by decide +kernel)) ggX6_wrong_X6_broken
set_option maxRecDepth 20000 in
theorem ggX6_wrong_X6_clouds : GoodIn wsX6_wrong wsX6_clouds := goodIn_r _ [60, 61, 62, 45, 63, 1, 46, 35, 36, 10, 37, 12, 7, 8, 9, 11, 13, 14, 15, 16, 17, 18, 19, 20, 21, 22, 23, 24, 25, 64, 65, 66, 67, 68, 69, 70, 71, 72, 73, 74, 75, 76, 77, 78, 79, 80, 81, 82, 83, 84, 85, 86, 87, 88, 89, 90, 91, 92, 93, 94, 95, 96, 97, 98, 42, 99, 2, 100, 101, 102, 103, 52, 53, 54, 29, 55, 31, 32, 56, 27, 28, 30, 33, 34, 38, 104, 105, 106, 107, 108, 109, 110, 111, 112, 113, 114, 115, 116, 126, 127, 128, 132, 133, 134, 135, 123, 124, 125, 129, 130, 131] (by decide +kernel) (by decide +kernel)
set_option maxRecDepth 20000 in
theorem gX6_wrong_X6_clouds : GoodIn wsX6_wrong (wsV RX6 141 RX6 yX6_clouds wsX6_clouds) := goodIn_app (goodIn_of _ (by decide +kernel)) ggX6_wrong_X6_clouds
theorem dX6_wrong_0 : decode cX6_wrong 0 = .ok (.aload_n 0, 1) := by decide +kernel
theorem dX6_wrong_1 : decode cX6_wrong 1 = .ok (.getfield 12, 3) := by decide +kernel
theorem dX6_wrong_4 : decode cX6_wrong 4 = .ok (.iload_n 1, 1) := by decide +kernel
theorem dX6_wrong_5 : decode cX6_wrong 5 = .ok (.invokevirtual 51, 3) := by decide +kernel
theorem dX6_wrong_8 : decode cX6_wrong 8 = .ok (.checkcast 55, 3) := by decide +kernel
theorem dX6_wrong_11 : decode cX6_wrong 11 = .ok (.astore_n 3, 1) := by decide +kernel
theorem dX6_wrong_12 : decode cX6_wrong 12 = .ok (.aload_n 3, 1) := by decide +kernel
theorem dX6_wrong_13 : decode cX6_wrong 13 = .ok (.invokevirtual 130, 3) := by decide +kernel
theorem dX6_wrong_16 : decode cX6_wrong 16 = .ok (.iconst (-1), 1) := by decide +kernel
theorem dX6_wrong_17 : decode cX6_wrong 17 = .ok (.if_icmp .ne 5, 3) := by decide +kernel
theorem dX6_wrong_20 : decode cX6_wrong 20 = .ok (.iconst 1, 1) := by decide +kernel
theorem dX6_wrong_21 : decode cX6_wrong 21 = .ok (.ireturn, 1) := by decide +kernel
theorem dX6_wrong_22 : decode cX6_wrong 22 = .ok (.aload_n 0, 1) := by decide +kernel
theorem dX6_wrong_23 : decode cX6_wrong 23 = .ok (.getfield 29, 3) := by decide +kernel
theorem dX6_wrong_26 : decode cX6_wrong 26 = .ok (.aload_n 2, 1) := by decide +kernel
theorem dX6_wrong_27 : decode cX6_wrong 27 = .ok (.getfield 133, 3) := by decide +kernel
theorem dX6_wrong_30 : decode cX6_wrong 30 = .ok (.aaload, 1) := by decide +kernel
theorem dX6_wrong_31 : decode cX6_wrong 31 = .ok (.iload_n 1, 1) := by decide +kernel
theorem dX6_wrong_32 : decode cX6_wrong 32 = .ok (.iaload, 1) := by decide +kernel
theorem dX6_wrong_33 : decode cX6_wrong 33 = .ok (.aload_n 3, 1) := by decide +kernel
theorem dX6_wrong_34 : decode cX6_wrong 34 = .ok (.invokevirtual 130, 3) := by decide +kernel
theorem dX6_wrong_37 : decode cX6_wrong 37 = .ok (.if_icmp .eq 5, 3) := by decide +kernel
theorem dX6_wrong_40 : decode cX6_wrong 40 = .ok (.iconst 2, 1) := by decide +kernel
theorem dX6_wrong_41 : decode cX6_wrong 41 = .ok (.ireturn, 1) := by decide +kernel
theorem dX6_wrong_42 : decode cX6_wrong 42 = .ok (.aload_n 0, 1) := by decide +kernel
theorem dX6_wrong_43 : decode cX6_wrong 43 = .ok (.iload_n 1, 1) := by decide +kernel
theorem dX6_wrong_44 : decode cX6_wrong 44 = .ok (.iconst 1, 1) := by decide +kernel
theorem dX6_wrong_45 : decode cX6_wrong 45 = .ok (.invokevirtual 136, 3) := by decide +kernel
theorem dX6_wrong_48 : decode cX6_wrong 48 = .ok (.ifCond .le 5, 3) := by decide +kernel
theorem dX6_wrong_51 : decode cX6_wrong 51 = .ok (.iconst 3, 1) := by decide +kernel
theorem dX6_wrong_52 : decode cX6_wrong 52 = .ok (.ireturn, 1) := by decide +kernel
theorem dX6_wrong_53 : decode cX6_wrong 53 = .ok (.aload_n 0, 1) := by decide +kernel
theorem dX6_wrong_54 : decode cX6_wrong 54 = .ok (.iload_n 1, 1) := by decide +kernel
theorem dX6_wrong_55 : decode cX6_wrong 55 = .ok (.aload_n 2, 1) := by decide +kernel
theorem dX6_wrong_56 : decode cX6_wrong 56 = .ok (.getfield 140, 3) := by decide +kernel
theorem dX6_wrong_59 : decode cX6_wrong 59 = .ok (.invokevirtual 141, 3) := by decide +kernel
theorem dX6_wrong_62 : decode cX6_wrong 62 = .ok (.ifCond .le 5, 3) := by decide +kernel
theorem dX6_wrong_65 : decode cX6_wrong 65 = .ok (.iconst 4, 1) := by decide +kernel
theorem dX6_wrong_66 : decode cX6_wrong 66 = .ok (.ireturn, 1) := by decide +kernel
theorem dX6_wrong_67 : decode cX6_wrong 67 = .ok (.aload_n 3, 1) := by decide +kernel
theorem dX6_wrong_68 : decode cX6_wrong 68 = .ok (.getfield 145, 3) := by decide +kernel
theorem dX6_wrong_71 : decode cX6_wrong 71 = .ok (.iconst 3, 1) := by decide +kernel
theorem dX6_wrong_72 : decode cX6_wrong 72 = .ok (.if_icmp .lt 7, 3) := by decide +kernel
theorem dX6_wrong_75 : decode cX6_wrong 75 = .ok (.iconst 5, 1) := by decide +kernel
theorem dX6_wrong_76 : decode cX6_wrong 76 = .ok (.goto 4, 3) := by decide +kernel
theorem dX6_wrong_79 : decode cX6_wrong 79 = .ok (.iconst 0, 1) := by decide +kernel
theorem dX6_wrong_80 : decode cX6_wrong 80 = .ok (.ireturn, 1) := by decide +kernel
set_option maxRecDepth 20000 in
theorem ggX6_firstWrong_Jx4a65c_size_8abf5 : GoodIn wsX6_firstWrong wsJx4a65c_size_8abf5 := goodIn_r _ [6, 7, 127, 128, 129] (by decide +kernel) (by decide +kernel)
set_option maxRecDepth 20000 in
theorem gX6_firstWrong_Jx4a65c_size_8abf5 : GoodIn wsX6_firstWrong (wsV RX6 47 RJx4a65c yJx4a65c_size_8abf5 wsJx4a65c_size_8abf5) := goodIn_app (goodIn_of _ (by decide +kernel)) ggX6_firstWrong_Jx4a65c_size_8abf5
set_option maxRecDepth 20000 in
theorem ggX6_firstWrong_X7_needs : GoodIn wsX6_firstWrong wsX7_needs := goodIn_r _ [12, 13, 130, 131, 132, 133, 134, 135] (by decide +kernel) (by decide +kernel)
set_option maxRecDepth 20000 in
theorem gX6_firstWrong_X7_needs : GoodIn wsX6_firstWrong (wsV RX6 148 RX7 yX7_needs wsX7_needs) := goodIn_app (goodIn_of _ (by decide +kernel)) ggX6_firstWrong_X7_needs
set_option maxRecDepth 20000 in
theorem ggX6_firstWrong_X6_wrong : GoodIn wsX6_firstWrong wsX6_wrong := goodIn_r _ [18, 1, 19, 20, 21, 22, 23, 24, 25, 26, 5, 27, 7, 28, 29, 30, 31, 32, 33, 34, 35, 36, 37, 38, 39, 40, 41, 42, 43, 44, 45, 46, 47, 48, 49, 3, 4, 6, 50, 51, 52, 53, 17, 54, 55, 56, 2, 57, 58, 59, 60, 61, 62, 63, 64, 65, 66, 67, 68, 69, 70, 71, 72, 73, 74, 75, 76, 77, 78, 79, 80, 81, 82, 83, 84, 85, 86, 87, 88, 89, 90, 91, 92, 93, 94, 95, 96, 97, 98, 99, 100, 101, 102, 103, 104, 105, 106, 107, 108, 109, 110, 111, 112, 113, 114, 115, 116, 117, 118, 119, 120, 121, 122, 123, 124, 125, 126, 130, 131, 132, 133, 134, 135, 136, 137, 138, 127, 128, 129, 139, 140, 141, 142, 143, 144, 145] (by decide +kernel) (by decide +kernel)
set_option maxRecDepth 20000 in
theorem gX6_firstWrong_X6_wrong : GoodIn wsX6_firstWrong (wsV RX6 151 RX6 yX6_wrong wsX6_wrong) := goodIn_app (goodIn_of _ (by decide +kernel)) ggX6_firstWrong_X6_wrong
theorem dX6_firstWrong_0 : decode cX6_firstWrong 0 = .ok (.iconst 0, 1) := by decide +kernel
theorem dX6_firstWrong_1 : decode cX6_firstWrong 1 = .ok (.istore_n 2, 1) := by decide +kernel
theorem dX6_firstWrong_2 : decode cX6_firstWrong 2 = .ok (.iload_n 2, 1) := by decide +kernel
theorem dX6_firstWrong_3 : decode cX6_firstWrong 3 = .ok (.aload_n 0, 1) := by decide +kernel
theorem dX6_firstWrong_4 : decode cX6_firstWrong 4 = .ok (.getfield 12, 3) := by decide +kernel
theorem dX6_firstWrong_7 : decode cX6_firstWrong 7 = .ok (.invokevirtual 47, 3) := by decide +kernel
theorem dX6_firstWrong_10 : decode cX6_firstWrong 10 = .ok (.if_icmp .ge 28, 3) := by decide +kernel
theorem dX6_firstWrong_13 : decode cX6_firstWrong 13 = .ok (.aload_n 1, 1) := by decide +kernel
theorem dX6_firstWrong_14 : decode cX6_firstWrong 14 = .ok (.iload_n 2, 1) := by decide +kernel
theorem dX6_firstWrong_15 : decode cX6_firstWrong 15 = .ok (.invokevirtual 148, 3) := by decide +kernel
theorem dX6_firstWrong_18 : decode cX6_firstWrong 18 = .ok (.ifCond .eq 14, 3) := by decide +kernel
theorem dX6_firstWrong_21 : decode cX6_firstWrong 21 = .ok (.aload_n 0, 1) := by decide +kernel
theorem dX6_firstWrong_22 : decode cX6_firstWrong 22 = .ok (.iload_n 2, 1) := by decide +kernel
theorem dX6_firstWrong_23 : decode cX6_firstWrong 23 = .ok (.aload_n 1, 1) := by decide +kernel
theorem dX6_firstWrong_24 : decode cX6_firstWrong 24 = .ok (.invokevirtual 151, 3) := by decide +kernel
theorem dX6_firstWrong_27 : decode cX6_firstWrong 27 = .ok (.ifCond .le 5, 3) := by decide +kernel
theorem dX6_firstWrong_30 : decode cX6_firstWrong 30 = .ok (.iload_n 2, 1) := by decide +kernel
theorem dX6_firstWrong_31 : decode cX6_firstWrong 31 = .ok (.ireturn, 1) := by decide +kernel
theorem dX6_firstWrong_32 : decode cX6_firstWrong 32 = .ok (.iinc 2 1, 3) := by decide +kernel
theorem dX6_firstWrong_35 : decode cX6_firstWrong 35 = .ok (.goto (-33), 3) := by decide +kernel
theorem dX6_firstWrong_38 : decode cX6_firstWrong 38 = .ok (.iconst (-1), 1) := by decide +kernel
theorem dX6_firstWrong_39 : decode cX6_firstWrong 39 = .ok (.ireturn, 1) := by decide +kernel
set_option maxRecDepth 20000 in
theorem ggX6_canRun_X7_isIdle : GoodIn wsX6_canRun wsX7_isIdle := goodIn_r _ [5, 6, 126, 127, 128, 129, 130, 131] (by decide +kernel) (by decide +kernel)
set_option maxRecDepth 20000 in
theorem gX6_canRun_X7_isIdle : GoodIn wsX6_canRun (wsV RX6 155 RX7 yX7_isIdle wsX7_isIdle) := goodIn_app (goodIn_of _ (by decide +kernel)) ggX6_canRun_X7_isIdle
set_option maxRecDepth 20000 in
theorem ggX6_canRun_X6_firstWrong : GoodIn wsX6_canRun wsX6_firstWrong := goodIn_r _ [11, 12, 13, 14, 15, 16, 17, 18, 19, 20, 21, 4, 22, 23, 24, 25, 26, 10, 27, 28, 29, 30, 31, 32, 33, 34, 35, 36, 37, 38, 39, 40, 41, 42, 43, 44, 45, 46, 47, 48, 49, 50, 51, 52, 53, 54, 55, 56, 57, 58, 59, 60, 61, 62, 63, 64, 65, 66, 67, 68, 69, 70, 71, 72, 73, 74, 75, 76, 77, 78, 79, 80, 81, 82, 83, 84, 85, 86, 87, 88, 89, 90, 91, 92, 93, 94, 95, 96, 97, 98, 99, 100, 101, 102, 103, 104, 105, 106, 107, 108, 109, 110, 111, 112, 113, 114, 115, 116, 117, 118, 119, 120, 121, 122, 123, 124, 125, 132, 133, 134, 135, 136, 137, 138, 139, 140, 141, 142, 143, 144, 126, 127, 128, 129, 130, 131, 145, 146, 147, 148, 149, 150, 151, 152, 153, 154] (by decide +kernel) (by decide +kernel)
set_option maxRecDepth 20000 in
theorem gX6_canRun_X6_firstWrong : GoodIn wsX6_canRun (wsV RX6 159 RX6 yX6_firstWrong wsX6_firstWrong) := goodIn_app (goodIn_of _ (by decide +kernel)) ggX6_canRun_X6_firstWrong
theorem dX6_canRun_0 : decode cX6_canRun 0 = .ok (.aload_n 1, 1) := by decide +kernel
theorem dX6_canRun_1 : decode cX6_canRun 1 = .ok (.invokevirtual 155, 3) := by decide +kernel
theorem dX6_canRun_4 : decode cX6_canRun 4 = .ok (.ifCond .eq 16, 3) := by decide +kernel
theorem dX6_canRun_7 : decode cX6_canRun 7 = .ok (.aload_n 0, 1) := by decide +kernel
theorem dX6_canRun_8 : decode cX6_canRun 8 = .ok (.aload_n 1, 1) := by decide +kernel
theorem dX6_canRun_9 : decode cX6_canRun 9 = .ok (.invokevirtual 159, 3) := by decide +kernel
theorem dX6_canRun_12 : decode cX6_canRun 12 = .ok (.iconst (-1), 1) := by decide +kernel
theorem dX6_canRun_13 : decode cX6_canRun 13 = .ok (.if_icmp .ne 7, 3) := by decide +kernel
theorem dX6_canRun_16 : decode cX6_canRun 16 = .ok (.iconst 1, 1) := by decide +kernel
theorem dX6_canRun_17 : decode cX6_canRun 17 = .ok (.goto 4, 3) := by decide +kernel
theorem dX6_canRun_20 : decode cX6_canRun 20 = .ok (.iconst 0, 1) := by decide +kernel
theorem dX6_canRun_21 : decode cX6_canRun 21 = .ok (.ireturn, 1) := by decide +kernel
set_option maxRecDepth 20000 in
theorem ggX6_settle_Jx4a65c_size_8abf5 : GoodIn wsX6_settle wsJx4a65c_size_8abf5 := goodIn_r _ [9, 10, 141, 142, 143] (by decide +kernel) (by decide +kernel)
set_option maxRecDepth 20000 in
theorem gX6_settle_Jx4a65c_size_8abf5 : GoodIn wsX6_settle (wsV RX6 47 RJx4a65c yJx4a65c_size_8abf5 wsJx4a65c_size_8abf5) := goodIn_app (goodIn_of _ (by decide +kernel)) ggX6_settle_Jx4a65c_size_8abf5
set_option maxRecDepth 20000 in
theorem ggX6_settle_Jx4a65c_get_915e3 : GoodIn wsX6_settle wsJx4a65c_get_915e3 := goodIn_r _ [14, 10, 15, 16, 17, 18, 19, 20, 21, 22, 23, 24, 25, 8, 26, 27, 141, 142, 143] (by decide +kernel) (by decide +kernel)
set_option maxRecDepth 20000 in
theorem gX6_settle_Jx4a65c_get_915e3 : GoodIn wsX6_settle (wsV RX6 51 RJx4a65c yJx4a65c_get_915e3 wsJx4a65c_get_915e3) := goodIn_app (goodIn_of _ (by decide +kernel)) ggX6_settle_Jx4a65c_get_915e3
set_option maxRecDepth 20000 in
theorem ggX6_settle_X6_firstWrong : GoodIn wsX6_settle wsX6_firstWrong := goodIn_r _ [32, 33, 5, 6, 7, 8, 9, 10, 34, 35, 36, 37, 38, 39, 40, 41, 42, 31, 43, 44, 45, 46, 47, 48, 11, 12, 13, 14, 15, 16, 17, 18, 19, 20, 21, 22, 23, 24, 25, 26, 27, 49, 50, 51, 52, 53, 54, 55, 56, 57, 58, 59, 60, 61, 62, 63, 64, 65, 66, 67, 68, 69, 70, 71, 72, 73, 74, 75, 76, 77, 78, 79, 80, 81, 82, 83, 84, 85, 86, 87, 88, 89, 90, 91, 92, 93, 94, 95, 96, 97, 98, 99, 100, 101, 102, 103, 104, 105, 106, 107, 108, 109, 110, 111, 112, 113, 114, 115, 116, 117, 118, 119, 120, 121, 122, 123, 124, 125, 126, 127, 128, 129, 130, 131, 132, 133, 134, 141, 142, 143, 135, 136, 137, 138, 139, 140, 144, 145, 146, 147, 148, 149, 150, 151, 152, 153] (by decide +kernel) (by decide +kernel)
set_option maxRecDepth 20000 in
theorem gX6_settle_X6_firstWrong : GoodIn wsX6_settle (wsV RX6 159 RX6 yX6_firstWrong wsX6_firstWrong) := goodIn_app (goodIn_of _ (by decide +kernel)) ggX6_settle_X6_firstWrong
theorem dX6_settle_0 : decode cX6_settle 0 = .ok (.iconst 0, 1) := by decide +kernel
theorem dX6_settle_1 : decode cX6_settle 1 = .ok (.istore_n 1, 1) := by decide +kernel
theorem dX6_settle_2 : decode cX6_settle 2 = .ok (.iconst 0, 1) := by decide +kernel
theorem dX6_settle_3 : decode cX6_settle 3 = .ok (.istore_n 2, 1) := by decide +kernel
theorem dX6_settle_4 : decode cX6_settle 4 = .ok (.iload_n 2, 1) := by decide +kernel
theorem dX6_settle_5 : decode cX6_settle 5 = .ok (.aload_n 0, 1) := by decide +kernel
theorem dX6_settle_6 : decode cX6_settle 6 = .ok (.getfield 43, 3) := by decide +kernel
theorem dX6_settle_9 : decode cX6_settle 9 = .ok (.invokevirtual 47, 3) := by decide +kernel
theorem dX6_settle_12 : decode cX6_settle 12 = .ok (.if_icmp .ge 59, 3) := by decide +kernel
theorem dX6_settle_15 : decode cX6_settle 15 = .ok (.aload_n 0, 1) := by decide +kernel
theorem dX6_settle_16 : decode cX6_settle 16 = .ok (.getfield 43, 3) := by decide +kernel
theorem dX6_settle_19 : decode cX6_settle 19 = .ok (.iload_n 2, 1) := by decide +kernel
theorem dX6_settle_20 : decode cX6_settle 20 = .ok (.invokevirtual 51, 3) := by decide +kernel
theorem dX6_settle_23 : decode cX6_settle 23 = .ok (.checkcast 81, 3) := by decide +kernel
theorem dX6_settle_26 : decode cX6_settle 26 = .ok (.astore_n 3, 1) := by decide +kernel
theorem dX6_settle_27 : decode cX6_settle 27 = .ok (.aload_n 3, 1) := by decide +kernel
theorem dX6_settle_28 : decode cX6_settle 28 = .ok (.getfield 163, 3) := by decide +kernel
theorem dX6_settle_31 : decode cX6_settle 31 = .ok (.iconst 1, 1) := by decide +kernel
theorem dX6_settle_32 : decode cX6_settle 32 = .ok (.if_icmp .ne 33, 3) := by decide +kernel
theorem dX6_settle_35 : decode cX6_settle 35 = .ok (.aload_n 0, 1) := by decide +kernel
theorem dX6_settle_36 : decode cX6_settle 36 = .ok (.aload_n 3, 1) := by decide +kernel
theorem dX6_settle_37 : decode cX6_settle 37 = .ok (.invokevirtual 159, 3) := by decide +kernel
theorem dX6_settle_40 : decode cX6_settle 40 = .ok (.iconst (-1), 1) := by decide +kernel
theorem dX6_settle_41 : decode cX6_settle 41 = .ok (.if_icmp .ne 6, 3) := by decide +kernel
theorem dX6_settle_44 : decode cX6_settle 44 = .ok (.goto 21, 3) := by decide +kernel
theorem dX6_settle_47 : decode cX6_settle 47 = .ok (.aload_n 3, 1) := by decide +kernel
theorem dX6_settle_48 : decode cX6_settle 48 = .ok (.iconst 2, 1) := by decide +kernel
theorem dX6_settle_49 : decode cX6_settle 49 = .ok (.putfield 163, 3) := by decide +kernel
theorem dX6_settle_52 : decode cX6_settle 52 = .ok (.aload_n 3, 1) := by decide +kernel
theorem dX6_settle_53 : decode cX6_settle 53 = .ok (.dup, 1) := by decide +kernel
theorem dX6_settle_54 : decode cX6_settle 54 = .ok (.getfield 166, 3) := by decide +kernel
theorem dX6_settle_57 : decode cX6_settle 57 = .ok (.iconst 1, 1) := by decide +kernel
theorem dX6_settle_58 : decode cX6_settle 58 = .ok (.iadd, 1) := by decide +kernel
theorem dX6_settle_59 : decode cX6_settle 59 = .ok (.putfield 166, 3) := by decide +kernel
theorem dX6_settle_62 : decode cX6_settle 62 = .ok (.iinc 1 1, 3) := by decide +kernel
theorem dX6_settle_65 : decode cX6_settle 65 = .ok (.iinc 2 1, 3) := by decide +kernel
theorem dX6_settle_68 : decode cX6_settle 68 = .ok (.goto (-64), 3) := by decide +kernel
theorem dX6_settle_71 : decode cX6_settle 71 = .ok (.iload_n 1, 1) := by decide +kernel
theorem dX6_settle_72 : decode cX6_settle 72 = .ok (.ireturn, 1) := by decide +kernel
set_option maxRecDepth 20000 in
theorem ggX6_canIssue_Jx4a65c_get_915e3 : GoodIn wsX6_canIssue wsJx4a65c_get_915e3 := goodIn_r _ [8, 9, 10, 11, 12, 13, 14, 15, 16, 17, 18, 19, 20, 7, 21, 22, 70, 71, 72] (by decide +kernel) (by decide +kernel)
set_option maxRecDepth 20000 in
theorem gX6_canIssue_Jx4a65c_get_915e3 : GoodIn wsX6_canIssue (wsV RX6 51 RJx4a65c yJx4a65c_get_915e3 wsJx4a65c_get_915e3) := goodIn_app (goodIn_of _ (by decide +kernel)) ggX6_canIssue_Jx4a65c_get_915e3
set_option maxRecDepth 20000 in
theorem ggX6_canIssue_X10_last : GoodIn wsX6_canIssue wsX10_last := goodIn_r _ [27, 28, 29, 30, 31, 32, 7, 33, 9, 34, 5, 6, 8, 10, 11, 12, 13, 14, 15, 16, 17, 18, 19, 20, 21, 22, 73, 74, 75, 70, 71, 72] (by decide +kernel) (by decide +kernel)
set_option maxRecDepth 20000 in
theorem gX6_canIssue_X10_last : GoodIn wsX6_canIssue (wsV RX6 169 RX10 yX10_last wsX10_last) := goodIn_app (goodIn_of _ (by decide +kernel)) ggX6_canIssue_X10_last
set_option maxRecDepth 20000 in
theorem ggX6_canIssue_X6_broken : GoodIn wsX6_canIssue wsX6_broken := goodIn_r _ [39, 40, 41, 42, 31, 32, 7, 33, 9, 4, 5, 6, 8, 10, 11, 12, 13, 14, 15, 16, 17, 18, 19, 20, 21, 22, 43, 44, 45, 38, 46, 1, 2, 47, 48, 49, 50, 26, 51, 28, 29, 52, 53, 54, 55, 56, 30, 34, 57, 58, 59, 60, 61, 62, 63, 64, 65, 66, 70, 71, 72, 67, 68, 69, 73, 74, 75] (by decide +kernel) (by decide +kernel)
set_option maxRecDepth 20000 in
theorem gX6_canIssue_X6_broken : GoodIn wsX6_canIssue (wsV RX6 136 RX6 yX6_broken wsX6_broken) := goodIn_app (goodIn_of _ (by decide +kernel)) ggX6_canIssue_X6_broken
theorem dX6_canIssue_0 : decode cX6_canIssue 0 = .ok (.aload_n 0, 1) := by decide +kernel
theorem dX6_canIssue_1 : decode cX6_canIssue 1 = .ok (.getfield 12, 3) := by decide +kernel
theorem dX6_canIssue_4 : decode cX6_canIssue 4 = .ok (.iload_n 1, 1) := by decide +kernel
theorem dX6_canIssue_5 : decode cX6_canIssue 5 = .ok (.invokevirtual 51, 3) := by decide +kernel
theorem dX6_canIssue_8 : decode cX6_canIssue 8 = .ok (.checkcast 55, 3) := by decide +kernel
theorem dX6_canIssue_11 : decode cX6_canIssue 11 = .ok (.invokevirtual 169, 3) := by decide +kernel
theorem dX6_canIssue_14 : decode cX6_canIssue 14 = .ok (.getfield 172, 3) := by decide +kernel
theorem dX6_canIssue_17 : decode cX6_canIssue 17 = .ok (.iconst 1, 1) := by decide +kernel
theorem dX6_canIssue_18 : decode cX6_canIssue 18 = .ok (.if_icmp .ne 16, 3) := by decide +kernel
theorem dX6_canIssue_21 : decode cX6_canIssue 21 = .ok (.aload_n 0, 1) := by decide +kernel
theorem dX6_canIssue_22 : decode cX6_canIssue 22 = .ok (.iload_n 1, 1) := by decide +kernel
theorem dX6_canIssue_23 : decode cX6_canIssue 23 = .ok (.iconst 1, 1) := by decide +kernel
theorem dX6_canIssue_24 : decode cX6_canIssue 24 = .ok (.invokevirtual 136, 3) := by decide +kernel
theorem dX6_canIssue_27 : decode cX6_canIssue 27 = .ok (.ifCond .ne 7, 3) := by decide +kernel
theorem dX6_canIssue_30 : decode cX6_canIssue 30 = .ok (.iconst 1, 1) := by decide +kernel
theorem dX6_canIssue_31 : decode cX6_canIssue 31 = .ok (.goto 4, 3) := by decide +kernel
theorem dX6_canIssue_34 : decode cX6_canIssue 34 = .ok (.iconst 0, 1) := by decide +kernel
theorem dX6_canIssue_35 : decode cX6_canIssue 35 = .ok (.ireturn, 1) := by decide +kernel
set_option maxRecDepth 20000 in
theorem ggX6_issue_Jx4a65c_get_915e3 : GoodIn wsX6_issue wsJx4a65c_get_915e3 := goodIn_r _ [10, 11, 12, 13, 14, 15, 16, 17, 18, 19, 20, 21, 22, 9, 23, 24, 147, 148, 149] (by decide +kernel) (by decide +kernel)
set_option maxRecDepth 20000 in
theorem gX6_issue_Jx4a65c_get_915e3 : GoodIn wsX6_issue (wsV RX6 51 RJx4a65c yJx4a65c_get_915e3 wsJx4a65c_get_915e3) := goodIn_app (goodIn_of _ (by decide +kernel)) ggX6_issue_Jx4a65c_get_915e3
set_option maxRecDepth 20000 in
theorem ggX6_issue_X10_issuedOne : GoodIn wsX6_issue wsX10_issuedOne := goodIn_r _ [29, 30, 31, 32, 33, 34, 28, 35, 36, 37, 38, 39, 9, 40, 11, 41, 7, 8, 10, 12, 13, 14, 15, 16, 17, 18, 19, 20, 21, 22, 23, 24, 150, 151, 152, 144, 145, 146, 147, 148, 149] (by decide +kernel) (by decide +kernel)
set_option maxRecDepth 20000 in
theorem gX6_issue_X10_issuedOne : GoodIn wsX6_issue (wsV RX6 90 RX10 yX10_issuedOne wsX10_issuedOne) := goodIn_app (goodIn_of _ (by decide +kernel)) ggX6_issue_X10_issuedOne
set_option maxRecDepth 20000 in
theorem ggX6_issue_X10_last : GoodIn wsX6_issue wsX10_last := goodIn_r _ [45, 30, 31, 37, 38, 39, 9, 40, 11, 41, 7, 8, 10, 12, 13, 14, 15, 16, 17, 18, 19, 20, 21, 22, 23, 24, 150, 151, 152, 147, 148, 149] (by decide +kernel) (by decide +kernel)
set_option maxRecDepth 20000 in
theorem gX6_issue_X10_last : GoodIn wsX6_issue (wsV RX6 169 RX10 yX10_last wsX10_last) := goodIn_app (goodIn_of _ (by decide +kernel)) ggX6_issue_X10_last
set_option maxRecDepth 20000 in
theorem ggX6_issue_Jx4a65c_size_8abf5 : GoodIn wsX6_issue wsJx4a65c_size_8abf5 := goodIn_r _ [40, 11, 147, 148, 149] (by decide +kernel) (by decide +kernel)
set_option maxRecDepth 20000 in
theorem gX6_issue_Jx4a65c_size_8abf5 : GoodIn wsX6_issue (wsV RX6 47 RJx4a65c yJx4a65c_size_8abf5 wsJx4a65c_size_8abf5) := goodIn_app (goodIn_of _ (by decide +kernel)) ggX6_issue_Jx4a65c_size_8abf5
set_option maxRecDepth 20000 in
theorem ggX6_issue_X6_settle : GoodIn wsX6_issue wsX6_settle := goodIn_r _ [51, 52, 53, 54, 55, 46, 38, 39, 9, 40, 11, 6, 7, 8, 10, 12, 13, 14, 15, 16, 17, 18, 19, 20, 21, 22, 23, 24, 56, 57, 58, 50, 59, 1, 60, 61, 62, 63, 64, 65, 66, 67, 68, 69, 2, 70, 71, 72, 73, 74, 33, 34, 28, 35, 30, 31, 36, 37, 41, 75, 76, 77, 78, 79, 5, 80, 81, 82, 83, 84, 25, 26, 27, 29, 32, 85, 86, 87, 88, 89, 4, 90, 91, 92, 93, 94, 95, 96, 97, 98, 99, 100, 101, 102, 103, 104, 105, 106, 107, 108, 109, 110, 111, 112, 113, 114, 115, 116, 117, 118, 119, 120, 121, 122, 123, 124, 125, 126, 127, 128, 129, 130, 131, 132, 133, 134, 135, 136, 137, 138, 139, 140, 141, 142, 143, 153, 154, 155, 156, 157, 158, 147, 148, 149, 150, 151, 152, 144, 145, 146, 159, 160, 161, 162] (by decide +kernel) (by decide +kernel)
set_option maxRecDepth 20000 in
theorem gX6_issue_X6_settle : GoodIn wsX6_issue (wsV RX6 175 RX6 yX6_settle wsX6_settle) := goodIn_app (goodIn_of _ (by decide +kernel)) ggX6_issue_X6_settle
theorem dX6_issue_0 : decode cX6_issue 0 = .ok (.aload_n 0, 1) := by decide +kernel
theorem dX6_issue_1 : decode cX6_issue 1 = .ok (.getfield 12, 3) := by decide +kernel
theorem dX6_issue_4 : decode cX6_issue 4 = .ok (.iload_n 1, 1) := by decide +kernel
theorem dX6_issue_5 : decode cX6_issue 5 = .ok (.invokevirtual 51, 3) := by decide +kernel
theorem dX6_issue_8 : decode cX6_issue 8 = .ok (.checkcast 55, 3) := by decide +kernel
theorem dX6_issue_11 : decode cX6_issue 11 = .ok (.invokevirtual 90, 3) := by decide +kernel
theorem dX6_issue_14 : decode cX6_issue 14 = .ok (.astore_n 2, 1) := by decide +kernel
theorem dX6_issue_15 : decode cX6_issue 15 = .ok (.aload_n 2, 1) := by decide +kernel
theorem dX6_issue_16 : decode cX6_issue 16 = .ok (.ifnull 8, 3) := by decide +kernel
theorem dX6_issue_19 : decode cX6_issue 19 = .ok (.aload_n 2, 1) := by decide +kernel
theorem dX6_issue_20 : decode cX6_issue 20 = .ok (.iconst 3, 1) := by decide +kernel
theorem dX6_issue_21 : decode cX6_issue 21 = .ok (.putfield 172, 3) := by decide +kernel
theorem dX6_issue_24 : decode cX6_issue 24 = .ok (.aload_n 0, 1) := by decide +kernel
theorem dX6_issue_25 : decode cX6_issue 25 = .ok (.getfield 12, 3) := by decide +kernel
theorem dX6_issue_28 : decode cX6_issue 28 = .ok (.iload_n 1, 1) := by decide +kernel
theorem dX6_issue_29 : decode cX6_issue 29 = .ok (.invokevirtual 51, 3) := by decide +kernel
theorem dX6_issue_32 : decode cX6_issue 32 = .ok (.checkcast 55, 3) := by decide +kernel
theorem dX6_issue_35 : decode cX6_issue 35 = .ok (.invokevirtual 169, 3) := by decide +kernel
theorem dX6_issue_38 : decode cX6_issue 38 = .ok (.iconst 2, 1) := by decide +kernel
theorem dX6_issue_39 : decode cX6_issue 39 = .ok (.putfield 172, 3) := by decide +kernel
theorem dX6_issue_42 : decode cX6_issue 42 = .ok (.iconst 0, 1) := by decide +kernel
theorem dX6_issue_43 : decode cX6_issue 43 = .ok (.istore_n 3, 1) := by decide +kernel
theorem dX6_issue_44 : decode cX6_issue 44 = .ok (.iload_n 3, 1) := by decide +kernel
theorem dX6_issue_45 : decode cX6_issue 45 = .ok (.aload_n 0, 1) := by decide +kernel
theorem dX6_issue_46 : decode cX6_issue 46 = .ok (.getfield 35, 3) := by decide +kernel
theorem dX6_issue_49 : decode cX6_issue 49 = .ok (.invokevirtual 47, 3) := by decide +kernel
theorem dX6_issue_52 : decode cX6_issue 52 = .ok (.if_icmp .ge 57, 3) := by decide +kernel
theorem dX6_issue_55 : decode cX6_issue 55 = .ok (.aload_n 0, 1) := by decide +kernel
theorem dX6_issue_56 : decode cX6_issue 56 = .ok (.getfield 35, 3) := by decide +kernel
theorem dX6_issue_59 : decode cX6_issue 59 = .ok (.iload_n 3, 1) := by decide +kernel
theorem dX6_issue_60 : decode cX6_issue 60 = .ok (.invokevirtual 51, 3) := by decide +kernel
theorem dX6_issue_63 : decode cX6_issue 63 = .ok (.checkcast 69, 3) := by decide +kernel
theorem dX6_issue_66 : decode cX6_issue 66 = .ok (.iconst 0, 1) := by decide +kernel
theorem dX6_issue_67 : decode cX6_issue 67 = .ok (.iaload, 1) := by decide +kernel
theorem dX6_issue_68 : decode cX6_issue 68 = .ok (.iload_n 1, 1) := by decide +kernel
theorem dX6_issue_69 : decode cX6_issue 69 = .ok (.if_icmp .ne 34, 3) := by decide +kernel
theorem dX6_issue_72 : decode cX6_issue 72 = .ok (.aload_n 0, 1) := by decide +kernel
theorem dX6_issue_73 : decode cX6_issue 73 = .ok (.getfield 35, 3) := by decide +kernel
theorem dX6_issue_76 : decode cX6_issue 76 = .ok (.iload_n 3, 1) := by decide +kernel
theorem dX6_issue_77 : decode cX6_issue 77 = .ok (.invokevirtual 51, 3) := by decide +kernel
theorem dX6_issue_80 : decode cX6_issue 80 = .ok (.checkcast 69, 3) := by decide +kernel
theorem dX6_issue_83 : decode cX6_issue 83 = .ok (.iconst 1, 1) := by decide +kernel
theorem dX6_issue_84 : decode cX6_issue 84 = .ok (.iaload, 1) := by decide +kernel
theorem dX6_issue_85 : decode cX6_issue 85 = .ok (.iconst 1, 1) := by decide +kernel
theorem dX6_issue_86 : decode cX6_issue 86 = .ok (.if_icmp .ne 17, 3) := by decide +kernel
theorem dX6_issue_89 : decode cX6_issue 89 = .ok (.aload_n 0, 1) := by decide +kernel
theorem dX6_issue_90 : decode cX6_issue 90 = .ok (.getfield 35, 3) := by decide +kernel
theorem dX6_issue_93 : decode cX6_issue 93 = .ok (.iload_n 3, 1) := by decide +kernel
theorem dX6_issue_94 : decode cX6_issue 94 = .ok (.invokevirtual 51, 3) := by decide +kernel
theorem dX6_issue_97 : decode cX6_issue 97 = .ok (.checkcast 69, 3) := by decide +kernel
theorem dX6_issue_100 : decode cX6_issue 100 = .ok (.iconst 1, 1) := by decide +kernel
theorem dX6_issue_101 : decode cX6_issue 101 = .ok (.iconst 2, 1) := by decide +kernel
theorem dX6_issue_102 : decode cX6_issue 102 = .ok (.iastore, 1) := by decide +kernel
theorem dX6_issue_103 : decode cX6_issue 103 = .ok (.iinc 3 1, 3) := by decide +kernel
theorem dX6_issue_106 : decode cX6_issue 106 = .ok (.goto (-62), 3) := by decide +kernel
theorem dX6_issue_109 : decode cX6_issue 109 = .ok (.aload_n 0, 1) := by decide +kernel
theorem dX6_issue_110 : decode cX6_issue 110 = .ok (.invokevirtual 175, 3) := by decide +kernel
theorem dX6_issue_113 : decode cX6_issue 113 = .ok (.ireturn, 1) := by decide +kernel
set_option maxRecDepth 20000 in
theorem ggX6_isFor_Jx4a65c_get_915e3 : GoodIn wsX6_isFor wsJx4a65c_get_915e3 := goodIn_r _ [7, 8, 9, 10, 11, 12, 13, 14, 15, 16, 17, 18, 19, 6, 20, 21, 32, 33, 34] (by decide +kernel) (by decide +kernel)
set_option maxRecDepth 20000 in
theorem gX6_isFor_Jx4a65c_get_915e3 : GoodIn wsX6_isFor (wsV RX6 51 RJx4a65c yJx4a65c_get_915e3 wsJx4a65c_get_915e3) := goodIn_app (goodIn_of _ (by decide +kernel)) ggX6_isFor_Jx4a65c_get_915e3
theorem dX6_isFor_0 : decode cX6_isFor 0 = .ok (.aload_n 0, 1) := by decide +kernel
theorem dX6_isFor_1 : decode cX6_isFor 1 = .ok (.getfield 24, 3) := by decide +kernel
theorem dX6_isFor_4 : decode cX6_isFor 4 = .ok (.iload_n 1, 1) := by decide +kernel
theorem dX6_isFor_5 : decode cX6_isFor 5 = .ok (.invokevirtual 51, 3) := by decide +kernel
theorem dX6_isFor_8 : decode cX6_isFor 8 = .ok (.checkcast 69, 3) := by decide +kernel
theorem dX6_isFor_11 : decode cX6_isFor 11 = .ok (.iconst 1, 1) := by decide +kernel
theorem dX6_isFor_12 : decode cX6_isFor 12 = .ok (.iaload, 1) := by decide +kernel
theorem dX6_isFor_13 : decode cX6_isFor 13 = .ok (.iload_n 2, 1) := by decide +kernel
theorem dX6_isFor_14 : decode cX6_isFor 14 = .ok (.ishr, 1) := by decide +kernel
theorem dX6_isFor_15 : decode cX6_isFor 15 = .ok (.iconst 1, 1) := by decide +kernel
theorem dX6_isFor_16 : decode cX6_isFor 16 = .ok (.iand, 1) := by decide +kernel
theorem dX6_isFor_17 : decode cX6_isFor 17 = .ok (.iconst 1, 1) := by decide +kernel
theorem dX6_isFor_18 : decode cX6_isFor 18 = .ok (.if_icmp .ne 27, 3) := by decide +kernel
theorem dX6_isFor_21 : decode cX6_isFor 21 = .ok (.aload_n 0, 1) := by decide +kernel
theorem dX6_isFor_22 : decode cX6_isFor 22 = .ok (.getfield 24, 3) := by decide +kernel
theorem dX6_isFor_25 : decode cX6_isFor 25 = .ok (.iload_n 1, 1) := by decide +kernel
theorem dX6_isFor_26 : decode cX6_isFor 26 = .ok (.invokevirtual 51, 3) := by decide +kernel
theorem dX6_isFor_29 : decode cX6_isFor 29 = .ok (.checkcast 69, 3) := by decide +kernel
theorem dX6_isFor_32 : decode cX6_isFor 32 = .ok (.iconst 2, 1) := by decide +kernel
theorem dX6_isFor_33 : decode cX6_isFor 33 = .ok (.iaload, 1) := by decide +kernel
theorem dX6_isFor_34 : decode cX6_isFor 34 = .ok (.iload_n 2, 1) := by decide +kernel
theorem dX6_isFor_35 : decode cX6_isFor 35 = .ok (.ishr, 1) := by decide +kernel
theorem dX6_isFor_36 : decode cX6_isFor 36 = .ok (.iconst 1, 1) := by decide +kernel
theorem dX6_isFor_37 : decode cX6_isFor 37 = .ok (.iand, 1) := by decide +kernel
theorem dX6_isFor_38 : decode cX6_isFor 38 = .ok (.ifCond .ne 7, 3) := by decide +kernel
theorem dX6_isFor_41 : decode cX6_isFor 41 = .ok (.iconst 1, 1) := by decide +kernel
theorem dX6_isFor_42 : decode cX6_isFor 42 = .ok (.goto 4, 3) := by decide +kernel
theorem dX6_isFor_45 : decode cX6_isFor 45 = .ok (.iconst 0, 1) := by decide +kernel
theorem dX6_isFor_46 : decode cX6_isFor 46 = .ok (.ireturn, 1) := by decide +kernel
set_option maxRecDepth 20000 in
theorem ggX6_receive_Jx4a65c_get_915e3 : GoodIn wsX6_receive wsJx4a65c_get_915e3 := goodIn_r _ [9, 10, 11, 12, 13, 14, 15, 16, 17, 18, 19, 20, 21, 8, 22, 23, 141, 142, 143] (by decide +kernel) (by decide +kernel)
set_option maxRecDepth 20000 in
theorem gX6_receive_Jx4a65c_get_915e3 : GoodIn wsX6_receive (wsV RX6 51 RJx4a65c yJx4a65c_get_915e3 wsJx4a65c_get_915e3) := goodIn_app (goodIn_of _ (by decide +kernel)) ggX6_receive_Jx4a65c_get_915e3
set_option maxRecDepth 20000 in
theorem ggX6_receive_X6_settle : GoodIn wsX6_receive wsX6_settle := goodIn_r _ [28, 29, 30, 31, 32, 33, 34, 35, 8, 36, 10, 5, 6, 7, 9, 11, 12, 13, 14, 15, 16, 17, 18, 19, 20, 21, 22, 23, 37, 38, 39, 27, 40, 41, 42, 43, 44, 45, 46, 47, 48, 49, 50, 51, 52, 4, 53, 54, 55, 56, 57, 58, 59, 60, 61, 62, 63, 64, 65, 66, 67, 68, 69, 70, 2, 71, 72, 73, 74, 75, 76, 77, 78, 79, 80, 81, 82, 83, 84, 85, 86, 87, 88, 89, 90, 91, 92, 93, 94, 95, 96, 97, 98, 99, 100, 101, 102, 103, 104, 105, 106, 107, 108, 109, 110, 111, 112, 113, 114, 115, 116, 117, 118, 119, 120, 121, 122, 123, 124, 125, 126, 127, 128, 129, 130, 131, 132, 133, 134, 135, 136, 137, 138, 139, 140, 144, 145, 146, 147, 148, 149, 141, 142, 143, 150, 151, 152, 153, 154, 155, 156, 157, 158, 159] (by decide +kernel) (by decide +kernel)
set_option maxRecDepth 20000 in
theorem gX6_receive_X6_settle : GoodIn wsX6_receive (wsV RX6 175 RX6 yX6_settle wsX6_settle) := goodIn_app (goodIn_of _ (by decide +kernel)) ggX6_receive_X6_settle
theorem dX6_receive_0 : decode cX6_receive 0 = .ok (.aload_n 0, 1) := by decide +kernel
theorem dX6_receive_1 : decode cX6_receive 1 = .ok (.getfield 24, 3) := by decide +kernel
theorem dX6_receive_4 : decode cX6_receive 4 = .ok (.iload_n 1, 1) := by decide +kernel
theorem dX6_receive_5 : decode cX6_receive 5 = .ok (.invokevirtual 51, 3) := by decide +kernel
theorem dX6_receive_8 : decode cX6_receive 8 = .ok (.checkcast 69, 3) := by decide +kernel
theorem dX6_receive_11 : decode cX6_receive 11 = .ok (.iconst 2, 1) := by decide +kernel
theorem dX6_receive_12 : decode cX6_receive 12 = .ok (.dup2, 1) := by decide +kernel
theorem dX6_receive_13 : decode cX6_receive 13 = .ok (.iaload, 1) := by decide +kernel
theorem dX6_receive_14 : decode cX6_receive 14 = .ok (.iconst 1, 1) := by decide +kernel
theorem dX6_receive_15 : decode cX6_receive 15 = .ok (.iload_n 2, 1) := by decide +kernel
theorem dX6_receive_16 : decode cX6_receive 16 = .ok (.ishl, 1) := by decide +kernel
theorem dX6_receive_17 : decode cX6_receive 17 = .ok (.ior, 1) := by decide +kernel
theorem dX6_receive_18 : decode cX6_receive 18 = .ok (.iastore, 1) := by decide +kernel
theorem dX6_receive_19 : decode cX6_receive 19 = .ok (.iconst 0, 1) := by decide +kernel
theorem dX6_receive_20 : decode cX6_receive 20 = .ok (.istore_n 3, 1) := by decide +kernel
theorem dX6_receive_21 : decode cX6_receive 21 = .ok (.iconst 0, 1) := by decide +kernel
theorem dX6_receive_22 : decode cX6_receive 22 = .ok (.istore 4, 2) := by decide +kernel
theorem dX6_receive_24 : decode cX6_receive 24 = .ok (.iload 4, 2) := by decide +kernel
theorem dX6_receive_26 : decode cX6_receive 26 = .ok (.bipush 10, 2) := by decide +kernel
theorem dX6_receive_28 : decode cX6_receive 28 = .ok (.if_icmp .ge 56, 3) := by decide +kernel
theorem dX6_receive_31 : decode cX6_receive 31 = .ok (.aload_n 0, 1) := by decide +kernel
theorem dX6_receive_32 : decode cX6_receive 32 = .ok (.getfield 21, 3) := by decide +kernel
theorem dX6_receive_35 : decode cX6_receive 35 = .ok (.iload_n 1, 1) := by decide +kernel
theorem dX6_receive_36 : decode cX6_receive 36 = .ok (.invokevirtual 51, 3) := by decide +kernel
theorem dX6_receive_39 : decode cX6_receive 39 = .ok (.checkcast 69, 3) := by decide +kernel
theorem dX6_receive_42 : decode cX6_receive 42 = .ok (.iload 4, 2) := by decide +kernel
theorem dX6_receive_44 : decode cX6_receive 44 = .ok (.iaload, 1) := by decide +kernel
theorem dX6_receive_45 : decode cX6_receive 45 = .ok (.istore 5, 2) := by decide +kernel
theorem dX6_receive_47 : decode cX6_receive 47 = .ok (.iload 5, 2) := by decide +kernel
theorem dX6_receive_49 : decode cX6_receive 49 = .ok (.aload_n 0, 1) := by decide +kernel
theorem dX6_receive_50 : decode cX6_receive 50 = .ok (.getfield 29, 3) := by decide +kernel
theorem dX6_receive_53 : decode cX6_receive 53 = .ok (.iload_n 2, 1) := by decide +kernel
theorem dX6_receive_54 : decode cX6_receive 54 = .ok (.aaload, 1) := by decide +kernel
theorem dX6_receive_55 : decode cX6_receive 55 = .ok (.iload 4, 2) := by decide +kernel
theorem dX6_receive_57 : decode cX6_receive 57 = .ok (.iaload, 1) := by decide +kernel
theorem dX6_receive_58 : decode cX6_receive 58 = .ok (.if_icmp .gt 6, 3) := by decide +kernel
theorem dX6_receive_61 : decode cX6_receive 61 = .ok (.goto 17, 3) := by decide +kernel
theorem dX6_receive_64 : decode cX6_receive 64 = .ok (.aload_n 0, 1) := by decide +kernel
theorem dX6_receive_65 : decode cX6_receive 65 = .ok (.getfield 29, 3) := by decide +kernel
theorem dX6_receive_68 : decode cX6_receive 68 = .ok (.iload_n 2, 1) := by decide +kernel
theorem dX6_receive_69 : decode cX6_receive 69 = .ok (.aaload, 1) := by decide +kernel
theorem dX6_receive_70 : decode cX6_receive 70 = .ok (.iload 4, 2) := by decide +kernel
theorem dX6_receive_72 : decode cX6_receive 72 = .ok (.iload 5, 2) := by decide +kernel
theorem dX6_receive_74 : decode cX6_receive 74 = .ok (.iastore, 1) := by decide +kernel
theorem dX6_receive_75 : decode cX6_receive 75 = .ok (.iinc 3 1, 3) := by decide +kernel
theorem dX6_receive_78 : decode cX6_receive 78 = .ok (.iinc 4 1, 3) := by decide +kernel
theorem dX6_receive_81 : decode cX6_receive 81 = .ok (.goto (-57), 3) := by decide +kernel
theorem dX6_receive_84 : decode cX6_receive 84 = .ok (.aload_n 0, 1) := by decide +kernel
theorem dX6_receive_85 : decode cX6_receive 85 = .ok (.invokevirtual 175, 3) := by decide +kernel
theorem dX6_receive_88 : decode cX6_receive 88 = .ok (.pop, 1) := by decide +kernel
theorem dX6_receive_89 : decode cX6_receive 89 = .ok (.iload_n 3, 1) := by decide +kernel
theorem dX6_receive_90 : decode cX6_receive 90 = .ok (.ireturn, 1) := by decide +kernel
set_option maxRecDepth 20000 in
theorem ggX6_owes_Jx4a65c_size_8abf5 : GoodIn wsX6_owes wsJx4a65c_size_8abf5 := goodIn_r _ [8, 9, 42, 43, 44] (by decide +kernel) (by decide +kernel)
set_option maxRecDepth 20000 in
theorem gX6_owes_Jx4a65c_size_8abf5 : GoodIn wsX6_owes (wsV RX6 47 RJx4a65c yJx4a65c_size_8abf5 wsJx4a65c_size_8abf5) := goodIn_app (goodIn_of _ (by decide +kernel)) ggX6_owes_Jx4a65c_size_8abf5
set_option maxRecDepth 20000 in
theorem ggX6_owes_X6_isFor : GoodIn wsX6_owes wsX6_isFor := goodIn_r _ [14, 1, 3, 15, 16, 17, 7, 18, 9, 19, 20, 21, 22, 23, 24, 25, 26, 27, 28, 29, 30, 31, 32, 33, 34, 35, 36, 37, 38, 39, 40, 41, 42, 43, 44] (by decide +kernel) (by decide +kernel)
set_option maxRecDepth 20000 in
theorem gX6_owes_X6_isFor : GoodIn wsX6_owes (wsV RX6 178 RX6 yX6_isFor wsX6_isFor) := goodIn_app (goodIn_of _ (by decide +kernel)) ggX6_owes_X6_isFor
set_option maxRecDepth 20000 in
theorem ggX6_owes_Jx4a65c_get_915e3 : GoodIn wsX6_owes wsJx4a65c_get_915e3 := goodIn_r _ [18, 9, 19, 20, 21, 22, 23, 24, 25, 26, 27, 28, 29, 7, 30, 31, 42, 43, 44] (by decide +kernel) (by decide +kernel)
set_option maxRecDepth 20000 in
theorem gX6_owes_Jx4a65c_get_915e3 : GoodIn wsX6_owes (wsV RX6 51 RJx4a65c yJx4a65c_get_915e3 wsJx4a65c_get_915e3) := goodIn_app (goodIn_of _ (by decide +kernel)) ggX6_owes_Jx4a65c_get_915e3
theorem dX6_owes_0 : decode cX6_owes 0 = .ok (.iconst 0, 1) := by decide +kernel
theorem dX6_owes_1 : decode cX6_owes 1 = .ok (.istore_n 2, 1) := by decide +kernel
theorem dX6_owes_2 : decode cX6_owes 2 = .ok (.iconst 0, 1) := by decide +kernel
theorem dX6_owes_3 : decode cX6_owes 3 = .ok (.istore_n 3, 1) := by decide +kernel
theorem dX6_owes_4 : decode cX6_owes 4 = .ok (.iload_n 3, 1) := by decide +kernel
theorem dX6_owes_5 : decode cX6_owes 5 = .ok (.aload_n 0, 1) := by decide +kernel
theorem dX6_owes_6 : decode cX6_owes 6 = .ok (.getfield 24, 3) := by decide +kernel
theorem dX6_owes_9 : decode cX6_owes 9 = .ok (.invokevirtual 47, 3) := by decide +kernel
theorem dX6_owes_12 : decode cX6_owes 12 = .ok (.if_icmp .ge 48, 3) := by decide +kernel
theorem dX6_owes_15 : decode cX6_owes 15 = .ok (.iload_n 2, 1) := by decide +kernel
theorem dX6_owes_16 : decode cX6_owes 16 = .ok (.aload_n 0, 1) := by decide +kernel
theorem dX6_owes_17 : decode cX6_owes 17 = .ok (.iload_n 3, 1) := by decide +kernel
theorem dX6_owes_18 : decode cX6_owes 18 = .ok (.iload_n 1, 1) := by decide +kernel
theorem dX6_owes_19 : decode cX6_owes 19 = .ok (.invokevirtual 178, 3) := by decide +kernel
theorem dX6_owes_22 : decode cX6_owes 22 = .ok (.ifCond .eq 29, 3) := by decide +kernel
theorem dX6_owes_25 : decode cX6_owes 25 = .ok (.aload_n 0, 1) := by decide +kernel
theorem dX6_owes_26 : decode cX6_owes 26 = .ok (.getfield 86, 3) := by decide +kernel
theorem dX6_owes_29 : decode cX6_owes 29 = .ok (.aload_n 0, 1) := by decide +kernel
theorem dX6_owes_30 : decode cX6_owes 30 = .ok (.getfield 24, 3) := by decide +kernel
theorem dX6_owes_33 : decode cX6_owes 33 = .ok (.iload_n 3, 1) := by decide +kernel
theorem dX6_owes_34 : decode cX6_owes 34 = .ok (.invokevirtual 51, 3) := by decide +kernel
theorem dX6_owes_37 : decode cX6_owes 37 = .ok (.checkcast 69, 3) := by decide +kernel
theorem dX6_owes_40 : decode cX6_owes 40 = .ok (.iconst 0, 1) := by decide +kernel
theorem dX6_owes_41 : decode cX6_owes 41 = .ok (.iaload, 1) := by decide +kernel
theorem dX6_owes_42 : decode cX6_owes 42 = .ok (.isub, 1) := by decide +kernel
theorem dX6_owes_43 : decode cX6_owes 43 = .ok (.iconst 5, 1) := by decide +kernel
theorem dX6_owes_44 : decode cX6_owes 44 = .ok (.if_icmp .le 7, 3) := by decide +kernel
theorem dX6_owes_47 : decode cX6_owes 47 = .ok (.iconst 1, 1) := by decide +kernel
theorem dX6_owes_48 : decode cX6_owes 48 = .ok (.goto 4, 3) := by decide +kernel
theorem dX6_owes_51 : decode cX6_owes 51 = .ok (.iconst 0, 1) := by decide +kernel
theorem dX6_owes_52 : decode cX6_owes 52 = .ok (.iadd, 1) := by decide +kernel
theorem dX6_owes_53 : decode cX6_owes 53 = .ok (.istore_n 2, 1) := by decide +kernel
theorem dX6_owes_54 : decode cX6_owes 54 = .ok (.iinc 3 1, 3) := by decide +kernel
theorem dX6_owes_57 : decode cX6_owes 57 = .ok (.goto (-53), 3) := by decide +kernel
theorem dX6_owes_60 : decode cX6_owes 60 = .ok (.iload_n 2, 1) := by decide +kernel
theorem dX6_owes_61 : decode cX6_owes 61 = .ok (.ireturn, 1) := by decide +kernel
set_option maxRecDepth 20000 in
theorem ggX6_dayOn_Jx4a65c_size_8abf5 : GoodIn wsX6_dayOn wsJx4a65c_size_8abf5 := goodIn_r _ [13, 14, 150, 151, 152] (by decide +kernel) (by decide +kernel)
set_option maxRecDepth 20000 in
theorem gX6_dayOn_Jx4a65c_size_8abf5 : GoodIn wsX6_dayOn (wsV RX6 47 RJx4a65c yJx4a65c_size_8abf5 wsJx4a65c_size_8abf5) := goodIn_app (goodIn_of _ (by decide +kernel)) ggX6_dayOn_Jx4a65c_size_8abf5
set_option maxRecDepth 20000 in
theorem ggX6_dayOn_Jx4a65c_get_915e3 : GoodIn wsX6_dayOn wsJx4a65c_get_915e3 := goodIn_r _ [18, 14, 19, 20, 21, 22, 23, 24, 25, 26, 27, 28, 29, 12, 30, 31, 150, 151, 152] (by decide +kernel) (by decide +kernel)
set_option maxRecDepth 20000 in
theorem gX6_dayOn_Jx4a65c_get_915e3 : GoodIn wsX6_dayOn (wsV RX6 51 RJx4a65c yJx4a65c_get_915e3 wsJx4a65c_get_915e3) := goodIn_app (goodIn_of _ (by decide +kernel)) ggX6_dayOn_Jx4a65c_get_915e3
set_option maxRecDepth 20000 in
theorem ggX6_dayOn_X7_needs : GoodIn wsX6_dayOn wsX7_needs := goodIn_r _ [36, 37, 141, 142, 143, 144, 145, 146] (by decide +kernel) (by decide +kernel)
set_option maxRecDepth 20000 in
theorem gX6_dayOn_X7_needs : GoodIn wsX6_dayOn (wsV RX6 148 RX7 yX7_needs wsX7_needs) := goodIn_app (goodIn_of _ (by decide +kernel)) ggX6_dayOn_X7_needs
set_option maxRecDepth 20000 in
theorem ggX6_dayOn_X6_settle : GoodIn wsX6_dayOn wsX6_settle := goodIn_r _ [42, 2, 3, 4, 43, 9, 10, 11, 12, 13, 14, 15, 16, 17, 18, 19, 20, 21, 22, 23, 24, 25, 26, 27, 28, 29, 30, 31, 44, 45, 46, 41, 47, 6, 32, 33, 34, 35, 36, 37, 48, 49, 50, 51, 7, 52, 53, 54, 8, 55, 56, 57, 58, 59, 60, 61, 62, 63, 64, 65, 66, 67, 68, 69, 70, 71, 72, 73, 74, 75, 76, 77, 78, 79, 80, 81, 82, 83, 84, 85, 86, 87, 88, 89, 90, 91, 92, 93, 94, 95, 96, 97, 98, 99, 100, 101, 102, 103, 104, 105, 106, 107, 108, 109, 110, 111, 112, 113, 114, 115, 116, 117, 118, 119, 120, 121, 122, 123, 124, 125, 126, 127, 128, 129, 130, 131, 132, 133, 134, 135, 136, 137, 138, 139, 140, 141, 142, 143, 144, 145, 146, 150, 151, 152, 147, 148, 149, 153, 154, 155, 156, 157, 158, 159] (by decide +kernel) (by decide +kernel)
set_option maxRecDepth 20000 in
theorem gX6_dayOn_X6_settle : GoodIn wsX6_dayOn (wsV RX6 175 RX6 yX6_settle wsX6_settle) := goodIn_app (goodIn_of _ (by decide +kernel)) ggX6_dayOn_X6_settle
theorem dX6_dayOn_0 : decode cX6_dayOn 0 = .ok (.aload_n 0, 1) := by decide +kernel
theorem dX6_dayOn_1 : decode cX6_dayOn 1 = .ok (.dup, 1) := by decide +kernel
theorem dX6_dayOn_2 : decode cX6_dayOn 2 = .ok (.getfield 86, 3) := by decide +kernel
theorem dX6_dayOn_5 : decode cX6_dayOn 5 = .ok (.iconst 1, 1) := by decide +kernel
theorem dX6_dayOn_6 : decode cX6_dayOn 6 = .ok (.iadd, 1) := by decide +kernel
theorem dX6_dayOn_7 : decode cX6_dayOn 7 = .ok (.putfield 86, 3) := by decide +kernel
theorem dX6_dayOn_10 : decode cX6_dayOn 10 = .ok (.iconst 0, 1) := by decide +kernel
theorem dX6_dayOn_11 : decode cX6_dayOn 11 = .ok (.istore_n 1, 1) := by decide +kernel
theorem dX6_dayOn_12 : decode cX6_dayOn 12 = .ok (.iconst 0, 1) := by decide +kernel
theorem dX6_dayOn_13 : decode cX6_dayOn 13 = .ok (.istore_n 2, 1) := by decide +kernel
theorem dX6_dayOn_14 : decode cX6_dayOn 14 = .ok (.iload_n 2, 1) := by decide +kernel
theorem dX6_dayOn_15 : decode cX6_dayOn 15 = .ok (.aload_n 0, 1) := by decide +kernel
theorem dX6_dayOn_16 : decode cX6_dayOn 16 = .ok (.getfield 43, 3) := by decide +kernel
theorem dX6_dayOn_19 : decode cX6_dayOn 19 = .ok (.invokevirtual 47, 3) := by decide +kernel
theorem dX6_dayOn_22 : decode cX6_dayOn 22 = .ok (.if_icmp .ge 115, 3) := by decide +kernel
theorem dX6_dayOn_25 : decode cX6_dayOn 25 = .ok (.aload_n 0, 1) := by decide +kernel
theorem dX6_dayOn_26 : decode cX6_dayOn 26 = .ok (.getfield 43, 3) := by decide +kernel
theorem dX6_dayOn_29 : decode cX6_dayOn 29 = .ok (.iload_n 2, 1) := by decide +kernel
theorem dX6_dayOn_30 : decode cX6_dayOn 30 = .ok (.invokevirtual 51, 3) := by decide +kernel
theorem dX6_dayOn_33 : decode cX6_dayOn 33 = .ok (.checkcast 81, 3) := by decide +kernel
theorem dX6_dayOn_36 : decode cX6_dayOn 36 = .ok (.astore_n 3, 1) := by decide +kernel
theorem dX6_dayOn_37 : decode cX6_dayOn 37 = .ok (.aload_n 3, 1) := by decide +kernel
theorem dX6_dayOn_38 : decode cX6_dayOn 38 = .ok (.getfield 163, 3) := by decide +kernel
theorem dX6_dayOn_41 : decode cX6_dayOn 41 = .ok (.iconst 1, 1) := by decide +kernel
theorem dX6_dayOn_42 : decode cX6_dayOn 42 = .ok (.if_icmp .eq 6, 3) := by decide +kernel
theorem dX6_dayOn_45 : decode cX6_dayOn 45 = .ok (.goto 86, 3) := by decide +kernel
theorem dX6_dayOn_48 : decode cX6_dayOn 48 = .ok (.aload_n 3, 1) := by decide +kernel
theorem dX6_dayOn_49 : decode cX6_dayOn 49 = .ok (.dup, 1) := by decide +kernel
theorem dX6_dayOn_50 : decode cX6_dayOn 50 = .ok (.getfield 182, 3) := by decide +kernel
theorem dX6_dayOn_53 : decode cX6_dayOn 53 = .ok (.iconst 1, 1) := by decide +kernel
theorem dX6_dayOn_54 : decode cX6_dayOn 54 = .ok (.isub, 1) := by decide +kernel
theorem dX6_dayOn_55 : decode cX6_dayOn 55 = .ok (.putfield 182, 3) := by decide +kernel
theorem dX6_dayOn_58 : decode cX6_dayOn 58 = .ok (.aload_n 3, 1) := by decide +kernel
theorem dX6_dayOn_59 : decode cX6_dayOn 59 = .ok (.getfield 182, 3) := by decide +kernel
theorem dX6_dayOn_62 : decode cX6_dayOn 62 = .ok (.ifCond .le 6, 3) := by decide +kernel
theorem dX6_dayOn_65 : decode cX6_dayOn 65 = .ok (.goto 66, 3) := by decide +kernel
theorem dX6_dayOn_68 : decode cX6_dayOn 68 = .ok (.aload_n 3, 1) := by decide +kernel
theorem dX6_dayOn_69 : decode cX6_dayOn 69 = .ok (.iconst 3, 1) := by decide +kernel
theorem dX6_dayOn_70 : decode cX6_dayOn 70 = .ok (.putfield 163, 3) := by decide +kernel
theorem dX6_dayOn_73 : decode cX6_dayOn 73 = .ok (.iinc 1 1, 3) := by decide +kernel
theorem dX6_dayOn_76 : decode cX6_dayOn 76 = .ok (.iconst 0, 1) := by decide +kernel
theorem dX6_dayOn_77 : decode cX6_dayOn 77 = .ok (.istore 4, 2) := by decide +kernel
theorem dX6_dayOn_79 : decode cX6_dayOn 79 = .ok (.iload 4, 2) := by decide +kernel
theorem dX6_dayOn_81 : decode cX6_dayOn 81 = .ok (.aload_n 0, 1) := by decide +kernel
theorem dX6_dayOn_82 : decode cX6_dayOn 82 = .ok (.getfield 12, 3) := by decide +kernel
theorem dX6_dayOn_85 : decode cX6_dayOn 85 = .ok (.invokevirtual 47, 3) := by decide +kernel
theorem dX6_dayOn_88 : decode cX6_dayOn 88 = .ok (.if_icmp .ge 43, 3) := by decide +kernel
theorem dX6_dayOn_91 : decode cX6_dayOn 91 = .ok (.aload_n 0, 1) := by decide +kernel
theorem dX6_dayOn_92 : decode cX6_dayOn 92 = .ok (.getfield 12, 3) := by decide +kernel
theorem dX6_dayOn_95 : decode cX6_dayOn 95 = .ok (.iload 4, 2) := by decide +kernel
theorem dX6_dayOn_97 : decode cX6_dayOn 97 = .ok (.invokevirtual 51, 3) := by decide +kernel
theorem dX6_dayOn_100 : decode cX6_dayOn 100 = .ok (.checkcast 55, 3) := by decide +kernel
theorem dX6_dayOn_103 : decode cX6_dayOn 103 = .ok (.dup, 1) := by decide +kernel
theorem dX6_dayOn_104 : decode cX6_dayOn 104 = .ok (.getfield 145, 3) := by decide +kernel
theorem dX6_dayOn_107 : decode cX6_dayOn 107 = .ok (.aload_n 3, 1) := by decide +kernel
theorem dX6_dayOn_108 : decode cX6_dayOn 108 = .ok (.iload 4, 2) := by decide +kernel
theorem dX6_dayOn_110 : decode cX6_dayOn 110 = .ok (.invokevirtual 148, 3) := by decide +kernel
theorem dX6_dayOn_113 : decode cX6_dayOn 113 = .ok (.ifCond .eq 7, 3) := by decide +kernel
theorem dX6_dayOn_116 : decode cX6_dayOn 116 = .ok (.iconst 1, 1) := by decide +kernel
theorem dX6_dayOn_117 : decode cX6_dayOn 117 = .ok (.goto 4, 3) := by decide +kernel
theorem dX6_dayOn_120 : decode cX6_dayOn 120 = .ok (.iconst 0, 1) := by decide +kernel
theorem dX6_dayOn_121 : decode cX6_dayOn 121 = .ok (.iadd, 1) := by decide +kernel
theorem dX6_dayOn_122 : decode cX6_dayOn 122 = .ok (.putfield 145, 3) := by decide +kernel
theorem dX6_dayOn_125 : decode cX6_dayOn 125 = .ok (.iinc 4 1, 3) := by decide +kernel
theorem dX6_dayOn_128 : decode cX6_dayOn 128 = .ok (.goto (-49), 3) := by decide +kernel
theorem dX6_dayOn_131 : decode cX6_dayOn 131 = .ok (.iinc 2 1, 3) := by decide +kernel
theorem dX6_dayOn_134 : decode cX6_dayOn 134 = .ok (.goto (-120), 3) := by decide +kernel
theorem dX6_dayOn_137 : decode cX6_dayOn 137 = .ok (.aload_n 0, 1) := by decide +kernel
theorem dX6_dayOn_138 : decode cX6_dayOn 138 = .ok (.invokevirtual 175, 3) := by decide +kernel
theorem dX6_dayOn_141 : decode cX6_dayOn 141 = .ok (.pop, 1) := by decide +kernel
theorem dX6_dayOn_142 : decode cX6_dayOn 142 = .ok (.iload_n 1, 1) := by decide +kernel
theorem dX6_dayOn_143 : decode cX6_dayOn 143 = .ok (.ireturn, 1) := by decide +kernel
set_option maxRecDepth 20000 in
theorem ggX7_init_X8_init : GoodIn wsX7_init wsX8_init := goodIn_r _ [14, 15, 2, 3, 16, 17, 18, 19, 20, 21, 22, 23] (by decide +kernel) (by decide +kernel)
set_option maxRecDepth 20000 in
theorem gX7_init_X8_init : GoodIn wsX7_init (wsX8_init) := ggX7_init_X8_init
theorem dX7_init_0 : decode cX7_init 0 = .ok (.aload_n 0, 1) := by decide +kernel
theorem dX7_init_1 : decode cX7_init 1 = .ok (.invokespecial 3, 3) := by decide +kernel
theorem dX7_init_4 : decode cX7_init 4 = .ok (.aload_n 0, 1) := by decide +kernel
theorem dX7_init_5 : decode cX7_init 5 = .ok (.new 9, 3) := by decide +kernel
theorem dX7_init_8 : decode cX7_init 8 = .ok (.dup, 1) := by decide +kernel
theorem dX7_init_9 : decode cX7_init 9 = .ok (.iconst 0, 1) := by decide +kernel
theorem dX7_init_10 : decode cX7_init 10 = .ok (.iconst 0, 1) := by decide +kernel
theorem dX7_init_11 : decode cX7_init 11 = .ok (.bipush 19, 2) := by decide +kernel
theorem dX7_init_13 : decode cX7_init 13 = .ok (.bipush 19, 2) := by decide +kernel
theorem dX7_init_15 : decode cX7_init 15 = .ok (.invokespecial 11, 3) := by decide +kernel
theorem dX7_init_18 : decode cX7_init 18 = .ok (.putfield 14, 3) := by decide +kernel
theorem dX7_init_21 : decode cX7_init 21 = .ok (.aload_n 0, 1) := by decide +kernel
theorem dX7_init_22 : decode cX7_init 22 = .ok (.iconst 0, 1) := by decide +kernel
theorem dX7_init_23 : decode cX7_init 23 = .ok (.putfield 20, 3) := by decide +kernel
theorem dX7_init_26 : decode cX7_init 26 = .ok (.aload_n 0, 1) := by decide +kernel
theorem dX7_init_27 : decode cX7_init 27 = .ok (.iload_n 1, 1) := by decide +kernel
theorem dX7_init_28 : decode cX7_init 28 = .ok (.putfield 24, 3) := by decide +kernel
theorem dX7_init_31 : decode cX7_init 31 = .ok (.aload_n 0, 1) := by decide +kernel
theorem dX7_init_32 : decode cX7_init 32 = .ok (.iload_n 2, 1) := by decide +kernel
theorem dX7_init_33 : decode cX7_init 33 = .ok (.putfield 27, 3) := by decide +kernel
theorem dX7_init_36 : decode cX7_init 36 = .ok (.aload_n 0, 1) := by decide +kernel
theorem dX7_init_37 : decode cX7_init 37 = .ok (.iload_n 3, 1) := by decide +kernel
theorem dX7_init_38 : decode cX7_init 38 = .ok (.putfield 30, 3) := by decide +kernel
theorem dX7_init_41 : decode cX7_init 41 = .ok (.return_, 1) := by decide +kernel
set_option maxRecDepth 20000 in
theorem ggX7_copy_X7_init : GoodIn wsX7_copy wsX7_init := goodIn_r _ [12, 13, 14, 15, 16, 17, 18, 7, 8, 4, 5, 6, 19, 20, 21, 22, 23, 24, 25, 26, 33, 34, 35, 36, 27, 28, 29, 30, 31, 32] (by decide +kernel) (by decide +kernel)
set_option maxRecDepth 20000 in
theorem gX7_copy_X7_init : GoodIn wsX7_copy (wsX7_init) := ggX7_copy_X7_init
theorem dX7_copy_0 : decode cX7_copy 0 = .ok (.new 15, 3) := by decide +kernel
theorem dX7_copy_3 : decode cX7_copy 3 = .ok (.dup, 1) := by decide +kernel
theorem dX7_copy_4 : decode cX7_copy 4 = .ok (.aload_n 0, 1) := by decide +kernel
theorem dX7_copy_5 : decode cX7_copy 5 = .ok (.getfield 24, 3) := by decide +kernel
theorem dX7_copy_8 : decode cX7_copy 8 = .ok (.aload_n 0, 1) := by decide +kernel
theorem dX7_copy_9 : decode cX7_copy 9 = .ok (.getfield 27, 3) := by decide +kernel
theorem dX7_copy_12 : decode cX7_copy 12 = .ok (.aload_n 0, 1) := by decide +kernel
theorem dX7_copy_13 : decode cX7_copy 13 = .ok (.getfield 30, 3) := by decide +kernel
theorem dX7_copy_16 : decode cX7_copy 16 = .ok (.invokespecial 33, 3) := by decide +kernel
theorem dX7_copy_19 : decode cX7_copy 19 = .ok (.astore_n 1, 1) := by decide +kernel
theorem dX7_copy_20 : decode cX7_copy 20 = .ok (.aload_n 1, 1) := by decide +kernel
theorem dX7_copy_21 : decode cX7_copy 21 = .ok (.aload_n 0, 1) := by decide +kernel
theorem dX7_copy_22 : decode cX7_copy 22 = .ok (.getfield 14, 3) := by decide +kernel
theorem dX7_copy_25 : decode cX7_copy 25 = .ok (.putfield 14, 3) := by decide +kernel
theorem dX7_copy_28 : decode cX7_copy 28 = .ok (.aload_n 1, 1) := by decide +kernel
theorem dX7_copy_29 : decode cX7_copy 29 = .ok (.aload_n 0, 1) := by decide +kernel
theorem dX7_copy_30 : decode cX7_copy 30 = .ok (.getfield 20, 3) := by decide +kernel
theorem dX7_copy_33 : decode cX7_copy 33 = .ok (.putfield 20, 3) := by decide +kernel
theorem dX7_copy_36 : decode cX7_copy 36 = .ok (.aload_n 1, 1) := by decide +kernel
theorem dX7_copy_37 : decode cX7_copy 37 = .ok (.aload_n 0, 1) := by decide +kernel
theorem dX7_copy_38 : decode cX7_copy 38 = .ok (.getfield 36, 3) := by decide +kernel
theorem dX7_copy_41 : decode cX7_copy 41 = .ok (.putfield 36, 3) := by decide +kernel
theorem dX7_copy_44 : decode cX7_copy 44 = .ok (.aload_n 1, 1) := by decide +kernel
theorem dX7_copy_45 : decode cX7_copy 45 = .ok (.areturn, 1) := by decide +kernel
theorem dX7_needs_0 : decode cX7_needs 0 = .ok (.aload_n 0, 1) := by decide +kernel
theorem dX7_needs_1 : decode cX7_needs 1 = .ok (.getfield 27, 3) := by decide +kernel
theorem dX7_needs_4 : decode cX7_needs 4 = .ok (.iload_n 1, 1) := by decide +kernel
theorem dX7_needs_5 : decode cX7_needs 5 = .ok (.ishr, 1) := by decide +kernel
theorem dX7_needs_6 : decode cX7_needs 6 = .ok (.iconst 1, 1) := by decide +kernel
theorem dX7_needs_7 : decode cX7_needs 7 = .ok (.iand, 1) := by decide +kernel
theorem dX7_needs_8 : decode cX7_needs 8 = .ok (.iconst 1, 1) := by decide +kernel
theorem dX7_needs_9 : decode cX7_needs 9 = .ok (.if_icmp .ne 7, 3) := by decide +kernel
theorem dX7_needs_12 : decode cX7_needs 12 = .ok (.iconst 1, 1) := by decide +kernel
theorem dX7_needs_13 : decode cX7_needs 13 = .ok (.goto 4, 3) := by decide +kernel
theorem dX7_needs_16 : decode cX7_needs 16 = .ok (.iconst 0, 1) := by decide +kernel
theorem dX7_needs_17 : decode cX7_needs 17 = .ok (.ireturn, 1) := by decide +kernel
theorem dX7_isIdle_0 : decode cX7_isIdle 0 = .ok (.aload_n 0, 1) := by decide +kernel
theorem dX7_isIdle_1 : decode cX7_isIdle 1 = .ok (.getfield 20, 3) := by decide +kernel
theorem dX7_isIdle_4 : decode cX7_isIdle 4 = .ok (.ifCond .eq 11, 3) := by decide +kernel
theorem dX7_isIdle_7 : decode cX7_isIdle 7 = .ok (.aload_n 0, 1) := by decide +kernel
theorem dX7_isIdle_8 : decode cX7_isIdle 8 = .ok (.getfield 20, 3) := by decide +kernel
theorem dX7_isIdle_11 : decode cX7_isIdle 11 = .ok (.iconst 2, 1) := by decide +kernel
theorem dX7_isIdle_12 : decode cX7_isIdle 12 = .ok (.if_icmp .ne 7, 3) := by decide +kernel
theorem dX7_isIdle_15 : decode cX7_isIdle 15 = .ok (.iconst 1, 1) := by decide +kernel
theorem dX7_isIdle_16 : decode cX7_isIdle 16 = .ok (.goto 4, 3) := by decide +kernel
theorem dX7_isIdle_19 : decode cX7_isIdle 19 = .ok (.iconst 0, 1) := by decide +kernel
theorem dX7_isIdle_20 : decode cX7_isIdle 20 = .ok (.ireturn, 1) := by decide +kernel
theorem dX8_init_0 : decode cX8_init 0 = .ok (.aload_n 0, 1) := by decide +kernel
theorem dX8_init_1 : decode cX8_init 1 = .ok (.invokespecial 3, 3) := by decide +kernel
theorem dX8_init_4 : decode cX8_init 4 = .ok (.aload_n 0, 1) := by decide +kernel
theorem dX8_init_5 : decode cX8_init 5 = .ok (.iload_n 1, 1) := by decide +kernel
theorem dX8_init_6 : decode cX8_init 6 = .ok (.putfield 9, 3) := by decide +kernel
theorem dX8_init_9 : decode cX8_init 9 = .ok (.aload_n 0, 1) := by decide +kernel
theorem dX8_init_10 : decode cX8_init 10 = .ok (.iload_n 2, 1) := by decide +kernel
theorem dX8_init_11 : decode cX8_init 11 = .ok (.putfield 15, 3) := by decide +kernel
theorem dX8_init_14 : decode cX8_init 14 = .ok (.aload_n 0, 1) := by decide +kernel
theorem dX8_init_15 : decode cX8_init 15 = .ok (.iload_n 3, 1) := by decide +kernel
theorem dX8_init_16 : decode cX8_init 16 = .ok (.putfield 18, 3) := by decide +kernel
theorem dX8_init_19 : decode cX8_init 19 = .ok (.aload_n 0, 1) := by decide +kernel
theorem dX8_init_20 : decode cX8_init 20 = .ok (.iload 4, 2) := by decide +kernel
theorem dX8_init_22 : decode cX8_init 22 = .ok (.putfield 21, 3) := by decide +kernel
theorem dX8_init_25 : decode cX8_init 25 = .ok (.return_, 1) := by decide +kernel
theorem dX8_isNone_0 : decode cX8_isNone 0 = .ok (.iload_n 0, 1) := by decide +kernel
theorem dX8_isNone_1 : decode cX8_isNone 1 = .ok (.ifCond .lt 29, 3) := by decide +kernel
theorem dX8_isNone_4 : decode cX8_isNone 4 = .ok (.iload_n 1, 1) := by decide +kernel
theorem dX8_isNone_5 : decode cX8_isNone 5 = .ok (.ifCond .lt 25, 3) := by decide +kernel
theorem dX8_isNone_8 : decode cX8_isNone 8 = .ok (.iload_n 2, 1) := by decide +kernel
theorem dX8_isNone_9 : decode cX8_isNone 9 = .ok (.iload_n 0, 1) := by decide +kernel
theorem dX8_isNone_10 : decode cX8_isNone 10 = .ok (.if_icmp .lt 20, 3) := by decide +kernel
theorem dX8_isNone_13 : decode cX8_isNone 13 = .ok (.iload_n 3, 1) := by decide +kernel
theorem dX8_isNone_14 : decode cX8_isNone 14 = .ok (.iload_n 1, 1) := by decide +kernel
theorem dX8_isNone_15 : decode cX8_isNone 15 = .ok (.if_icmp .lt 15, 3) := by decide +kernel
theorem dX8_isNone_18 : decode cX8_isNone 18 = .ok (.iload_n 2, 1) := by decide +kernel
theorem dX8_isNone_19 : decode cX8_isNone 19 = .ok (.bipush 20, 2) := by decide +kernel
theorem dX8_isNone_21 : decode cX8_isNone 21 = .ok (.if_icmp .ge 9, 3) := by decide +kernel
theorem dX8_isNone_24 : decode cX8_isNone 24 = .ok (.iload_n 3, 1) := by decide +kernel
theorem dX8_isNone_25 : decode cX8_isNone 25 = .ok (.bipush 20, 2) := by decide +kernel
theorem dX8_isNone_27 : decode cX8_isNone 27 = .ok (.if_icmp .lt 7, 3) := by decide +kernel
theorem dX8_isNone_30 : decode cX8_isNone 30 = .ok (.iconst 1, 1) := by decide +kernel
theorem dX8_isNone_31 : decode cX8_isNone 31 = .ok (.goto 4, 3) := by decide +kernel
theorem dX8_isNone_34 : decode cX8_isNone 34 = .ok (.iconst 0, 1) := by decide +kernel
theorem dX8_isNone_35 : decode cX8_isNone 35 = .ok (.ireturn, 1) := by decide +kernel
theorem dX8_fields_0 : decode cX8_fields 0 = .ok (.aload_n 0, 1) := by decide +kernel
theorem dX8_fields_1 : decode cX8_fields 1 = .ok (.getfield 18, 3) := by decide +kernel
theorem dX8_fields_4 : decode cX8_fields 4 = .ok (.aload_n 0, 1) := by decide +kernel
theorem dX8_fields_5 : decode cX8_fields 5 = .ok (.getfield 9, 3) := by decide +kernel
theorem dX8_fields_8 : decode cX8_fields 8 = .ok (.if_icmp .lt 14, 3) := by decide +kernel
theorem dX8_fields_11 : decode cX8_fields 11 = .ok (.aload_n 0, 1) := by decide +kernel
theorem dX8_fields_12 : decode cX8_fields 12 = .ok (.getfield 21, 3) := by decide +kernel
theorem dX8_fields_15 : decode cX8_fields 15 = .ok (.aload_n 0, 1) := by decide +kernel
theorem dX8_fields_16 : decode cX8_fields 16 = .ok (.getfield 15, 3) := by decide +kernel
theorem dX8_fields_19 : decode cX8_fields 19 = .ok (.if_icmp .ge 7, 3) := by decide +kernel
theorem dX8_fields_22 : decode cX8_fields 22 = .ok (.iconst 0, 1) := by decide +kernel
theorem dX8_fields_23 : decode cX8_fields 23 = .ok (.goto 26, 3) := by decide +kernel
theorem dX8_fields_26 : decode cX8_fields 26 = .ok (.aload_n 0, 1) := by decide +kernel
theorem dX8_fields_27 : decode cX8_fields 27 = .ok (.getfield 18, 3) := by decide +kernel
theorem dX8_fields_30 : decode cX8_fields 30 = .ok (.aload_n 0, 1) := by decide +kernel
theorem dX8_fields_31 : decode cX8_fields 31 = .ok (.getfield 9, 3) := by decide +kernel
theorem dX8_fields_34 : decode cX8_fields 34 = .ok (.isub, 1) := by decide +kernel
theorem dX8_fields_35 : decode cX8_fields 35 = .ok (.iconst 1, 1) := by decide +kernel
theorem dX8_fields_36 : decode cX8_fields 36 = .ok (.iadd, 1) := by decide +kernel
theorem dX8_fields_37 : decode cX8_fields 37 = .ok (.aload_n 0, 1) := by decide +kernel
theorem dX8_fields_38 : decode cX8_fields 38 = .ok (.getfield 21, 3) := by decide +kernel
theorem dX8_fields_41 : decode cX8_fields 41 = .ok (.aload_n 0, 1) := by decide +kernel
theorem dX8_fields_42 : decode cX8_fields 42 = .ok (.getfield 15, 3) := by decide +kernel
theorem dX8_fields_45 : decode cX8_fields 45 = .ok (.isub, 1) := by decide +kernel
theorem dX8_fields_46 : decode cX8_fields 46 = .ok (.iconst 1, 1) := by decide +kernel
theorem dX8_fields_47 : decode cX8_fields 47 = .ok (.iadd, 1) := by decide +kernel
theorem dX8_fields_48 : decode cX8_fields 48 = .ok (.imul, 1) := by decide +kernel
theorem dX8_fields_49 : decode cX8_fields 49 = .ok (.ireturn, 1) := by decide +kernel
set_option maxRecDepth 20000 in
theorem ggX8_with_X8_init : GoodIn wsX8_with wsX8_init := goodIn_r _ [17, 18, 19, 20, 4, 9, 10, 14, 21, 22, 23, 24] (by decide +kernel) (by decide +kernel)
set_option maxRecDepth 20000 in
theorem gX8_with_X8_init : GoodIn wsX8_with (wsX8_init) := ggX8_with_X8_init
theorem dX8_with_0 : decode cX8_with 0 = .ok (.new 10, 3) := by decide +kernel
theorem dX8_with_3 : decode cX8_with 3 = .ok (.dup, 1) := by decide +kernel
theorem dX8_with_4 : decode cX8_with 4 = .ok (.aload_n 0, 1) := by decide +kernel
theorem dX8_with_5 : decode cX8_with 5 = .ok (.getfield 9, 3) := by decide +kernel
theorem dX8_with_8 : decode cX8_with 8 = .ok (.aload_n 1, 1) := by decide +kernel
theorem dX8_with_9 : decode cX8_with 9 = .ok (.getfield 9, 3) := by decide +kernel
theorem dX8_with_12 : decode cX8_with 12 = .ok (.invokestatic 24, 3) := by decide +kernel
theorem dX8_with_15 : decode cX8_with 15 = .ok (.aload_n 0, 1) := by decide +kernel
theorem dX8_with_16 : decode cX8_with 16 = .ok (.getfield 15, 3) := by decide +kernel
theorem dX8_with_19 : decode cX8_with 19 = .ok (.aload_n 1, 1) := by decide +kernel
theorem dX8_with_20 : decode cX8_with 20 = .ok (.getfield 15, 3) := by decide +kernel
theorem dX8_with_23 : decode cX8_with 23 = .ok (.invokestatic 24, 3) := by decide +kernel
theorem dX8_with_26 : decode cX8_with 26 = .ok (.aload_n 0, 1) := by decide +kernel
theorem dX8_with_27 : decode cX8_with 27 = .ok (.getfield 18, 3) := by decide +kernel
theorem dX8_with_30 : decode cX8_with 30 = .ok (.aload_n 1, 1) := by decide +kernel
theorem dX8_with_31 : decode cX8_with 31 = .ok (.getfield 18, 3) := by decide +kernel
theorem dX8_with_34 : decode cX8_with 34 = .ok (.invokestatic 30, 3) := by decide +kernel
theorem dX8_with_37 : decode cX8_with 37 = .ok (.aload_n 0, 1) := by decide +kernel
theorem dX8_with_38 : decode cX8_with 38 = .ok (.getfield 21, 3) := by decide +kernel
theorem dX8_with_41 : decode cX8_with 41 = .ok (.aload_n 1, 1) := by decide +kernel
theorem dX8_with_42 : decode cX8_with 42 = .ok (.getfield 21, 3) := by decide +kernel
