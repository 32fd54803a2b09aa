set_option maxRecDepth 20000 in
theorem ggX0_init_X3_init : GoodIn wsX0_init wsX3_init := goodIn_r _ [9, 10, 2, 3, 11, 12, 13, 14, 15, 18, 19, 20, 21, 22, 23] (by decide +kernel) (by decide +kernel)
set_option maxRecDepth 20000 in
theorem gX0_init_X3_init_n17 : GoodIn wsX0_init (wsX3_init) := ggX0_init_X3_init
theorem dX0_init_0 : decode cX0_init 0 = .ok (.aload_n 0, 1) := by decide +kernel
theorem dX0_init_1 : decode cX0_init 1 = .ok (.invokespecial 3, 3) := by decide +kernel
theorem dX0_init_4 : decode cX0_init 4 = .ok (.aload_n 0, 1) := by decide +kernel
theorem dX0_init_5 : decode cX0_init 5 = .ok (.bipush 6, 2) := by decide +kernel
theorem dX0_init_7 : decode cX0_init 7 = .ok (.anewarray 9, 3) := by decide +kernel
theorem dX0_init_10 : decode cX0_init 10 = .ok (.putfield 11, 3) := by decide +kernel
theorem dX0_init_13 : decode cX0_init 13 = .ok (.iconst 0, 1) := by decide +kernel
theorem dX0_init_14 : decode cX0_init 14 = .ok (.istore_n 1, 1) := by decide +kernel
theorem dX0_init_15 : decode cX0_init 15 = .ok (.iload_n 1, 1) := by decide +kernel
theorem dX0_init_16 : decode cX0_init 16 = .ok (.bipush 6, 2) := by decide +kernel
theorem dX0_init_18 : decode cX0_init 18 = .ok (.if_icmp .ge 22, 3) := by decide +kernel
theorem dX0_init_21 : decode cX0_init 21 = .ok (.aload_n 0, 1) := by decide +kernel
theorem dX0_init_22 : decode cX0_init 22 = .ok (.getfield 11, 3) := by decide +kernel
theorem dX0_init_25 : decode cX0_init 25 = .ok (.iload_n 1, 1) := by decide +kernel
theorem dX0_init_26 : decode cX0_init 26 = .ok (.new 9, 3) := by decide +kernel
theorem dX0_init_29 : decode cX0_init 29 = .ok (.dup, 1) := by decide +kernel
theorem dX0_init_30 : decode cX0_init 30 = .ok (.invokespecial 17, 3) := by decide +kernel
theorem dX0_init_33 : decode cX0_init 33 = .ok (.aastore, 1) := by decide +kernel
theorem dX0_init_34 : decode cX0_init 34 = .ok (.iinc 1 1, 3) := by decide +kernel
theorem dX0_init_37 : decode cX0_init 37 = .ok (.goto (-22), 3) := by decide +kernel
theorem dX0_init_40 : decode cX0_init 40 = .ok (.return_, 1) := by decide +kernel
set_option maxRecDepth 20000 in
theorem ggX0_remember_X0_dropOldest : GoodIn wsX0_remember wsX0_dropOldest := goodIn_r _ [7, 2, 1, 23, 24] (by decide +kernel) (by decide +kernel)
set_option maxRecDepth 20000 in
theorem gX0_remember_X0_dropOldest : GoodIn wsX0_remember (wsV RX0 22 RX0 yX0_dropOldest wsX0_dropOldest) := goodIn_app (goodIn_of _ (by decide +kernel)) ggX0_remember_X0_dropOldest
set_option maxRecDepth 20000 in
theorem ggX0_remember_X3_copyFrom : GoodIn wsX0_remember wsX3_copyFrom := goodIn_r _ [12, 13, 14, 15, 16, 17, 18, 19, 20, 21, 22, 25, 26, 27, 28, 29, 30] (by decide +kernel) (by decide +kernel)
set_option maxRecDepth 20000 in
theorem gX0_remember_X3_copyFrom : GoodIn wsX0_remember (wsV RX0 25 RX3 yX3_copyFrom wsX3_copyFrom) := goodIn_app (goodIn_of _ (by decide +kernel)) ggX0_remember_X3_copyFrom
theorem dX0_remember_0 : decode cX0_remember 0 = .ok (.aload_n 0, 1) := by decide +kernel
theorem dX0_remember_1 : decode cX0_remember 1 = .ok (.getfield 18, 3) := by decide +kernel
theorem dX0_remember_4 : decode cX0_remember 4 = .ok (.bipush 6, 2) := by decide +kernel
theorem dX0_remember_6 : decode cX0_remember 6 = .ok (.if_icmp .lt 7, 3) := by decide +kernel
theorem dX0_remember_9 : decode cX0_remember 9 = .ok (.aload_n 0, 1) := by decide +kernel
theorem dX0_remember_10 : decode cX0_remember 10 = .ok (.invokevirtual 22, 3) := by decide +kernel
theorem dX0_remember_13 : decode cX0_remember 13 = .ok (.aload_n 0, 1) := by decide +kernel
theorem dX0_remember_14 : decode cX0_remember 14 = .ok (.getfield 11, 3) := by decide +kernel
theorem dX0_remember_17 : decode cX0_remember 17 = .ok (.aload_n 0, 1) := by decide +kernel
theorem dX0_remember_18 : decode cX0_remember 18 = .ok (.getfield 18, 3) := by decide +kernel
theorem dX0_remember_21 : decode cX0_remember 21 = .ok (.aaload, 1) := by decide +kernel
theorem dX0_remember_22 : decode cX0_remember 22 = .ok (.aload_n 1, 1) := by decide +kernel
theorem dX0_remember_23 : decode cX0_remember 23 = .ok (.invokevirtual 25, 3) := by decide +kernel
theorem dX0_remember_26 : decode cX0_remember 26 = .ok (.aload_n 0, 1) := by decide +kernel
theorem dX0_remember_27 : decode cX0_remember 27 = .ok (.dup, 1) := by decide +kernel
theorem dX0_remember_28 : decode cX0_remember 28 = .ok (.getfield 18, 3) := by decide +kernel
theorem dX0_remember_31 : decode cX0_remember 31 = .ok (.iconst 1, 1) := by decide +kernel
theorem dX0_remember_32 : decode cX0_remember 32 = .ok (.iadd, 1) := by decide +kernel
theorem dX0_remember_33 : decode cX0_remember 33 = .ok (.putfield 18, 3) := by decide +kernel
theorem dX0_remember_36 : decode cX0_remember 36 = .ok (.return_, 1) := by decide +kernel
theorem dX0_dropOldest_0 : decode cX0_dropOldest 0 = .ok (.aload_n 0, 1) := by decide +kernel
theorem dX0_dropOldest_1 : decode cX0_dropOldest 1 = .ok (.getfield 11, 3) := by decide +kernel
theorem dX0_dropOldest_4 : decode cX0_dropOldest 4 = .ok (.iconst 0, 1) := by decide +kernel
theorem dX0_dropOldest_5 : decode cX0_dropOldest 5 = .ok (.aaload, 1) := by decide +kernel
theorem dX0_dropOldest_6 : decode cX0_dropOldest 6 = .ok (.astore_n 1, 1) := by decide +kernel
theorem dX0_dropOldest_7 : decode cX0_dropOldest 7 = .ok (.iconst 1, 1) := by decide +kernel
theorem dX0_dropOldest_8 : decode cX0_dropOldest 8 = .ok (.istore_n 2, 1) := by decide +kernel
theorem dX0_dropOldest_9 : decode cX0_dropOldest 9 = .ok (.iload_n 2, 1) := by decide +kernel
theorem dX0_dropOldest_10 : decode cX0_dropOldest 10 = .ok (.bipush 6, 2) := by decide +kernel
theorem dX0_dropOldest_12 : decode cX0_dropOldest 12 = .ok (.if_icmp .ge 23, 3) := by decide +kernel
theorem dX0_dropOldest_15 : decode cX0_dropOldest 15 = .ok (.aload_n 0, 1) := by decide +kernel
theorem dX0_dropOldest_16 : decode cX0_dropOldest 16 = .ok (.getfield 11, 3) := by decide +kernel
theorem dX0_dropOldest_19 : decode cX0_dropOldest 19 = .ok (.iload_n 2, 1) := by decide +kernel
theorem dX0_dropOldest_20 : decode cX0_dropOldest 20 = .ok (.iconst 1, 1) := by decide +kernel
theorem dX0_dropOldest_21 : decode cX0_dropOldest 21 = .ok (.isub, 1) := by decide +kernel
theorem dX0_dropOldest_22 : decode cX0_dropOldest 22 = .ok (.aload_n 0, 1) := by decide +kernel
theorem dX0_dropOldest_23 : decode cX0_dropOldest 23 = .ok (.getfield 11, 3) := by decide +kernel
theorem dX0_dropOldest_26 : decode cX0_dropOldest 26 = .ok (.iload_n 2, 1) := by decide +kernel
theorem dX0_dropOldest_27 : decode cX0_dropOldest 27 = .ok (.aaload, 1) := by decide +kernel
theorem dX0_dropOldest_28 : decode cX0_dropOldest 28 = .ok (.aastore, 1) := by decide +kernel
theorem dX0_dropOldest_29 : decode cX0_dropOldest 29 = .ok (.iinc 2 1, 3) := by decide +kernel
theorem dX0_dropOldest_32 : decode cX0_dropOldest 32 = .ok (.goto (-23), 3) := by decide +kernel
theorem dX0_dropOldest_35 : decode cX0_dropOldest 35 = .ok (.aload_n 0, 1) := by decide +kernel
theorem dX0_dropOldest_36 : decode cX0_dropOldest 36 = .ok (.getfield 11, 3) := by decide +kernel
theorem dX0_dropOldest_39 : decode cX0_dropOldest 39 = .ok (.iconst 5, 1) := by decide +kernel
theorem dX0_dropOldest_40 : decode cX0_dropOldest 40 = .ok (.aload_n 1, 1) := by decide +kernel
theorem dX0_dropOldest_41 : decode cX0_dropOldest 41 = .ok (.aastore, 1) := by decide +kernel
theorem dX0_dropOldest_42 : decode cX0_dropOldest 42 = .ok (.aload_n 0, 1) := by decide +kernel
theorem dX0_dropOldest_43 : decode cX0_dropOldest 43 = .ok (.iconst 5, 1) := by decide +kernel
theorem dX0_dropOldest_44 : decode cX0_dropOldest 44 = .ok (.putfield 18, 3) := by decide +kernel
theorem dX0_dropOldest_47 : decode cX0_dropOldest 47 = .ok (.return_, 1) := by decide +kernel
theorem dX0_takeLatest_0 : decode cX0_takeLatest 0 = .ok (.aload_n 0, 1) := by decide +kernel
theorem dX0_takeLatest_1 : decode cX0_takeLatest 1 = .ok (.iconst 0, 1) := by decide +kernel
theorem dX0_takeLatest_2 : decode cX0_takeLatest 2 = .ok (.aload_n 0, 1) := by decide +kernel
theorem dX0_takeLatest_3 : decode cX0_takeLatest 3 = .ok (.getfield 18, 3) := by decide +kernel
theorem dX0_takeLatest_6 : decode cX0_takeLatest 6 = .ok (.iconst 1, 1) := by decide +kernel
theorem dX0_takeLatest_7 : decode cX0_takeLatest 7 = .ok (.isub, 1) := by decide +kernel
theorem dX0_takeLatest_8 : decode cX0_takeLatest 8 = .ok (.invokestatic 29, 3) := by decide +kernel
theorem dX0_takeLatest_11 : decode cX0_takeLatest 11 = .ok (.putfield 18, 3) := by decide +kernel
theorem dX0_takeLatest_14 : decode cX0_takeLatest 14 = .ok (.aload_n 0, 1) := by decide +kernel
theorem dX0_takeLatest_15 : decode cX0_takeLatest 15 = .ok (.getfield 11, 3) := by decide +kernel
theorem dX0_takeLatest_18 : decode cX0_takeLatest 18 = .ok (.aload_n 0, 1) := by decide +kernel
theorem dX0_takeLatest_19 : decode cX0_takeLatest 19 = .ok (.getfield 18, 3) := by decide +kernel
theorem dX0_takeLatest_22 : decode cX0_takeLatest 22 = .ok (.aaload, 1) := by decide +kernel
theorem dX0_takeLatest_23 : decode cX0_takeLatest 23 = .ok (.areturn, 1) := by decide +kernel
theorem dX1_isPlace_0 : decode cX1_isPlace 0 = .ok (.iload_n 0, 1) := by decide +kernel
theorem dX1_isPlace_1 : decode cX1_isPlace 1 = .ok (.ifCond .lt 23, 3) := by decide +kernel
theorem dX1_isPlace_4 : decode cX1_isPlace 4 = .ok (.iload_n 0, 1) := by decide +kernel
theorem dX1_isPlace_5 : decode cX1_isPlace 5 = .ok (.bipush 64, 2) := by decide +kernel
theorem dX1_isPlace_7 : decode cX1_isPlace 7 = .ok (.if_icmp .ge 17, 3) := by decide +kernel
theorem dX1_isPlace_10 : decode cX1_isPlace 10 = .ok (.iload_n 1, 1) := by decide +kernel
theorem dX1_isPlace_11 : decode cX1_isPlace 11 = .ok (.ifCond .lt 13, 3) := by decide +kernel
theorem dX1_isPlace_14 : decode cX1_isPlace 14 = .ok (.iload_n 1, 1) := by decide +kernel
theorem dX1_isPlace_15 : decode cX1_isPlace 15 = .ok (.bipush 64, 2) := by decide +kernel
theorem dX1_isPlace_17 : decode cX1_isPlace 17 = .ok (.if_icmp .ge 7, 3) := by decide +kernel
theorem dX1_isPlace_20 : decode cX1_isPlace 20 = .ok (.iconst 1, 1) := by decide +kernel
theorem dX1_isPlace_21 : decode cX1_isPlace 21 = .ok (.goto 4, 3) := by decide +kernel
theorem dX1_isPlace_24 : decode cX1_isPlace 24 = .ok (.iconst 0, 1) := by decide +kernel
theorem dX1_isPlace_25 : decode cX1_isPlace 25 = .ok (.ireturn, 1) := by decide +kernel
theorem dX1_placeAt_0 : decode cX1_placeAt 0 = .ok (.sipush 4096, 3) := by decide +kernel
theorem dX1_placeAt_3 : decode cX1_placeAt 3 = .ok (.istore_n 2, 1) := by decide +kernel
theorem dX1_placeAt_4 : decode cX1_placeAt 4 = .ok (.iconst 0, 1) := by decide +kernel
theorem dX1_placeAt_5 : decode cX1_placeAt 5 = .ok (.istore_n 3, 1) := by decide +kernel
theorem dX1_placeAt_6 : decode cX1_placeAt 6 = .ok (.iload_n 3, 1) := by decide +kernel
theorem dX1_placeAt_7 : decode cX1_placeAt 7 = .ok (.bipush 6, 2) := by decide +kernel
theorem dX1_placeAt_9 : decode cX1_placeAt 9 = .ok (.if_icmp .ge 35, 3) := by decide +kernel
theorem dX1_placeAt_12 : decode cX1_placeAt 12 = .ok (.iload_n 2, 1) := by decide +kernel
theorem dX1_placeAt_13 : decode cX1_placeAt 13 = .ok (.iload_n 0, 1) := by decide +kernel
theorem dX1_placeAt_14 : decode cX1_placeAt 14 = .ok (.iload_n 3, 1) := by decide +kernel
theorem dX1_placeAt_15 : decode cX1_placeAt 15 = .ok (.ishr, 1) := by decide +kernel
theorem dX1_placeAt_16 : decode cX1_placeAt 16 = .ok (.iconst 1, 1) := by decide +kernel
theorem dX1_placeAt_17 : decode cX1_placeAt 17 = .ok (.iand, 1) := by decide +kernel
theorem dX1_placeAt_18 : decode cX1_placeAt 18 = .ok (.iconst 2, 1) := by decide +kernel
theorem dX1_placeAt_19 : decode cX1_placeAt 19 = .ok (.iload_n 3, 1) := by decide +kernel
theorem dX1_placeAt_20 : decode cX1_placeAt 20 = .ok (.imul, 1) := by decide +kernel
theorem dX1_placeAt_21 : decode cX1_placeAt 21 = .ok (.ishl, 1) := by decide +kernel
theorem dX1_placeAt_22 : decode cX1_placeAt 22 = .ok (.iadd, 1) := by decide +kernel
theorem dX1_placeAt_23 : decode cX1_placeAt 23 = .ok (.istore_n 2, 1) := by decide +kernel
theorem dX1_placeAt_24 : decode cX1_placeAt 24 = .ok (.iload_n 2, 1) := by decide +kernel
theorem dX1_placeAt_25 : decode cX1_placeAt 25 = .ok (.iload_n 1, 1) := by decide +kernel
theorem dX1_placeAt_26 : decode cX1_placeAt 26 = .ok (.iload_n 3, 1) := by decide +kernel
theorem dX1_placeAt_27 : decode cX1_placeAt 27 = .ok (.ishr, 1) := by decide +kernel
theorem dX1_placeAt_28 : decode cX1_placeAt 28 = .ok (.iconst 1, 1) := by decide +kernel
theorem dX1_placeAt_29 : decode cX1_placeAt 29 = .ok (.iand, 1) := by decide +kernel
theorem dX1_placeAt_30 : decode cX1_placeAt 30 = .ok (.iconst 2, 1) := by decide +kernel
theorem dX1_placeAt_31 : decode cX1_placeAt 31 = .ok (.iload_n 3, 1) := by decide +kernel
theorem dX1_placeAt_32 : decode cX1_placeAt 32 = .ok (.imul, 1) := by decide +kernel
theorem dX1_placeAt_33 : decode cX1_placeAt 33 = .ok (.iconst 1, 1) := by decide +kernel
theorem dX1_placeAt_34 : decode cX1_placeAt 34 = .ok (.iadd, 1) := by decide +kernel
theorem dX1_placeAt_35 : decode cX1_placeAt 35 = .ok (.ishl, 1) := by decide +kernel
theorem dX1_placeAt_36 : decode cX1_placeAt 36 = .ok (.iadd, 1) := by decide +kernel
theorem dX1_placeAt_37 : decode cX1_placeAt 37 = .ok (.istore_n 2, 1) := by decide +kernel
theorem dX1_placeAt_38 : decode cX1_placeAt 38 = .ok (.iinc 3 1, 3) := by decide +kernel
theorem dX1_placeAt_41 : decode cX1_placeAt 41 = .ok (.goto (-35), 3) := by decide +kernel
theorem dX1_placeAt_44 : decode cX1_placeAt 44 = .ok (.iload_n 2, 1) := by decide +kernel
theorem dX1_placeAt_45 : decode cX1_placeAt 45 = .ok (.ireturn, 1) := by decide +kernel
theorem dX1_depthOf_0 : decode cX1_depthOf 0 = .ok (.iconst 0, 1) := by decide +kernel
theorem dX1_depthOf_1 : decode cX1_depthOf 1 = .ok (.istore_n 1, 1) := by decide +kernel
theorem dX1_depthOf_2 : decode cX1_depthOf 2 = .ok (.iload_n 1, 1) := by decide +kernel
theorem dX1_depthOf_3 : decode cX1_depthOf 3 = .ok (.bipush 6, 2) := by decide +kernel
theorem dX1_depthOf_5 : decode cX1_depthOf 5 = .ok (.if_icmp .gt 20, 3) := by decide +kernel
theorem dX1_depthOf_8 : decode cX1_depthOf 8 = .ok (.iload_n 0, 1) := by decide +kernel
theorem dX1_depthOf_9 : decode cX1_depthOf 9 = .ok (.iconst 2, 1) := by decide +kernel
theorem dX1_depthOf_10 : decode cX1_depthOf 10 = .ok (.iload_n 1, 1) := by decide +kernel
theorem dX1_depthOf_11 : decode cX1_depthOf 11 = .ok (.imul, 1) := by decide +kernel
theorem dX1_depthOf_12 : decode cX1_depthOf 12 = .ok (.ishr, 1) := by decide +kernel
theorem dX1_depthOf_13 : decode cX1_depthOf 13 = .ok (.iconst 1, 1) := by decide +kernel
theorem dX1_depthOf_14 : decode cX1_depthOf 14 = .ok (.if_icmp .ne 5, 3) := by decide +kernel
theorem dX1_depthOf_17 : decode cX1_depthOf 17 = .ok (.iload_n 1, 1) := by decide +kernel
theorem dX1_depthOf_18 : decode cX1_depthOf 18 = .ok (.ireturn, 1) := by decide +kernel
theorem dX1_depthOf_19 : decode cX1_depthOf 19 = .ok (.iinc 1 1, 3) := by decide +kernel
theorem dX1_depthOf_22 : decode cX1_depthOf 22 = .ok (.goto (-20), 3) := by decide +kernel
theorem dX1_depthOf_25 : decode cX1_depthOf 25 = .ok (.bipush (-6), 2) := by decide +kernel
theorem dX1_depthOf_27 : decode cX1_depthOf 27 = .ok (.ireturn, 1) := by decide +kernel
theorem dX1_sizeAt_0 : decode cX1_sizeAt 0 = .ok (.bipush 64, 2) := by decide +kernel
theorem dX1_sizeAt_2 : decode cX1_sizeAt 2 = .ok (.iload_n 0, 1) := by decide +kernel
theorem dX1_sizeAt_3 : decode cX1_sizeAt 3 = .ok (.ishr, 1) := by decide +kernel
theorem dX1_sizeAt_4 : decode cX1_sizeAt 4 = .ok (.ireturn, 1) := by decide +kernel
theorem dX1_upTo_0 : decode cX1_upTo 0 = .ok (.iload_n 0, 1) := by decide +kernel
theorem dX1_upTo_1 : decode cX1_upTo 1 = .ok (.iconst 2, 1) := by decide +kernel
theorem dX1_upTo_2 : decode cX1_upTo 2 = .ok (.iload_n 1, 1) := by decide +kernel
theorem dX1_upTo_3 : decode cX1_upTo 3 = .ok (.iload_n 2, 1) := by decide +kernel
theorem dX1_upTo_4 : decode cX1_upTo 4 = .ok (.isub, 1) := by decide +kernel
theorem dX1_upTo_5 : decode cX1_upTo 5 = .ok (.imul, 1) := by decide +kernel
theorem dX1_upTo_6 : decode cX1_upTo 6 = .ok (.ishr, 1) := by decide +kernel
theorem dX1_upTo_7 : decode cX1_upTo 7 = .ok (.ireturn, 1) := by decide +kernel
theorem dX1_leastPlace_0 : decode cX1_leastPlace 0 = .ok (.iload_n 0, 1) := by decide +kernel
theorem dX1_leastPlace_1 : decode cX1_leastPlace 1 = .ok (.iconst 2, 1) := by decide +kernel
theorem dX1_leastPlace_2 : decode cX1_leastPlace 2 = .ok (.bipush 6, 2) := by decide +kernel
theorem dX1_leastPlace_4 : decode cX1_leastPlace 4 = .ok (.iload_n 1, 1) := by decide +kernel
theorem dX1_leastPlace_5 : decode cX1_leastPlace 5 = .ok (.isub, 1) := by decide +kernel
theorem dX1_leastPlace_6 : decode cX1_leastPlace 6 = .ok (.imul, 1) := by decide +kernel
theorem dX1_leastPlace_7 : decode cX1_leastPlace 7 = .ok (.ishl, 1) := by decide +kernel
theorem dX1_leastPlace_8 : decode cX1_leastPlace 8 = .ok (.ireturn, 1) := by decide +kernel
set_option maxRecDepth 20000 in
theorem ggX1_leastX_X1_leastPlace : GoodIn wsX1_leastX wsX1_leastPlace := goodIn_r _ [4] (by decide +kernel) (by decide +kernel)
set_option maxRecDepth 20000 in
theorem gX1_leastX_X1_leastPlace : GoodIn wsX1_leastX (va_wsS RX1 9 yX1_leastPlace wsX1_leastPlace) := goodIn_app (goodIn_of _ (by decide +kernel)) ggX1_leastX_X1_leastPlace
set_option maxRecDepth 20000 in
theorem ggX1_leastX_X1_everySecondBit : GoodIn wsX1_leastX wsX1_everySecondBit := goodIn_r _ [7] (by decide +kernel) (by decide +kernel)
set_option maxRecDepth 20000 in
theorem gX1_leastX_X1_everySecondBit : GoodIn wsX1_leastX (va_wsS RX1 15 yX1_everySecondBit wsX1_everySecondBit) := goodIn_app (goodIn_of _ (by decide +kernel)) ggX1_leastX_X1_everySecondBit
theorem dX1_leastX_0 : decode cX1_leastX 0 = .ok (.iload_n 0, 1) := by decide +kernel
theorem dX1_leastX_1 : decode cX1_leastX 1 = .ok (.iload_n 1, 1) := by decide +kernel
theorem dX1_leastX_2 : decode cX1_leastX 2 = .ok (.invokestatic 9, 3) := by decide +kernel
theorem dX1_leastX_5 : decode cX1_leastX 5 = .ok (.invokestatic 15, 3) := by decide +kernel
theorem dX1_leastX_8 : decode cX1_leastX 8 = .ok (.ireturn, 1) := by decide +kernel
set_option maxRecDepth 20000 in
theorem ggX1_leastY_X1_leastPlace : GoodIn wsX1_leastY wsX1_leastPlace := goodIn_r _ [4] (by decide +kernel) (by decide +kernel)
set_option maxRecDepth 20000 in
theorem gX1_leastY_X1_leastPlace : GoodIn wsX1_leastY (va_wsS RX1 9 yX1_leastPlace wsX1_leastPlace) := goodIn_app (goodIn_of _ (by decide +kernel)) ggX1_leastY_X1_leastPlace
set_option maxRecDepth 20000 in
theorem ggX1_leastY_X1_everySecondBit : GoodIn wsX1_leastY wsX1_everySecondBit := goodIn_r _ [7] (by decide +kernel) (by decide +kernel)
set_option maxRecDepth 20000 in
theorem gX1_leastY_X1_everySecondBit : GoodIn wsX1_leastY (va_wsS RX1 15 yX1_everySecondBit wsX1_everySecondBit) := goodIn_app (goodIn_of _ (by decide +kernel)) ggX1_leastY_X1_everySecondBit
theorem dX1_leastY_0 : decode cX1_leastY 0 = .ok (.iload_n 0, 1) := by decide +kernel
theorem dX1_leastY_1 : decode cX1_leastY 1 = .ok (.iload_n 1, 1) := by decide +kernel
theorem dX1_leastY_2 : decode cX1_leastY 2 = .ok (.invokestatic 9, 3) := by decide +kernel
theorem dX1_leastY_5 : decode cX1_leastY 5 = .ok (.iconst 1, 1) := by decide +kernel
theorem dX1_leastY_6 : decode cX1_leastY 6 = .ok (.ishr, 1) := by decide +kernel
theorem dX1_leastY_7 : decode cX1_leastY 7 = .ok (.invokestatic 15, 3) := by decide +kernel
theorem dX1_leastY_10 : decode cX1_leastY 10 = .ok (.ireturn, 1) := by decide +kernel
theorem dX1_everySecondBit_0 : decode cX1_everySecondBit 0 = .ok (.iconst 0, 1) := by decide +kernel
theorem dX1_everySecondBit_1 : decode cX1_everySecondBit 1 = .ok (.istore_n 1, 1) := by decide +kernel
theorem dX1_everySecondBit_2 : decode cX1_everySecondBit 2 = .ok (.iconst 0, 1) := by decide +kernel
theorem dX1_everySecondBit_3 : decode cX1_everySecondBit 3 = .ok (.istore_n 2, 1) := by decide +kernel
theorem dX1_everySecondBit_4 : decode cX1_everySecondBit 4 = .ok (.iload_n 2, 1) := by decide +kernel
theorem dX1_everySecondBit_5 : decode cX1_everySecondBit 5 = .ok (.bipush 6, 2) := by decide +kernel
theorem dX1_everySecondBit_7 : decode cX1_everySecondBit 7 = .ok (.if_icmp .ge 21, 3) := by decide +kernel
theorem dX1_everySecondBit_10 : decode cX1_everySecondBit 10 = .ok (.iload_n 1, 1) := by decide +kernel
theorem dX1_everySecondBit_11 : decode cX1_everySecondBit 11 = .ok (.iload_n 0, 1) := by decide +kernel
theorem dX1_everySecondBit_12 : decode cX1_everySecondBit 12 = .ok (.iconst 2, 1) := by decide +kernel
theorem dX1_everySecondBit_13 : decode cX1_everySecondBit 13 = .ok (.iload_n 2, 1) := by decide +kernel
theorem dX1_everySecondBit_14 : decode cX1_everySecondBit 14 = .ok (.imul, 1) := by decide +kernel
theorem dX1_everySecondBit_15 : decode cX1_everySecondBit 15 = .ok (.ishr, 1) := by decide +kernel
theorem dX1_everySecondBit_16 : decode cX1_everySecondBit 16 = .ok (.iconst 1, 1) := by decide +kernel
theorem dX1_everySecondBit_17 : decode cX1_everySecondBit 17 = .ok (.iand, 1) := by decide +kernel
theorem dX1_everySecondBit_18 : decode cX1_everySecondBit 18 = .ok (.iload_n 2, 1) := by decide +kernel
theorem dX1_everySecondBit_19 : decode cX1_everySecondBit 19 = .ok (.ishl, 1) := by decide +kernel
theorem dX1_everySecondBit_20 : decode cX1_everySecondBit 20 = .ok (.iadd, 1) := by decide +kernel
theorem dX1_everySecondBit_21 : decode cX1_everySecondBit 21 = .ok (.istore_n 1, 1) := by decide +kernel
theorem dX1_everySecondBit_22 : decode cX1_everySecondBit 22 = .ok (.iinc 2 1, 3) := by decide +kernel
theorem dX1_everySecondBit_25 : decode cX1_everySecondBit 25 = .ok (.goto (-21), 3) := by decide +kernel
theorem dX1_everySecondBit_28 : decode cX1_everySecondBit 28 = .ok (.iload_n 1, 1) := by decide +kernel
theorem dX1_everySecondBit_29 : decode cX1_everySecondBit 29 = .ok (.ireturn, 1) := by decide +kernel
set_option maxRecDepth 20000 in
theorem ggX1_nextTo_X1_sizeAt : GoodIn wsX1_nextTo wsX1_sizeAt := goodIn_r _ [6] (by decide +kernel) (by decide +kernel)
set_option maxRecDepth 20000 in
theorem gX1_nextTo_X1_sizeAt : GoodIn wsX1_nextTo (va_wsS RX1 19 yX1_sizeAt wsX1_sizeAt) := goodIn_app (goodIn_of _ (by decide +kernel)) ggX1_nextTo_X1_sizeAt
set_option maxRecDepth 20000 in
theorem ggX1_nextTo_X1_leastX : GoodIn wsX1_nextTo wsX1_leastX := goodIn_r _ [9, 10, 11, 5, 12, 13, 14, 15] (by decide +kernel) (by decide +kernel)
set_option maxRecDepth 20000 in
theorem gX1_nextTo_X1_leastX : GoodIn wsX1_nextTo (va_wsS RX1 22 yX1_leastX wsX1_leastX) := goodIn_app (goodIn_of _ (by decide +kernel)) ggX1_nextTo_X1_leastX
set_option maxRecDepth 20000 in
theorem ggX1_nextTo_X1_leastY : GoodIn wsX1_nextTo wsX1_leastY := goodIn_r _ [18, 10, 11, 5, 12, 13, 14, 15] (by decide +kernel) (by decide +kernel)
set_option maxRecDepth 20000 in
theorem gX1_nextTo_X1_leastY : GoodIn wsX1_nextTo (va_wsS RX1 29 yX1_leastY wsX1_leastY) := goodIn_app (goodIn_of _ (by decide +kernel)) ggX1_nextTo_X1_leastY
set_option maxRecDepth 20000 in
theorem ggX1_nextTo_X1_isPlace : GoodIn wsX1_nextTo wsX1_isPlace := goodIn_r _ [21] (by decide +kernel) (by decide +kernel)
set_option maxRecDepth 20000 in
theorem gX1_nextTo_X1_isPlace : GoodIn wsX1_nextTo (va_wsS RX1 35 yX1_isPlace wsX1_isPlace) := goodIn_app (goodIn_of _ (by decide +kernel)) ggX1_nextTo_X1_isPlace
set_option maxRecDepth 20000 in
theorem ggX1_nextTo_X1_placeAt : GoodIn wsX1_nextTo wsX1_placeAt := goodIn_r _ [24] (by decide +kernel) (by decide +kernel)
set_option maxRecDepth 20000 in
theorem gX1_nextTo_X1_placeAt : GoodIn wsX1_nextTo (va_wsS RX1 39 yX1_placeAt wsX1_placeAt) := goodIn_app (goodIn_of _ (by decide +kernel)) ggX1_nextTo_X1_placeAt
set_option maxRecDepth 20000 in
theorem ggX1_nextTo_X1_upTo : GoodIn wsX1_nextTo wsX1_upTo := goodIn_r _ [27] (by decide +kernel) (by decide +kernel)
set_option maxRecDepth 20000 in
theorem gX1_nextTo_X1_upTo : GoodIn wsX1_nextTo (va_wsS RX1 42 yX1_upTo wsX1_upTo) := goodIn_app (goodIn_of _ (by decide +kernel)) ggX1_nextTo_X1_upTo
theorem dX1_nextTo_0 : decode cX1_nextTo 0 = .ok (.iload_n 2, 1) := by decide +kernel
theorem dX1_nextTo_1 : decode cX1_nextTo 1 = .ok (.ifCond .lt 9, 3) := by decide +kernel
theorem dX1_nextTo_4 : decode cX1_nextTo 4 = .ok (.iload_n 2, 1) := by decide +kernel
theorem dX1_nextTo_5 : decode cX1_nextTo 5 = .ok (.bipush 8, 2) := by decide +kernel
theorem dX1_nextTo_7 : decode cX1_nextTo 7 = .ok (.if_icmp .lt 6, 3) := by decide +kernel
theorem dX1_nextTo_10 : decode cX1_nextTo 10 = .ok (.bipush (-6), 2) := by decide +kernel
theorem dX1_nextTo_12 : decode cX1_nextTo 12 = .ok (.ireturn, 1) := by decide +kernel
theorem dX1_nextTo_13 : decode cX1_nextTo 13 = .ok (.iload_n 1, 1) := by decide +kernel
theorem dX1_nextTo_14 : decode cX1_nextTo 14 = .ok (.invokestatic 19, 3) := by decide +kernel
theorem dX1_nextTo_17 : decode cX1_nextTo 17 = .ok (.istore_n 3, 1) := by decide +kernel
theorem dX1_nextTo_18 : decode cX1_nextTo 18 = .ok (.iload_n 0, 1) := by decide +kernel
theorem dX1_nextTo_19 : decode cX1_nextTo 19 = .ok (.iload_n 1, 1) := by decide +kernel
theorem dX1_nextTo_20 : decode cX1_nextTo 20 = .ok (.invokestatic 22, 3) := by decide +kernel
theorem dX1_nextTo_23 : decode cX1_nextTo 23 = .ok (.getstatic 25, 3) := by decide +kernel
theorem dX1_nextTo_26 : decode cX1_nextTo 26 = .ok (.iload_n 2, 1) := by decide +kernel
theorem dX1_nextTo_27 : decode cX1_nextTo 27 = .ok (.iaload, 1) := by decide +kernel
theorem dX1_nextTo_28 : decode cX1_nextTo 28 = .ok (.iload_n 3, 1) := by decide +kernel
theorem dX1_nextTo_29 : decode cX1_nextTo 29 = .ok (.imul, 1) := by decide +kernel
theorem dX1_nextTo_30 : decode cX1_nextTo 30 = .ok (.iadd, 1) := by decide +kernel
theorem dX1_nextTo_31 : decode cX1_nextTo 31 = .ok (.istore 4, 2) := by decide +kernel
theorem dX1_nextTo_33 : decode cX1_nextTo 33 = .ok (.iload_n 0, 1) := by decide +kernel
theorem dX1_nextTo_34 : decode cX1_nextTo 34 = .ok (.iload_n 1, 1) := by decide +kernel
theorem dX1_nextTo_35 : decode cX1_nextTo 35 = .ok (.invokestatic 29, 3) := by decide +kernel
theorem dX1_nextTo_38 : decode cX1_nextTo 38 = .ok (.getstatic 32, 3) := by decide +kernel
theorem dX1_nextTo_41 : decode cX1_nextTo 41 = .ok (.iload_n 2, 1) := by decide +kernel
theorem dX1_nextTo_42 : decode cX1_nextTo 42 = .ok (.iaload, 1) := by decide +kernel
theorem dX1_nextTo_43 : decode cX1_nextTo 43 = .ok (.iload_n 3, 1) := by decide +kernel
theorem dX1_nextTo_44 : decode cX1_nextTo 44 = .ok (.imul, 1) := by decide +kernel
theorem dX1_nextTo_45 : decode cX1_nextTo 45 = .ok (.iadd, 1) := by decide +kernel
theorem dX1_nextTo_46 : decode cX1_nextTo 46 = .ok (.istore 5, 2) := by decide +kernel
theorem dX1_nextTo_48 : decode cX1_nextTo 48 = .ok (.iload 4, 2) := by decide +kernel
theorem dX1_nextTo_50 : decode cX1_nextTo 50 = .ok (.iload 5, 2) := by decide +kernel
theorem dX1_nextTo_52 : decode cX1_nextTo 52 = .ok (.invokestatic 35, 3) := by decide +kernel
theorem dX1_nextTo_55 : decode cX1_nextTo 55 = .ok (.ifCond .eq 19, 3) := by decide +kernel
theorem dX1_nextTo_58 : decode cX1_nextTo 58 = .ok (.iload 4, 2) := by decide +kernel
theorem dX1_nextTo_60 : decode cX1_nextTo 60 = .ok (.iload 5, 2) := by decide +kernel
theorem dX1_nextTo_62 : decode cX1_nextTo 62 = .ok (.invokestatic 39, 3) := by decide +kernel
theorem dX1_nextTo_65 : decode cX1_nextTo 65 = .ok (.bipush 6, 2) := by decide +kernel
theorem dX1_nextTo_67 : decode cX1_nextTo 67 = .ok (.iload_n 1, 1) := by decide +kernel
theorem dX1_nextTo_68 : decode cX1_nextTo 68 = .ok (.invokestatic 42, 3) := by decide +kernel
theorem dX1_nextTo_71 : decode cX1_nextTo 71 = .ok (.goto 5, 3) := by decide +kernel
theorem dX1_nextTo_74 : decode cX1_nextTo 74 = .ok (.bipush (-6), 2) := by decide +kernel
theorem dX1_nextTo_76 : decode cX1_nextTo 76 = .ok (.ireturn, 1) := by decide +kernel
set_option maxRecDepth 20000 in
theorem ggX1_squaresBetween_X1_leastX : GoodIn wsX1_squaresBetween wsX1_leastX := goodIn_r _ [4, 5, 6, 3, 7, 8, 9, 10] (by decide +kernel) (by decide +kernel)
set_option maxRecDepth 20000 in
theorem gX1_squaresBetween_X1_leastX : GoodIn wsX1_squaresBetween (va_wsS RX1 22 yX1_leastX wsX1_leastX) := goodIn_app (goodIn_of _ (by decide +kernel)) ggX1_squaresBetween_X1_leastX
set_option maxRecDepth 20000 in
theorem ggX1_squaresBetween_X1_leastY : GoodIn wsX1_squaresBetween wsX1_leastY := goodIn_r _ [13, 5, 6, 3, 7, 8, 9, 10] (by decide +kernel) (by decide +kernel)
set_option maxRecDepth 20000 in
theorem gX1_squaresBetween_X1_leastY : GoodIn wsX1_squaresBetween (va_wsS RX1 29 yX1_leastY wsX1_leastY) := goodIn_app (goodIn_of _ (by decide +kernel)) ggX1_squaresBetween_X1_leastY
theorem dX1_squaresBetween_0 : decode cX1_squaresBetween 0 = .ok (.iload_n 0, 1) := by decide +kernel
theorem dX1_squaresBetween_1 : decode cX1_squaresBetween 1 = .ok (.bipush 6, 2) := by decide +kernel
theorem dX1_squaresBetween_3 : decode cX1_squaresBetween 3 = .ok (.invokestatic 22, 3) := by decide +kernel
theorem dX1_squaresBetween_6 : decode cX1_squaresBetween 6 = .ok (.iload_n 1, 1) := by decide +kernel
theorem dX1_squaresBetween_7 : decode cX1_squaresBetween 7 = .ok (.isub, 1) := by decide +kernel
theorem dX1_squaresBetween_8 : decode cX1_squaresBetween 8 = .ok (.istore_n 3, 1) := by decide +kernel
theorem dX1_squaresBetween_9 : decode cX1_squaresBetween 9 = .ok (.iload_n 0, 1) := by decide +kernel
theorem dX1_squaresBetween_10 : decode cX1_squaresBetween 10 = .ok (.bipush 6, 2) := by decide +kernel
theorem dX1_squaresBetween_12 : decode cX1_squaresBetween 12 = .ok (.invokestatic 29, 3) := by decide +kernel
theorem dX1_squaresBetween_15 : decode cX1_squaresBetween 15 = .ok (.iload_n 2, 1) := by decide +kernel
theorem dX1_squaresBetween_16 : decode cX1_squaresBetween 16 = .ok (.isub, 1) := by decide +kernel
theorem dX1_squaresBetween_17 : decode cX1_squaresBetween 17 = .ok (.istore 4, 2) := by decide +kernel
theorem dX1_squaresBetween_19 : decode cX1_squaresBetween 19 = .ok (.iload_n 3, 1) := by decide +kernel
theorem dX1_squaresBetween_20 : decode cX1_squaresBetween 20 = .ok (.iload_n 3, 1) := by decide +kernel
theorem dX1_squaresBetween_21 : decode cX1_squaresBetween 21 = .ok (.imul, 1) := by decide +kernel
theorem dX1_squaresBetween_22 : decode cX1_squaresBetween 22 = .ok (.iload 4, 2) := by decide +kernel
theorem dX1_squaresBetween_24 : decode cX1_squaresBetween 24 = .ok (.iload 4, 2) := by decide +kernel
theorem dX1_squaresBetween_26 : decode cX1_squaresBetween 26 = .ok (.imul, 1) := by decide +kernel
theorem dX1_squaresBetween_27 : decode cX1_squaresBetween 27 = .ok (.iadd, 1) := by decide +kernel
theorem dX1_squaresBetween_28 : decode cX1_squaresBetween 28 = .ok (.ireturn, 1) := by decide +kernel
theorem dX2_init_0 : decode cX2_init 0 = .ok (.aload_n 0, 1) := by decide +kernel
theorem dX2_init_1 : decode cX2_init 1 = .ok (.invokespecial 3, 3) := by decide +kernel
theorem dX2_init_4 : decode cX2_init 4 = .ok (.aload_n 0, 1) := by decide +kernel
theorem dX2_init_5 : decode cX2_init 5 = .ok (.bipush 80, 2) := by decide +kernel
theorem dX2_init_7 : decode cX2_init 7 = .ok (.newarray .int, 2) := by decide +kernel
theorem dX2_init_9 : decode cX2_init 9 = .ok (.putfield 9, 3) := by decide +kernel
theorem dX2_init_12 : decode cX2_init 12 = .ok (.aload_n 0, 1) := by decide +kernel
theorem dX2_init_13 : decode cX2_init 13 = .ok (.bipush 20, 2) := by decide +kernel
theorem dX2_init_15 : decode cX2_init 15 = .ok (.newarray .int, 2) := by decide +kernel
theorem dX2_init_17 : decode cX2_init 17 = .ok (.putfield 15, 3) := by decide +kernel
theorem dX2_init_20 : decode cX2_init 20 = .ok (.return_, 1) := by decide +kernel
theorem dX2_codeIn_0 : decode cX2_codeIn 0 = .ok (.lload_n 0, 1) := by decide +kernel
theorem dX2_codeIn_1 : decode cX2_codeIn 1 = .ok (.bipush 8, 2) := by decide +kernel
theorem dX2_codeIn_3 : decode cX2_codeIn 3 = .ok (.iload_n 2, 1) := by decide +kernel
theorem dX2_codeIn_4 : decode cX2_codeIn 4 = .ok (.imul, 1) := by decide +kernel
theorem dX2_codeIn_5 : decode cX2_codeIn 5 = .ok (.lushr, 1) := by decide +kernel
theorem dX2_codeIn_6 : decode cX2_codeIn 6 = .ok (.l2i, 1) := by decide +kernel
theorem dX2_codeIn_7 : decode cX2_codeIn 7 = .ok (.sipush 255, 3) := by decide +kernel
theorem dX2_codeIn_10 : decode cX2_codeIn 10 = .ok (.iand, 1) := by decide +kernel
theorem dX2_codeIn_11 : decode cX2_codeIn 11 = .ok (.ireturn, 1) := by decide +kernel
set_option maxRecDepth 20000 in
theorem ggX2_charactersIn_X2_codeIn : GoodIn wsX2_charactersIn wsX2_codeIn := goodIn_r _ [4] (by decide +kernel) (by decide +kernel)
set_option maxRecDepth 20000 in
theorem gX2_charactersIn_X2_codeIn : GoodIn wsX2_charactersIn (va_wsS RX2 18 yX2_codeIn wsX2_codeIn) := goodIn_app (goodIn_of _ (by decide +kernel)) ggX2_charactersIn_X2_codeIn
theorem dX2_charactersIn_0 : decode cX2_charactersIn 0 = .ok (.iconst 0, 1) := by decide +kernel
theorem dX2_charactersIn_1 : decode cX2_charactersIn 1 = .ok (.istore_n 2, 1) := by decide +kernel
theorem dX2_charactersIn_2 : decode cX2_charactersIn 2 = .ok (.iload_n 2, 1) := by decide +kernel
theorem dX2_charactersIn_3 : decode cX2_charactersIn 3 = .ok (.bipush 8, 2) := by decide +kernel
theorem dX2_charactersIn_5 : decode cX2_charactersIn 5 = .ok (.if_icmp .ge 38, 3) := by decide +kernel
theorem dX2_charactersIn_8 : decode cX2_charactersIn 8 = .ok (.lload_n 0, 1) := by decide +kernel
theorem dX2_charactersIn_9 : decode cX2_charactersIn 9 = .ok (.iload_n 2, 1) := by decide +kernel
theorem dX2_charactersIn_10 : decode cX2_charactersIn 10 = .ok (.invokestatic 18, 3) := by decide +kernel
theorem dX2_charactersIn_13 : decode cX2_charactersIn 13 = .ok (.ifCond .eq 30, 3) := by decide +kernel
theorem dX2_charactersIn_16 : decode cX2_charactersIn 16 = .ok (.lload_n 0, 1) := by decide +kernel
theorem dX2_charactersIn_17 : decode cX2_charactersIn 17 = .ok (.iload_n 2, 1) := by decide +kernel
theorem dX2_charactersIn_18 : decode cX2_charactersIn 18 = .ok (.invokestatic 18, 3) := by decide +kernel
theorem dX2_charactersIn_21 : decode cX2_charactersIn 21 = .ok (.istore_n 3, 1) := by decide +kernel
theorem dX2_charactersIn_22 : decode cX2_charactersIn 22 = .ok (.iload_n 3, 1) := by decide +kernel
theorem dX2_charactersIn_23 : decode cX2_charactersIn 23 = .ok (.bipush 33, 2) := by decide +kernel
theorem dX2_charactersIn_25 : decode cX2_charactersIn 25 = .ok (.if_icmp .lt 9, 3) := by decide +kernel
theorem dX2_charactersIn_28 : decode cX2_charactersIn 28 = .ok (.iload_n 3, 1) := by decide +kernel
theorem dX2_charactersIn_29 : decode cX2_charactersIn 29 = .ok (.bipush 126, 2) := by decide +kernel
theorem dX2_charactersIn_31 : decode cX2_charactersIn 31 = .ok (.if_icmp .le 6, 3) := by decide +kernel
theorem dX2_charactersIn_34 : decode cX2_charactersIn 34 = .ok (.bipush (-6), 2) := by decide +kernel
theorem dX2_charactersIn_36 : decode cX2_charactersIn 36 = .ok (.ireturn, 1) := by decide +kernel
theorem dX2_charactersIn_37 : decode cX2_charactersIn 37 = .ok (.iinc 2 1, 3) := by decide +kernel
theorem dX2_charactersIn_40 : decode cX2_charactersIn 40 = .ok (.goto (-38), 3) := by decide +kernel
theorem dX2_charactersIn_43 : decode cX2_charactersIn 43 = .ok (.iload_n 2, 1) := by decide +kernel
theorem dX2_charactersIn_44 : decode cX2_charactersIn 44 = .ok (.istore_n 3, 1) := by decide +kernel
theorem dX2_charactersIn_45 : decode cX2_charactersIn 45 = .ok (.iload_n 3, 1) := by decide +kernel
theorem dX2_charactersIn_46 : decode cX2_charactersIn 46 = .ok (.bipush 8, 2) := by decide +kernel
theorem dX2_charactersIn_48 : decode cX2_charactersIn 48 = .ok (.if_icmp .ge 20, 3) := by decide +kernel
theorem dX2_charactersIn_51 : decode cX2_charactersIn 51 = .ok (.lload_n 0, 1) := by decide +kernel
theorem dX2_charactersIn_52 : decode cX2_charactersIn 52 = .ok (.iload_n 3, 1) := by decide +kernel
theorem dX2_charactersIn_53 : decode cX2_charactersIn 53 = .ok (.invokestatic 18, 3) := by decide +kernel
theorem dX2_charactersIn_56 : decode cX2_charactersIn 56 = .ok (.ifCond .eq 6, 3) := by decide +kernel
theorem dX2_charactersIn_59 : decode cX2_charactersIn 59 = .ok (.bipush (-6), 2) := by decide +kernel
theorem dX2_charactersIn_61 : decode cX2_charactersIn 61 = .ok (.ireturn, 1) := by decide +kernel
theorem dX2_charactersIn_62 : decode cX2_charactersIn 62 = .ok (.iinc 3 1, 3) := by decide +kernel
theorem dX2_charactersIn_65 : decode cX2_charactersIn 65 = .ok (.goto (-20), 3) := by decide +kernel
theorem dX2_charactersIn_68 : decode cX2_charactersIn 68 = .ok (.iload_n 2, 1) := by decide +kernel
theorem dX2_charactersIn_69 : decode cX2_charactersIn 69 = .ok (.ifCond .ne 8, 3) := by decide +kernel
theorem dX2_charactersIn_72 : decode cX2_charactersIn 72 = .ok (.bipush (-6), 2) := by decide +kernel
theorem dX2_charactersIn_74 : decode cX2_charactersIn 74 = .ok (.goto 4, 3) := by decide +kernel
theorem dX2_charactersIn_77 : decode cX2_charactersIn 77 = .ok (.iload_n 2, 1) := by decide +kernel
theorem dX2_charactersIn_78 : decode cX2_charactersIn 78 = .ok (.ireturn, 1) := by decide +kernel
set_option maxRecDepth 20000 in
theorem ggX2_append_X2_codeIn : GoodIn wsX2_append wsX2_codeIn := goodIn_r _ [6] (by decide +kernel) (by decide +kernel)
set_option maxRecDepth 20000 in
theorem gX2_append_X2_codeIn : GoodIn wsX2_append (va_wsS RX2 18 yX2_codeIn wsX2_codeIn) := goodIn_app (goodIn_of _ (by decide +kernel)) ggX2_append_X2_codeIn
theorem dX2_append_0 : decode cX2_append 0 = .ok (.iload_n 3, 1) := by decide +kernel
theorem dX2_append_1 : decode cX2_append 1 = .ok (.iconst 1, 1) := by decide +kernel
theorem dX2_append_2 : decode cX2_append 2 = .ok (.isub, 1) := by decide +kernel
theorem dX2_append_3 : decode cX2_append 3 = .ok (.istore 4, 2) := by decide +kernel
theorem dX2_append_5 : decode cX2_append 5 = .ok (.iload 4, 2) := by decide +kernel
theorem dX2_append_7 : decode cX2_append 7 = .ok (.ifCond .lt 43, 3) := by decide +kernel
theorem dX2_append_10 : decode cX2_append 10 = .ok (.aload_n 0, 1) := by decide +kernel
theorem dX2_append_11 : decode cX2_append 11 = .ok (.getfield 22, 3) := by decide +kernel
theorem dX2_append_14 : decode cX2_append 14 = .ok (.bipush 80, 2) := by decide +kernel
theorem dX2_append_16 : decode cX2_append 16 = .ok (.if_icmp .ge 34, 3) := by decide +kernel
theorem dX2_append_19 : decode cX2_append 19 = .ok (.aload_n 0, 1) := by decide +kernel
theorem dX2_append_20 : decode cX2_append 20 = .ok (.getfield 9, 3) := by decide +kernel
theorem dX2_append_23 : decode cX2_append 23 = .ok (.aload_n 0, 1) := by decide +kernel
theorem dX2_append_24 : decode cX2_append 24 = .ok (.getfield 22, 3) := by decide +kernel
theorem dX2_append_27 : decode cX2_append 27 = .ok (.lload_n 1, 1) := by decide +kernel
theorem dX2_append_28 : decode cX2_append 28 = .ok (.iload 4, 2) := by decide +kernel
theorem dX2_append_30 : decode cX2_append 30 = .ok (.invokestatic 18, 3) := by decide +kernel
theorem dX2_append_33 : decode cX2_append 33 = .ok (.iastore, 1) := by decide +kernel
theorem dX2_append_34 : decode cX2_append 34 = .ok (.aload_n 0, 1) := by decide +kernel
theorem dX2_append_35 : decode cX2_append 35 = .ok (.dup, 1) := by decide +kernel
theorem dX2_append_36 : decode cX2_append 36 = .ok (.getfield 22, 3) := by decide +kernel
theorem dX2_append_39 : decode cX2_append 39 = .ok (.iconst 1, 1) := by decide +kernel
theorem dX2_append_40 : decode cX2_append 40 = .ok (.iadd, 1) := by decide +kernel
theorem dX2_append_41 : decode cX2_append 41 = .ok (.putfield 22, 3) := by decide +kernel
theorem dX2_append_44 : decode cX2_append 44 = .ok (.iinc 4 (-1), 3) := by decide +kernel
theorem dX2_append_47 : decode cX2_append 47 = .ok (.goto (-42), 3) := by decide +kernel
theorem dX2_append_50 : decode cX2_append 50 = .ok (.return_, 1) := by decide +kernel
theorem dX2_empty_0 : decode cX2_empty 0 = .ok (.aload_n 0, 1) := by decide +kernel
theorem dX2_empty_1 : decode cX2_empty 1 = .ok (.iconst 0, 1) := by decide +kernel
theorem dX2_empty_2 : decode cX2_empty 2 = .ok (.putfield 22, 3) := by decide +kernel
theorem dX2_empty_5 : decode cX2_empty 5 = .ok (.return_, 1) := by decide +kernel
theorem dX2_codeAt_0 : decode cX2_codeAt 0 = .ok (.iload_n 1, 1) := by decide +kernel
theorem dX2_codeAt_1 : decode cX2_codeAt 1 = .ok (.ifCond .lt 26, 3) := by decide +kernel
theorem dX2_codeAt_4 : decode cX2_codeAt 4 = .ok (.iload_n 1, 1) := by decide +kernel
theorem dX2_codeAt_5 : decode cX2_codeAt 5 = .ok (.aload_n 0, 1) := by decide +kernel
theorem dX2_codeAt_6 : decode cX2_codeAt 6 = .ok (.getfield 22, 3) := by decide +kernel
theorem dX2_codeAt_9 : decode cX2_codeAt 9 = .ok (.if_icmp .ge 18, 3) := by decide +kernel
theorem dX2_codeAt_12 : decode cX2_codeAt 12 = .ok (.iload_n 1, 1) := by decide +kernel
theorem dX2_codeAt_13 : decode cX2_codeAt 13 = .ok (.bipush 80, 2) := by decide +kernel
theorem dX2_codeAt_15 : decode cX2_codeAt 15 = .ok (.if_icmp .ge 12, 3) := by decide +kernel
theorem dX2_codeAt_18 : decode cX2_codeAt 18 = .ok (.aload_n 0, 1) := by decide +kernel
theorem dX2_codeAt_19 : decode cX2_codeAt 19 = .ok (.getfield 9, 3) := by decide +kernel
theorem dX2_codeAt_22 : decode cX2_codeAt 22 = .ok (.iload_n 1, 1) := by decide +kernel
theorem dX2_codeAt_23 : decode cX2_codeAt 23 = .ok (.iaload, 1) := by decide +kernel
theorem dX2_codeAt_24 : decode cX2_codeAt 24 = .ok (.goto 4, 3) := by decide +kernel
theorem dX2_codeAt_27 : decode cX2_codeAt 27 = .ok (.iconst 0, 1) := by decide +kernel
theorem dX2_codeAt_28 : decode cX2_codeAt 28 = .ok (.ireturn, 1) := by decide +kernel
theorem dX2_isDigit_0 : decode cX2_isDigit 0 = .ok (.iload_n 0, 1) := by decide +kernel
theorem dX2_isDigit_1 : decode cX2_isDigit 1 = .ok (.bipush 48, 2) := by decide +kernel
theorem dX2_isDigit_3 : decode cX2_isDigit 3 = .ok (.if_icmp .lt 13, 3) := by decide +kernel
theorem dX2_isDigit_6 : decode cX2_isDigit 6 = .ok (.iload_n 0, 1) := by decide +kernel
theorem dX2_isDigit_7 : decode cX2_isDigit 7 = .ok (.bipush 57, 2) := by decide +kernel
theorem dX2_isDigit_9 : decode cX2_isDigit 9 = .ok (.if_icmp .gt 7, 3) := by decide +kernel
theorem dX2_isDigit_12 : decode cX2_isDigit 12 = .ok (.iconst 1, 1) := by decide +kernel
theorem dX2_isDigit_13 : decode cX2_isDigit 13 = .ok (.goto 4, 3) := by decide +kernel
theorem dX2_isDigit_16 : decode cX2_isDigit 16 = .ok (.iconst 0, 1) := by decide +kernel
theorem dX2_isDigit_17 : decode cX2_isDigit 17 = .ok (.ireturn, 1) := by decide +kernel
set_option maxRecDepth 20000 in
theorem ggX2_withDigit_X2_isDigit : GoodIn wsX2_withDigit wsX2_isDigit := goodIn_r _ [4] (by decide +kernel) (by decide +kernel)
set_option maxRecDepth 20000 in
theorem gX2_withDigit_X2_isDigit : GoodIn wsX2_withDigit (va_wsS RX2 26 yX2_isDigit wsX2_isDigit) := goodIn_app (goodIn_of _ (by decide +kernel)) ggX2_withDigit_X2_isDigit
theorem dX2_withDigit_0 : decode cX2_withDigit 0 = .ok (.iload_n 1, 1) := by decide +kernel
theorem dX2_withDigit_1 : decode cX2_withDigit 1 = .ok (.invokestatic 26, 3) := by decide +kernel
theorem dX2_withDigit_4 : decode cX2_withDigit 4 = .ok (.ifCond .eq 7, 3) := by decide +kernel
theorem dX2_withDigit_7 : decode cX2_withDigit 7 = .ok (.iload_n 0, 1) := by decide +kernel
theorem dX2_withDigit_8 : decode cX2_withDigit 8 = .ok (.ifCond .ne 5, 3) := by decide +kernel
theorem dX2_withDigit_11 : decode cX2_withDigit 11 = .ok (.iconst (-1), 1) := by decide +kernel
theorem dX2_withDigit_12 : decode cX2_withDigit 12 = .ok (.ireturn, 1) := by decide +kernel
theorem dX2_withDigit_13 : decode cX2_withDigit 13 = .ok (.iload_n 0, 1) := by decide +kernel
theorem dX2_withDigit_14 : decode cX2_withDigit 14 = .ok (.iconst (-1), 1) := by decide +kernel
theorem dX2_withDigit_15 : decode cX2_withDigit 15 = .ok (.if_icmp .ne 10, 3) := by decide +kernel
theorem dX2_withDigit_18 : decode cX2_withDigit 18 = .ok (.iload_n 1, 1) := by decide +kernel
theorem dX2_withDigit_19 : decode cX2_withDigit 19 = .ok (.bipush 48, 2) := by decide +kernel
theorem dX2_withDigit_21 : decode cX2_withDigit 21 = .ok (.isub, 1) := by decide +kernel
theorem dX2_withDigit_22 : decode cX2_withDigit 22 = .ok (.goto 12, 3) := by decide +kernel
theorem dX2_withDigit_25 : decode cX2_withDigit 25 = .ok (.bipush 10, 2) := by decide +kernel
theorem dX2_withDigit_27 : decode cX2_withDigit 27 = .ok (.iload_n 0, 1) := by decide +kernel
theorem dX2_withDigit_28 : decode cX2_withDigit 28 = .ok (.imul, 1) := by decide +kernel
theorem dX2_withDigit_29 : decode cX2_withDigit 29 = .ok (.iload_n 1, 1) := by decide +kernel
theorem dX2_withDigit_30 : decode cX2_withDigit 30 = .ok (.iadd, 1) := by decide +kernel
theorem dX2_withDigit_31 : decode cX2_withDigit 31 = .ok (.bipush 48, 2) := by decide +kernel
theorem dX2_withDigit_33 : decode cX2_withDigit 33 = .ok (.isub, 1) := by decide +kernel
theorem dX2_withDigit_34 : decode cX2_withDigit 34 = .ok (.istore_n 2, 1) := by decide +kernel
theorem dX2_withDigit_35 : decode cX2_withDigit 35 = .ok (.iload_n 2, 1) := by decide +kernel
theorem dX2_withDigit_36 : decode cX2_withDigit 36 = .ok (.bipush 64, 2) := by decide +kernel
theorem dX2_withDigit_38 : decode cX2_withDigit 38 = .ok (.if_icmp .ge 7, 3) := by decide +kernel
theorem dX2_withDigit_41 : decode cX2_withDigit 41 = .ok (.iload_n 2, 1) := by decide +kernel
theorem dX2_withDigit_42 : decode cX2_withDigit 42 = .ok (.goto 4, 3) := by decide +kernel
theorem dX2_withDigit_45 : decode cX2_withDigit 45 = .ok (.iconst (-1), 1) := by decide +kernel
theorem dX2_withDigit_46 : decode cX2_withDigit 46 = .ok (.ireturn, 1) := by decide +kernel
set_option maxRecDepth 20000 in
theorem ggX2_firstFault_X2_codeAt : GoodIn wsX2_firstFault wsX2_codeAt := goodIn_r _ [6, 1, 7, 14, 15, 16] (by decide +kernel) (by decide +kernel)
set_option maxRecDepth 20000 in
theorem gX2_firstFault_X2_codeAt : GoodIn wsX2_firstFault (wsV RX2 30 RX2 yX2_codeAt wsX2_codeAt) := goodIn_app (goodIn_of _ (by decide +kernel)) ggX2_firstFault_X2_codeAt
set_option maxRecDepth 20000 in
theorem ggX2_firstFault_X2_withDigit : GoodIn wsX2_firstFault wsX2_withDigit := goodIn_r _ [10, 11, 12, 5, 13] (by decide +kernel) (by decide +kernel)
set_option maxRecDepth 20000 in
theorem gX2_firstFault_X2_withDigit : GoodIn wsX2_firstFault (va_wsS RX2 34 yX2_withDigit wsX2_withDigit) := goodIn_app (goodIn_of _ (by decide +kernel)) ggX2_firstFault_X2_withDigit
theorem dX2_firstFault_0 : decode cX2_firstFault 0 = .ok (.iconst (-1), 1) := by decide +kernel
theorem dX2_firstFault_1 : decode cX2_firstFault 1 = .ok (.istore_n 1, 1) := by decide +kernel
theorem dX2_firstFault_2 : decode cX2_firstFault 2 = .ok (.iconst 0, 1) := by decide +kernel
theorem dX2_firstFault_3 : decode cX2_firstFault 3 = .ok (.istore_n 2, 1) := by decide +kernel
theorem dX2_firstFault_4 : decode cX2_firstFault 4 = .ok (.iconst 0, 1) := by decide +kernel
theorem dX2_firstFault_5 : decode cX2_firstFault 5 = .ok (.istore_n 3, 1) := by decide +kernel
theorem dX2_firstFault_6 : decode cX2_firstFault 6 = .ok (.iload_n 3, 1) := by decide +kernel
theorem dX2_firstFault_7 : decode cX2_firstFault 7 = .ok (.aload_n 0, 1) := by decide +kernel
theorem dX2_firstFault_8 : decode cX2_firstFault 8 = .ok (.getfield 22, 3) := by decide +kernel
theorem dX2_firstFault_11 : decode cX2_firstFault 11 = .ok (.if_icmp .ge 66, 3) := by decide +kernel
theorem dX2_firstFault_14 : decode cX2_firstFault 14 = .ok (.aload_n 0, 1) := by decide +kernel
theorem dX2_firstFault_15 : decode cX2_firstFault 15 = .ok (.iload_n 3, 1) := by decide +kernel
theorem dX2_firstFault_16 : decode cX2_firstFault 16 = .ok (.invokevirtual 30, 3) := by decide +kernel
theorem dX2_firstFault_19 : decode cX2_firstFault 19 = .ok (.istore 4, 2) := by decide +kernel
theorem dX2_firstFault_21 : decode cX2_firstFault 21 = .ok (.iload_n 1, 1) := by decide +kernel
theorem dX2_firstFault_22 : decode cX2_firstFault 22 = .ok (.iconst (-1), 1) := by decide +kernel
theorem dX2_firstFault_23 : decode cX2_firstFault 23 = .ok (.if_icmp .eq 34, 3) := by decide +kernel
theorem dX2_firstFault_26 : decode cX2_firstFault 26 = .ok (.iload 4, 2) := by decide +kernel
theorem dX2_firstFault_28 : decode cX2_firstFault 28 = .ok (.iload_n 2, 1) := by decide +kernel
theorem dX2_firstFault_29 : decode cX2_firstFault 29 = .ok (.ifCond .eq 8, 3) := by decide +kernel
theorem dX2_firstFault_32 : decode cX2_firstFault 32 = .ok (.bipush 59, 2) := by decide +kernel
theorem dX2_firstFault_34 : decode cX2_firstFault 34 = .ok (.goto 5, 3) := by decide +kernel
theorem dX2_firstFault_37 : decode cX2_firstFault 37 = .ok (.bipush 44, 2) := by decide +kernel
theorem dX2_firstFault_39 : decode cX2_firstFault 39 = .ok (.if_icmp .ne 18, 3) := by decide +kernel
theorem dX2_firstFault_42 : decode cX2_firstFault 42 = .ok (.iconst (-1), 1) := by decide +kernel
theorem dX2_firstFault_43 : decode cX2_firstFault 43 = .ok (.istore_n 1, 1) := by decide +kernel
theorem dX2_firstFault_44 : decode cX2_firstFault 44 = .ok (.iload_n 2, 1) := by decide +kernel
theorem dX2_firstFault_45 : decode cX2_firstFault 45 = .ok (.ifCond .ne 7, 3) := by decide +kernel
theorem dX2_firstFault_48 : decode cX2_firstFault 48 = .ok (.iconst 1, 1) := by decide +kernel
theorem dX2_firstFault_49 : decode cX2_firstFault 49 = .ok (.goto 4, 3) := by decide +kernel
theorem dX2_firstFault_52 : decode cX2_firstFault 52 = .ok (.iconst 0, 1) := by decide +kernel
theorem dX2_firstFault_53 : decode cX2_firstFault 53 = .ok (.istore_n 2, 1) := by decide +kernel
theorem dX2_firstFault_54 : decode cX2_firstFault 54 = .ok (.goto 17, 3) := by decide +kernel
theorem dX2_firstFault_57 : decode cX2_firstFault 57 = .ok (.iload_n 1, 1) := by decide +kernel
theorem dX2_firstFault_58 : decode cX2_firstFault 58 = .ok (.iload 4, 2) := by decide +kernel
theorem dX2_firstFault_60 : decode cX2_firstFault 60 = .ok (.invokestatic 34, 3) := by decide +kernel
theorem dX2_firstFault_63 : decode cX2_firstFault 63 = .ok (.istore_n 1, 1) := by decide +kernel
theorem dX2_firstFault_64 : decode cX2_firstFault 64 = .ok (.iload_n 1, 1) := by decide +kernel
theorem dX2_firstFault_65 : decode cX2_firstFault 65 = .ok (.iconst (-1), 1) := by decide +kernel
theorem dX2_firstFault_66 : decode cX2_firstFault 66 = .ok (.if_icmp .ne 5, 3) := by decide +kernel
theorem dX2_firstFault_69 : decode cX2_firstFault 69 = .ok (.iload_n 3, 1) := by decide +kernel
theorem dX2_firstFault_70 : decode cX2_firstFault 70 = .ok (.ireturn, 1) := by decide +kernel
theorem dX2_firstFault_71 : decode cX2_firstFault 71 = .ok (.iinc 3 1, 3) := by decide +kernel
theorem dX2_firstFault_74 : decode cX2_firstFault 74 = .ok (.goto (-68), 3) := by decide +kernel
theorem dX2_firstFault_77 : decode cX2_firstFault 77 = .ok (.iload_n 2, 1) := by decide +kernel
theorem dX2_firstFault_78 : decode cX2_firstFault 78 = .ok (.ifCond .eq 13, 3) := by decide +kernel
theorem dX2_firstFault_81 : decode cX2_firstFault 81 = .ok (.iload_n 1, 1) := by decide +kernel
theorem dX2_firstFault_82 : decode cX2_firstFault 82 = .ok (.iconst (-1), 1) := by decide +kernel
theorem dX2_firstFault_83 : decode cX2_firstFault 83 = .ok (.if_icmp .eq 8, 3) := by decide +kernel
theorem dX2_firstFault_86 : decode cX2_firstFault 86 = .ok (.bipush (-6), 2) := by decide +kernel
theorem dX2_firstFault_88 : decode cX2_firstFault 88 = .ok (.goto 7, 3) := by decide +kernel
theorem dX2_firstFault_91 : decode cX2_firstFault 91 = .ok (.aload_n 0, 1) := by decide +kernel
theorem dX2_firstFault_92 : decode cX2_firstFault 92 = .ok (.getfield 22, 3) := by decide +kernel
theorem dX2_firstFault_95 : decode cX2_firstFault 95 = .ok (.ireturn, 1) := by decide +kernel
set_option maxRecDepth 20000 in
theorem ggX2_readPlaces_X2_codeAt : GoodIn wsX2_readPlaces wsX2_codeAt := goodIn_r _ [7, 1, 8, 16, 17, 18] (by decide +kernel) (by decide +kernel)
set_option maxRecDepth 20000 in
theorem gX2_readPlaces_X2_codeAt : GoodIn wsX2_readPlaces (wsV RX2 30 RX2 yX2_codeAt wsX2_codeAt) := goodIn_app (goodIn_of _ (by decide +kernel)) ggX2_readPlaces_X2_codeAt
set_option maxRecDepth 20000 in
theorem ggX2_readPlaces_X2_isDigit : GoodIn wsX2_readPlaces wsX2_isDigit := goodIn_r _ [11] (by decide +kernel) (by decide +kernel)
set_option maxRecDepth 20000 in
theorem gX2_readPlaces_X2_isDigit : GoodIn wsX2_readPlaces (va_wsS RX2 26 yX2_isDigit wsX2_isDigit) := goodIn_app (goodIn_of _ (by decide +kernel)) ggX2_readPlaces_X2_isDigit
set_option maxRecDepth 20000 in
theorem ggX2_readPlaces_X1_placeAt : GoodIn wsX2_readPlaces wsX1_placeAt := goodIn_r _ [15] (by decide +kernel) (by decide +kernel)
set_option maxRecDepth 20000 in
theorem gX2_readPlaces_X1_placeAt : GoodIn wsX2_readPlaces (va_wsS RX2 38 yX1_placeAt wsX1_placeAt) := goodIn_app (goodIn_of _ (by decide +kernel)) ggX2_readPlaces_X1_placeAt
theorem dX2_readPlaces_0 : decode cX2_readPlaces 0 = .ok (.iconst 0, 1) := by decide +kernel
theorem dX2_readPlaces_1 : decode cX2_readPlaces 1 = .ok (.istore_n 1, 1) := by decide +kernel
theorem dX2_readPlaces_2 : decode cX2_readPlaces 2 = .ok (.iconst 0, 1) := by decide +kernel
theorem dX2_readPlaces_3 : decode cX2_readPlaces 3 = .ok (.istore_n 2, 1) := by decide +kernel
theorem dX2_readPlaces_4 : decode cX2_readPlaces 4 = .ok (.iconst 0, 1) := by decide +kernel
theorem dX2_readPlaces_5 : decode cX2_readPlaces 5 = .ok (.istore_n 3, 1) := by decide +kernel
theorem dX2_readPlaces_6 : decode cX2_readPlaces 6 = .ok (.iconst 0, 1) := by decide +kernel
theorem dX2_readPlaces_7 : decode cX2_readPlaces 7 = .ok (.istore 4, 2) := by decide +kernel
theorem dX2_readPlaces_9 : decode cX2_readPlaces 9 = .ok (.iload 4, 2) := by decide +kernel
theorem dX2_readPlaces_11 : decode cX2_readPlaces 11 = .ok (.aload_n 0, 1) := by decide +kernel
theorem dX2_readPlaces_12 : decode cX2_readPlaces 12 = .ok (.getfield 22, 3) := by decide +kernel
theorem dX2_readPlaces_15 : decode cX2_readPlaces 15 = .ok (.if_icmp .gt 78, 3) := by decide +kernel
theorem dX2_readPlaces_18 : decode cX2_readPlaces 18 = .ok (.aload_n 0, 1) := by decide +kernel
theorem dX2_readPlaces_19 : decode cX2_readPlaces 19 = .ok (.iload 4, 2) := by decide +kernel
theorem dX2_readPlaces_21 : decode cX2_readPlaces 21 = .ok (.invokevirtual 30, 3) := by decide +kernel
theorem dX2_readPlaces_24 : decode cX2_readPlaces 24 = .ok (.istore 5, 2) := by decide +kernel
theorem dX2_readPlaces_26 : decode cX2_readPlaces 26 = .ok (.iload 5, 2) := by decide +kernel
theorem dX2_readPlaces_28 : decode cX2_readPlaces 28 = .ok (.invokestatic 26, 3) := by decide +kernel
theorem dX2_readPlaces_31 : decode cX2_readPlaces 31 = .ok (.ifCond .eq 17, 3) := by decide +kernel
theorem dX2_readPlaces_34 : decode cX2_readPlaces 34 = .ok (.bipush 10, 2) := by decide +kernel
theorem dX2_readPlaces_36 : decode cX2_readPlaces 36 = .ok (.iload_n 3, 1) := by decide +kernel
theorem dX2_readPlaces_37 : decode cX2_readPlaces 37 = .ok (.imul, 1) := by decide +kernel
theorem dX2_readPlaces_38 : decode cX2_readPlaces 38 = .ok (.iload 5, 2) := by decide +kernel
theorem dX2_readPlaces_40 : decode cX2_readPlaces 40 = .ok (.iadd, 1) := by decide +kernel
theorem dX2_readPlaces_41 : decode cX2_readPlaces 41 = .ok (.bipush 48, 2) := by decide +kernel
theorem dX2_readPlaces_43 : decode cX2_readPlaces 43 = .ok (.isub, 1) := by decide +kernel
theorem dX2_readPlaces_44 : decode cX2_readPlaces 44 = .ok (.istore_n 3, 1) := by decide +kernel
theorem dX2_readPlaces_45 : decode cX2_readPlaces 45 = .ok (.goto 42, 3) := by decide +kernel
theorem dX2_readPlaces_48 : decode cX2_readPlaces 48 = .ok (.iload 5, 2) := by decide +kernel
theorem dX2_readPlaces_50 : decode cX2_readPlaces 50 = .ok (.bipush 44, 2) := by decide +kernel
theorem dX2_readPlaces_52 : decode cX2_readPlaces 52 = .ok (.if_icmp .ne 10, 3) := by decide +kernel
theorem dX2_readPlaces_55 : decode cX2_readPlaces 55 = .ok (.iload_n 3, 1) := by decide +kernel
theorem dX2_readPlaces_56 : decode cX2_readPlaces 56 = .ok (.istore_n 2, 1) := by decide +kernel
theorem dX2_readPlaces_57 : decode cX2_readPlaces 57 = .ok (.iconst 0, 1) := by decide +kernel
theorem dX2_readPlaces_58 : decode cX2_readPlaces 58 = .ok (.istore_n 3, 1) := by decide +kernel
theorem dX2_readPlaces_59 : decode cX2_readPlaces 59 = .ok (.goto 28, 3) := by decide +kernel
theorem dX2_readPlaces_62 : decode cX2_readPlaces 62 = .ok (.iload_n 1, 1) := by decide +kernel
theorem dX2_readPlaces_63 : decode cX2_readPlaces 63 = .ok (.aload_n 0, 1) := by decide +kernel
theorem dX2_readPlaces_64 : decode cX2_readPlaces 64 = .ok (.getfield 15, 3) := by decide +kernel
theorem dX2_readPlaces_67 : decode cX2_readPlaces 67 = .ok (.arraylength, 1) := by decide +kernel
theorem dX2_readPlaces_68 : decode cX2_readPlaces 68 = .ok (.if_icmp .ge 19, 3) := by decide +kernel
theorem dX2_readPlaces_71 : decode cX2_readPlaces 71 = .ok (.aload_n 0, 1) := by decide +kernel
theorem dX2_readPlaces_72 : decode cX2_readPlaces 72 = .ok (.getfield 15, 3) := by decide +kernel
theorem dX2_readPlaces_75 : decode cX2_readPlaces 75 = .ok (.iload_n 1, 1) := by decide +kernel
theorem dX2_readPlaces_76 : decode cX2_readPlaces 76 = .ok (.iload_n 2, 1) := by decide +kernel
theorem dX2_readPlaces_77 : decode cX2_readPlaces 77 = .ok (.iload_n 3, 1) := by decide +kernel
theorem dX2_readPlaces_78 : decode cX2_readPlaces 78 = .ok (.invokestatic 38, 3) := by decide +kernel
theorem dX2_readPlaces_81 : decode cX2_readPlaces 81 = .ok (.iastore, 1) := by decide +kernel
theorem dX2_readPlaces_82 : decode cX2_readPlaces 82 = .ok (.iinc 1 1, 3) := by decide +kernel
theorem dX2_readPlaces_85 : decode cX2_readPlaces 85 = .ok (.iconst 0, 1) := by decide +kernel
theorem dX2_readPlaces_86 : decode cX2_readPlaces 86 = .ok (.istore_n 3, 1) := by decide +kernel
theorem dX2_readPlaces_87 : decode cX2_readPlaces 87 = .ok (.iinc 4 1, 3) := by decide +kernel
theorem dX2_readPlaces_90 : decode cX2_readPlaces 90 = .ok (.goto (-81), 3) := by decide +kernel
theorem dX2_readPlaces_93 : decode cX2_readPlaces 93 = .ok (.iload_n 1, 1) := by decide +kernel
theorem dX2_readPlaces_94 : decode cX2_readPlaces 94 = .ok (.ireturn, 1) := by decide +kernel
theorem dX2_placeTold_0 : decode cX2_placeTold 0 = .ok (.iload_n 1, 1) := by decide +kernel
theorem dX2_placeTold_1 : decode cX2_placeTold 1 = .ok (.ifCond .lt 21, 3) := by decide +kernel
theorem dX2_placeTold_4 : decode cX2_placeTold 4 = .ok (.iload_n 1, 1) := by decide +kernel
theorem dX2_placeTold_5 : decode cX2_placeTold 5 = .ok (.aload_n 0, 1) := by decide +kernel
theorem dX2_placeTold_6 : decode cX2_placeTold 6 = .ok (.getfield 15, 3) := by decide +kernel
theorem dX2_placeTold_9 : decode cX2_placeTold 9 = .ok (.arraylength, 1) := by decide +kernel
theorem dX2_placeTold_10 : decode cX2_placeTold 10 = .ok (.if_icmp .ge 12, 3) := by decide +kernel
theorem dX2_placeTold_13 : decode cX2_placeTold 13 = .ok (.aload_n 0, 1) := by decide +kernel
theorem dX2_placeTold_14 : decode cX2_placeTold 14 = .ok (.getfield 15, 3) := by decide +kernel
theorem dX2_placeTold_17 : decode cX2_placeTold 17 = .ok (.iload_n 1, 1) := by decide +kernel
theorem dX2_placeTold_18 : decode cX2_placeTold 18 = .ok (.iaload, 1) := by decide +kernel
theorem dX2_placeTold_19 : decode cX2_placeTold 19 = .ok (.goto 5, 3) := by decide +kernel
theorem dX2_placeTold_22 : decode cX2_placeTold 22 = .ok (.bipush (-6), 2) := by decide +kernel
theorem dX2_placeTold_24 : decode cX2_placeTold 24 = .ok (.ireturn, 1) := by decide +kernel
theorem dX3_init_0 : decode cX3_init 0 = .ok (.aload_n 0, 1) := by decide +kernel
theorem dX3_init_1 : decode cX3_init 1 = .ok (.invokespecial 3, 3) := by decide +kernel
theorem dX3_init_4 : decode cX3_init 4 = .ok (.aload_n 0, 1) := by decide +kernel
theorem dX3_init_5 : decode cX3_init 5 = .ok (.bipush 50, 2) := by decide +kernel
theorem dX3_init_7 : decode cX3_init 7 = .ok (.newarray .int, 2) := by decide +kernel
theorem dX3_init_9 : decode cX3_init 9 = .ok (.putfield 9, 3) := by decide +kernel
theorem dX3_init_12 : decode cX3_init 12 = .ok (.aload_n 0, 1) := by decide +kernel
theorem dX3_init_13 : decode cX3_init 13 = .ok (.bipush 12, 2) := by decide +kernel
theorem dX3_init_15 : decode cX3_init 15 = .ok (.newarray .int, 2) := by decide +kernel
theorem dX3_init_17 : decode cX3_init 17 = .ok (.putfield 15, 3) := by decide +kernel
theorem dX3_init_20 : decode cX3_init 20 = .ok (.aload_n 0, 1) := by decide +kernel
theorem dX3_init_21 : decode cX3_init 21 = .ok (.iconst 2, 1) := by decide +kernel
theorem dX3_init_22 : decode cX3_init 22 = .ok (.putfield 18, 3) := by decide +kernel
theorem dX3_init_25 : decode cX3_init 25 = .ok (.aload_n 0, 1) := by decide +kernel
theorem dX3_init_26 : decode cX3_init 26 = .ok (.bipush 6, 2) := by decide +kernel
theorem dX3_init_28 : decode cX3_init 28 = .ok (.putfield 22, 3) := by decide +kernel
theorem dX3_init_31 : decode cX3_init 31 = .ok (.return_, 1) := by decide +kernel
theorem dX3_copyFrom_0 : decode cX3_copyFrom 0 = .ok (.aload_n 1, 1) := by decide +kernel
theorem dX3_copyFrom_1 : decode cX3_copyFrom 1 = .ok (.getfield 9, 3) := by decide +kernel
theorem dX3_copyFrom_4 : decode cX3_copyFrom 4 = .ok (.iconst 0, 1) := by decide +kernel
theorem dX3_copyFrom_5 : decode cX3_copyFrom 5 = .ok (.aload_n 0, 1) := by decide +kernel
theorem dX3_copyFrom_6 : decode cX3_copyFrom 6 = .ok (.getfield 9, 3) := by decide +kernel
theorem dX3_copyFrom_9 : decode cX3_copyFrom 9 = .ok (.iconst 0, 1) := by decide +kernel
theorem dX3_copyFrom_10 : decode cX3_copyFrom 10 = .ok (.bipush 50, 2) := by decide +kernel
theorem dX3_copyFrom_12 : decode cX3_copyFrom 12 = .ok (.invokestatic 25, 3) := by decide +kernel
theorem dX3_copyFrom_15 : decode cX3_copyFrom 15 = .ok (.aload_n 1, 1) := by decide +kernel
theorem dX3_copyFrom_16 : decode cX3_copyFrom 16 = .ok (.getfield 15, 3) := by decide +kernel
theorem dX3_copyFrom_19 : decode cX3_copyFrom 19 = .ok (.iconst 0, 1) := by decide +kernel
theorem dX3_copyFrom_20 : decode cX3_copyFrom 20 = .ok (.aload_n 0, 1) := by decide +kernel
theorem dX3_copyFrom_21 : decode cX3_copyFrom 21 = .ok (.getfield 15, 3) := by decide +kernel
theorem dX3_copyFrom_24 : decode cX3_copyFrom 24 = .ok (.iconst 0, 1) := by decide +kernel
theorem dX3_copyFrom_25 : decode cX3_copyFrom 25 = .ok (.bipush 12, 2) := by decide +kernel
theorem dX3_copyFrom_27 : decode cX3_copyFrom 27 = .ok (.invokestatic 25, 3) := by decide +kernel
theorem dX3_copyFrom_30 : decode cX3_copyFrom 30 = .ok (.aload_n 0, 1) := by decide +kernel
theorem dX3_copyFrom_31 : decode cX3_copyFrom 31 = .ok (.aload_n 1, 1) := by decide +kernel
theorem dX3_copyFrom_32 : decode cX3_copyFrom 32 = .ok (.getfield 31, 3) := by decide +kernel
theorem dX3_copyFrom_35 : decode cX3_copyFrom 35 = .ok (.putfield 31, 3) := by decide +kernel
theorem dX3_copyFrom_38 : decode cX3_copyFrom 38 = .ok (.aload_n 0, 1) := by decide +kernel
theorem dX3_copyFrom_39 : decode cX3_copyFrom 39 = .ok (.aload_n 1, 1) := by decide +kernel
theorem dX3_copyFrom_40 : decode cX3_copyFrom 40 = .ok (.getfield 34, 3) := by decide +kernel
theorem dX3_copyFrom_43 : decode cX3_copyFrom 43 = .ok (.putfield 34, 3) := by decide +kernel
theorem dX3_copyFrom_46 : decode cX3_copyFrom 46 = .ok (.aload_n 0, 1) := by decide +kernel
theorem dX3_copyFrom_47 : decode cX3_copyFrom 47 = .ok (.aload_n 1, 1) := by decide +kernel
theorem dX3_copyFrom_48 : decode cX3_copyFrom 48 = .ok (.getfield 18, 3) := by decide +kernel
theorem dX3_copyFrom_51 : decode cX3_copyFrom 51 = .ok (.putfield 18, 3) := by decide +kernel
theorem dX3_copyFrom_54 : decode cX3_copyFrom 54 = .ok (.aload_n 0, 1) := by decide +kernel
theorem dX3_copyFrom_55 : decode cX3_copyFrom 55 = .ok (.aload_n 1, 1) := by decide +kernel
theorem dX3_copyFrom_56 : decode cX3_copyFrom 56 = .ok (.getfield 22, 3) := by decide +kernel
theorem dX3_copyFrom_59 : decode cX3_copyFrom 59 = .ok (.putfield 22, 3) := by decide +kernel
theorem dX3_copyFrom_62 : decode cX3_copyFrom 62 = .ok (.return_, 1) := by decide +kernel
theorem dX3_isPoint_0 : decode cX3_isPoint 0 = .ok (.iload_n 1, 1) := by decide +kernel
theorem dX3_isPoint_1 : decode cX3_isPoint 1 = .ok (.ifCond .lt 21, 3) := by decide +kernel
theorem dX3_isPoint_4 : decode cX3_isPoint 4 = .ok (.iload_n 1, 1) := by decide +kernel
theorem dX3_isPoint_5 : decode cX3_isPoint 5 = .ok (.aload_n 0, 1) := by decide +kernel
theorem dX3_isPoint_6 : decode cX3_isPoint 6 = .ok (.getfield 31, 3) := by decide +kernel
theorem dX3_isPoint_9 : decode cX3_isPoint 9 = .ok (.if_icmp .ge 13, 3) := by decide +kernel
theorem dX3_isPoint_12 : decode cX3_isPoint 12 = .ok (.iload_n 1, 1) := by decide +kernel
theorem dX3_isPoint_13 : decode cX3_isPoint 13 = .ok (.bipush 50, 2) := by decide +kernel
theorem dX3_isPoint_15 : decode cX3_isPoint 15 = .ok (.if_icmp .ge 7, 3) := by decide +kernel
theorem dX3_isPoint_18 : decode cX3_isPoint 18 = .ok (.iconst 1, 1) := by decide +kernel
theorem dX3_isPoint_19 : decode cX3_isPoint 19 = .ok (.goto 4, 3) := by decide +kernel
theorem dX3_isPoint_22 : decode cX3_isPoint 22 = .ok (.iconst 0, 1) := by decide +kernel
theorem dX3_isPoint_23 : decode cX3_isPoint 23 = .ok (.ireturn, 1) := by decide +kernel
set_option maxRecDepth 20000 in
theorem ggX3_placeOf_X3_isPoint : GoodIn wsX3_placeOf wsX3_isPoint := goodIn_r _ [6, 7, 8, 9, 10, 11, 12, 13] (by decide +kernel) (by decide +kernel)
set_option maxRecDepth 20000 in
theorem gX3_placeOf_X3_isPoint : GoodIn wsX3_placeOf (wsV RX3 37 RX3 yX3_isPoint wsX3_isPoint) := goodIn_app (goodIn_of _ (by decide +kernel)) ggX3_placeOf_X3_isPoint
theorem dX3_placeOf_0 : decode cX3_placeOf 0 = .ok (.aload_n 0, 1) := by decide +kernel
theorem dX3_placeOf_1 : decode cX3_placeOf 1 = .ok (.iload_n 1, 1) := by decide +kernel
theorem dX3_placeOf_2 : decode cX3_placeOf 2 = .ok (.invokevirtual 37, 3) := by decide +kernel
theorem dX3_placeOf_5 : decode cX3_placeOf 5 = .ok (.ifCond .eq 12, 3) := by decide +kernel
theorem dX3_placeOf_8 : decode cX3_placeOf 8 = .ok (.aload_n 0, 1) := by decide +kernel
theorem dX3_placeOf_9 : decode cX3_placeOf 9 = .ok (.getfield 9, 3) := by decide +kernel
theorem dX3_placeOf_12 : decode cX3_placeOf 12 = .ok (.iload_n 1, 1) := by decide +kernel
theorem dX3_placeOf_13 : decode cX3_placeOf 13 = .ok (.iaload, 1) := by decide +kernel
theorem dX3_placeOf_14 : decode cX3_placeOf 14 = .ok (.goto 5, 3) := by decide +kernel
theorem dX3_placeOf_17 : decode cX3_placeOf 17 = .ok (.bipush (-6), 2) := by decide +kernel
theorem dX3_placeOf_19 : decode cX3_placeOf 19 = .ok (.ireturn, 1) := by decide +kernel
set_option maxRecDepth 20000 in
theorem ggX3_pointAt_X3_placeOf : GoodIn wsX3_pointAt wsX3_placeOf := goodIn_r _ [6, 7, 8, 9, 10, 5, 11, 1, 12, 13, 14, 15, 16, 17] (by decide +kernel) (by decide +kernel)
set_option maxRecDepth 20000 in
theorem gX3_pointAt_X3_placeOf : GoodIn wsX3_pointAt (wsV RX3 41 RX3 yX3_placeOf wsX3_placeOf) := goodIn_app (goodIn_of _ (by decide +kernel)) ggX3_pointAt_X3_placeOf
theorem dX3_pointAt_0 : decode cX3_pointAt 0 = .ok (.iconst 0, 1) := by decide +kernel
theorem dX3_pointAt_1 : decode cX3_pointAt 1 = .ok (.istore_n 2, 1) := by decide +kernel
theorem dX3_pointAt_2 : decode cX3_pointAt 2 = .ok (.iload_n 2, 1) := by decide +kernel
theorem dX3_pointAt_3 : decode cX3_pointAt 3 = .ok (.aload_n 0, 1) := by decide +kernel
theorem dX3_pointAt_4 : decode cX3_pointAt 4 = .ok (.getfield 31, 3) := by decide +kernel
theorem dX3_pointAt_7 : decode cX3_pointAt 7 = .ok (.if_icmp .ge 20, 3) := by decide +kernel
theorem dX3_pointAt_10 : decode cX3_pointAt 10 = .ok (.aload_n 0, 1) := by decide +kernel
theorem dX3_pointAt_11 : decode cX3_pointAt 11 = .ok (.iload_n 2, 1) := by decide +kernel
theorem dX3_pointAt_12 : decode cX3_pointAt 12 = .ok (.invokevirtual 41, 3) := by decide +kernel
theorem dX3_pointAt_15 : decode cX3_pointAt 15 = .ok (.iload_n 1, 1) := by decide +kernel
theorem dX3_pointAt_16 : decode cX3_pointAt 16 = .ok (.if_icmp .ne 5, 3) := by decide +kernel
theorem dX3_pointAt_19 : decode cX3_pointAt 19 = .ok (.iload_n 2, 1) := by decide +kernel
theorem dX3_pointAt_20 : decode cX3_pointAt 20 = .ok (.ireturn, 1) := by decide +kernel
theorem dX3_pointAt_21 : decode cX3_pointAt 21 = .ok (.iinc 2 1, 3) := by decide +kernel
theorem dX3_pointAt_24 : decode cX3_pointAt 24 = .ok (.goto (-22), 3) := by decide +kernel
theorem dX3_pointAt_27 : decode cX3_pointAt 27 = .ok (.bipush (-6), 2) := by decide +kernel
theorem dX3_pointAt_29 : decode cX3_pointAt 29 = .ok (.ireturn, 1) := by decide +kernel
set_option maxRecDepth 20000 in
theorem ggX3_errorOfPointAt_X3_pointAt : GoodIn wsX3_errorOfPointAt wsX3_pointAt := goodIn_r _ [6, 1, 7, 8, 9, 5, 10, 11, 12, 13, 14, 15, 16, 17, 18, 19, 20, 21] (by decide +kernel) (by decide +kernel)
set_option maxRecDepth 20000 in
theorem gX3_errorOfPointAt_X3_pointAt : GoodIn wsX3_errorOfPointAt (wsV RX3 45 RX3 yX3_pointAt wsX3_pointAt) := goodIn_app (goodIn_of _ (by decide +kernel)) ggX3_errorOfPointAt_X3_pointAt
theorem dX3_errorOfPointAt_0 : decode cX3_errorOfPointAt 0 = .ok (.aload_n 0, 1) := by decide +kernel
theorem dX3_errorOfPointAt_1 : decode cX3_errorOfPointAt 1 = .ok (.iload_n 1, 1) := by decide +kernel
theorem dX3_errorOfPointAt_2 : decode cX3_errorOfPointAt 2 = .ok (.invokevirtual 45, 3) := by decide +kernel
theorem dX3_errorOfPointAt_5 : decode cX3_errorOfPointAt 5 = .ok (.bipush (-6), 2) := by decide +kernel
theorem dX3_errorOfPointAt_7 : decode cX3_errorOfPointAt 7 = .ok (.if_icmp .eq 6, 3) := by decide +kernel
theorem dX3_errorOfPointAt_10 : decode cX3_errorOfPointAt 10 = .ok (.bipush (-5), 2) := by decide +kernel
theorem dX3_errorOfPointAt_12 : decode cX3_errorOfPointAt 12 = .ok (.ireturn, 1) := by decide +kernel
theorem dX3_errorOfPointAt_13 : decode cX3_errorOfPointAt 13 = .ok (.aload_n 0, 1) := by decide +kernel
theorem dX3_errorOfPointAt_14 : decode cX3_errorOfPointAt 14 = .ok (.getfield 31, 3) := by decide +kernel
theorem dX3_errorOfPointAt_17 : decode cX3_errorOfPointAt 17 = .ok (.bipush 50, 2) := by decide +kernel
theorem dX3_errorOfPointAt_19 : decode cX3_errorOfPointAt 19 = .ok (.if_icmp .lt 8, 3) := by decide +kernel
theorem dX3_errorOfPointAt_22 : decode cX3_errorOfPointAt 22 = .ok (.bipush (-4), 2) := by decide +kernel
theorem dX3_errorOfPointAt_24 : decode cX3_errorOfPointAt 24 = .ok (.goto 4, 3) := by decide +kernel
theorem dX3_errorOfPointAt_27 : decode cX3_errorOfPointAt 27 = .ok (.iconst 0, 1) := by decide +kernel
theorem dX3_errorOfPointAt_28 : decode cX3_errorOfPointAt 28 = .ok (.ireturn, 1) := by decide +kernel
set_option maxRecDepth 20000 in
theorem ggX3_pointsBefore_X3_placeOf : GoodIn wsX3_pointsBefore wsX3_placeOf := goodIn_r _ [6, 7, 8, 9, 10, 5, 11, 1, 12, 13, 14, 15, 16, 17] (by decide +kernel) (by decide +kernel)
set_option maxRecDepth 20000 in
theorem gX3_pointsBefore_X3_placeOf : GoodIn wsX3_pointsBefore (wsV RX3 41 RX3 yX3_placeOf wsX3_placeOf) := goodIn_app (goodIn_of _ (by decide +kernel)) ggX3_pointsBefore_X3_placeOf
theorem dX3_pointsBefore_0 : decode cX3_pointsBefore 0 = .ok (.iconst 0, 1) := by decide +kernel
theorem dX3_pointsBefore_1 : decode cX3_pointsBefore 1 = .ok (.istore_n 2, 1) := by decide +kernel
theorem dX3_pointsBefore_2 : decode cX3_pointsBefore 2 = .ok (.iconst 0, 1) := by decide +kernel
theorem dX3_pointsBefore_3 : decode cX3_pointsBefore 3 = .ok (.istore_n 3, 1) := by decide +kernel
theorem dX3_pointsBefore_4 : decode cX3_pointsBefore 4 = .ok (.iload_n 3, 1) := by decide +kernel
theorem dX3_pointsBefore_5 : decode cX3_pointsBefore 5 = .ok (.aload_n 0, 1) := by decide +kernel
theorem dX3_pointsBefore_6 : decode cX3_pointsBefore 6 = .ok (.getfield 31, 3) := by decide +kernel
theorem dX3_pointsBefore_9 : decode cX3_pointsBefore 9 = .ok (.if_icmp .ge 21, 3) := by decide +kernel
theorem dX3_pointsBefore_12 : decode cX3_pointsBefore 12 = .ok (.aload_n 0, 1) := by decide +kernel
theorem dX3_pointsBefore_13 : decode cX3_pointsBefore 13 = .ok (.iload_n 3, 1) := by decide +kernel
theorem dX3_pointsBefore_14 : decode cX3_pointsBefore 14 = .ok (.invokevirtual 41, 3) := by decide +kernel
theorem dX3_pointsBefore_17 : decode cX3_pointsBefore 17 = .ok (.iload_n 1, 1) := by decide +kernel
theorem dX3_pointsBefore_18 : decode cX3_pointsBefore 18 = .ok (.if_icmp .ge 6, 3) := by decide +kernel
theorem dX3_pointsBefore_21 : decode cX3_pointsBefore 21 = .ok (.iinc 2 1, 3) := by decide +kernel
theorem dX3_pointsBefore_24 : decode cX3_pointsBefore 24 = .ok (.iinc 3 1, 3) := by decide +kernel
theorem dX3_pointsBefore_27 : decode cX3_pointsBefore 27 = .ok (.goto (-23), 3) := by decide +kernel
theorem dX3_pointsBefore_30 : decode cX3_pointsBefore 30 = .ok (.iload_n 2, 1) := by decide +kernel
theorem dX3_pointsBefore_31 : decode cX3_pointsBefore 31 = .ok (.ireturn, 1) := by decide +kernel
set_option maxRecDepth 20000 in
theorem ggX3_pointsInside_X3_placeOf : GoodIn wsX3_pointsInside wsX3_placeOf := goodIn_r _ [6, 7, 8, 9, 10, 5, 11, 1, 37, 38, 39, 40, 41, 42] (by decide +kernel) (by decide +kernel)
set_option maxRecDepth 20000 in
theorem gX3_pointsInside_X3_placeOf : GoodIn wsX3_pointsInside (wsV RX3 41 RX3 yX3_placeOf wsX3_placeOf) := goodIn_app (goodIn_of _ (by decide +kernel)) ggX3_pointsInside_X3_placeOf
set_option maxRecDepth 20000 in
theorem ggX3_pointsInside_X6_meets : GoodIn wsX3_pointsInside wsX6_meets := goodIn_r _ [16, 17, 18, 19, 20, 21, 22, 23, 24, 25, 26, 27, 28, 29, 30, 31, 32, 33, 34, 35, 36, 43, 44, 45, 46] (by decide +kernel) (by decide +kernel)
set_option maxRecDepth 20000 in
theorem gX3_pointsInside_X6_meets : GoodIn wsX3_pointsInside (wsV RX3 48 RX6 yX6_meets wsX6_meets) := goodIn_app (goodIn_of _ (by decide +kernel)) ggX3_pointsInside_X6_meets
theorem dX3_pointsInside_0 : decode cX3_pointsInside 0 = .ok (.iconst 0, 1) := by decide +kernel
theorem dX3_pointsInside_1 : decode cX3_pointsInside 1 = .ok (.istore_n 2, 1) := by decide +kernel
theorem dX3_pointsInside_2 : decode cX3_pointsInside 2 = .ok (.iconst 0, 1) := by decide +kernel
theorem dX3_pointsInside_3 : decode cX3_pointsInside 3 = .ok (.istore_n 3, 1) := by decide +kernel
theorem dX3_pointsInside_4 : decode cX3_pointsInside 4 = .ok (.iload_n 3, 1) := by decide +kernel
theorem dX3_pointsInside_5 : decode cX3_pointsInside 5 = .ok (.aload_n 0, 1) := by decide +kernel
theorem dX3_pointsInside_6 : decode cX3_pointsInside 6 = .ok (.getfield 31, 3) := by decide +kernel
theorem dX3_pointsInside_9 : decode cX3_pointsInside 9 = .ok (.if_icmp .ge 26, 3) := by decide +kernel
theorem dX3_pointsInside_12 : decode cX3_pointsInside 12 = .ok (.aload_n 1, 1) := by decide +kernel
theorem dX3_pointsInside_13 : decode cX3_pointsInside 13 = .ok (.aload_n 0, 1) := by decide +kernel
theorem dX3_pointsInside_14 : decode cX3_pointsInside 14 = .ok (.iload_n 3, 1) := by decide +kernel
theorem dX3_pointsInside_15 : decode cX3_pointsInside 15 = .ok (.invokevirtual 41, 3) := by decide +kernel
theorem dX3_pointsInside_18 : decode cX3_pointsInside 18 = .ok (.bipush 6, 2) := by decide +kernel
theorem dX3_pointsInside_20 : decode cX3_pointsInside 20 = .ok (.invokevirtual 48, 3) := by decide +kernel
theorem dX3_pointsInside_23 : decode cX3_pointsInside 23 = .ok (.ifCond .eq 6, 3) := by decide +kernel
theorem dX3_pointsInside_26 : decode cX3_pointsInside 26 = .ok (.iinc 2 1, 3) := by decide +kernel
theorem dX3_pointsInside_29 : decode cX3_pointsInside 29 = .ok (.iinc 3 1, 3) := by decide +kernel
theorem dX3_pointsInside_32 : decode cX3_pointsInside 32 = .ok (.goto (-28), 3) := by decide +kernel
theorem dX3_pointsInside_35 : decode cX3_pointsInside 35 = .ok (.iload_n 2, 1) := by decide +kernel
theorem dX3_pointsInside_36 : decode cX3_pointsInside 36 = .ok (.ireturn, 1) := by decide +kernel
theorem dX3_addPlace_0 : decode cX3_addPlace 0 = .ok (.aload_n 0, 1) := by decide +kernel
theorem dX3_addPlace_1 : decode cX3_addPlace 1 = .ok (.getfield 31, 3) := by decide +kernel
theorem dX3_addPlace_4 : decode cX3_addPlace 4 = .ok (.bipush 50, 2) := by decide +kernel
theorem dX3_addPlace_6 : decode cX3_addPlace 6 = .ok (.if_icmp .ge 23, 3) := by decide +kernel
theorem dX3_addPlace_9 : decode cX3_addPlace 9 = .ok (.aload_n 0, 1) := by decide +kernel
theorem dX3_addPlace_10 : decode cX3_addPlace 10 = .ok (.getfield 9, 3) := by decide +kernel
theorem dX3_addPlace_13 : decode cX3_addPlace 13 = .ok (.aload_n 0, 1) := by decide +kernel
theorem dX3_addPlace_14 : decode cX3_addPlace 14 = .ok (.getfield 31, 3) := by decide +kernel
theorem dX3_addPlace_17 : decode cX3_addPlace 17 = .ok (.iload_n 1, 1) := by decide +kernel
theorem dX3_addPlace_18 : decode cX3_addPlace 18 = .ok (.iastore, 1) := by decide +kernel
theorem dX3_addPlace_19 : decode cX3_addPlace 19 = .ok (.aload_n 0, 1) := by decide +kernel
theorem dX3_addPlace_20 : decode cX3_addPlace 20 = .ok (.dup, 1) := by decide +kernel
theorem dX3_addPlace_21 : decode cX3_addPlace 21 = .ok (.getfield 31, 3) := by decide +kernel
theorem dX3_addPlace_24 : decode cX3_addPlace 24 = .ok (.iconst 1, 1) := by decide +kernel
theorem dX3_addPlace_25 : decode cX3_addPlace 25 = .ok (.iadd, 1) := by decide +kernel
theorem dX3_addPlace_26 : decode cX3_addPlace 26 = .ok (.putfield 31, 3) := by decide +kernel
theorem dX3_addPlace_29 : decode cX3_addPlace 29 = .ok (.return_, 1) := by decide +kernel
set_option maxRecDepth 20000 in
theorem ggX3_removePlace_X3_isPoint : GoodIn wsX3_removePlace wsX3_isPoint := goodIn_r _ [11, 2, 12, 13, 14, 15, 16, 17] (by decide +kernel) (by decide +kernel)
set_option maxRecDepth 20000 in
theorem gX3_removePlace_X3_isPoint : GoodIn wsX3_removePlace (wsV RX3 37 RX3 yX3_isPoint wsX3_isPoint) := goodIn_app (goodIn_of _ (by decide +kernel)) ggX3_removePlace_X3_isPoint
theorem dX3_removePlace_0 : decode cX3_removePlace 0 = .ok (.aload_n 0, 1) := by decide +kernel
theorem dX3_removePlace_1 : decode cX3_removePlace 1 = .ok (.iload_n 1, 1) := by decide +kernel
theorem dX3_removePlace_2 : decode cX3_removePlace 2 = .ok (.invokevirtual 37, 3) := by decide +kernel
theorem dX3_removePlace_5 : decode cX3_removePlace 5 = .ok (.ifCond .eq 36, 3) := by decide +kernel
theorem dX3_removePlace_8 : decode cX3_removePlace 8 = .ok (.aload_n 0, 1) := by decide +kernel
theorem dX3_removePlace_9 : decode cX3_removePlace 9 = .ok (.getfield 9, 3) := by decide +kernel
theorem dX3_removePlace_12 : decode cX3_removePlace 12 = .ok (.iload_n 1, 1) := by decide +kernel
theorem dX3_removePlace_13 : decode cX3_removePlace 13 = .ok (.iconst 1, 1) := by decide +kernel
theorem dX3_removePlace_14 : decode cX3_removePlace 14 = .ok (.iadd, 1) := by decide +kernel
theorem dX3_removePlace_15 : decode cX3_removePlace 15 = .ok (.aload_n 0, 1) := by decide +kernel
theorem dX3_removePlace_16 : decode cX3_removePlace 16 = .ok (.getfield 9, 3) := by decide +kernel
theorem dX3_removePlace_19 : decode cX3_removePlace 19 = .ok (.iload_n 1, 1) := by decide +kernel
theorem dX3_removePlace_20 : decode cX3_removePlace 20 = .ok (.aload_n 0, 1) := by decide +kernel
theorem dX3_removePlace_21 : decode cX3_removePlace 21 = .ok (.getfield 31, 3) := by decide +kernel
theorem dX3_removePlace_24 : decode cX3_removePlace 24 = .ok (.iload_n 1, 1) := by decide +kernel
theorem dX3_removePlace_25 : decode cX3_removePlace 25 = .ok (.isub, 1) := by decide +kernel
theorem dX3_removePlace_26 : decode cX3_removePlace 26 = .ok (.iconst 1, 1) := by decide +kernel
theorem dX3_removePlace_27 : decode cX3_removePlace 27 = .ok (.isub, 1) := by decide +kernel
theorem dX3_removePlace_28 : decode cX3_removePlace 28 = .ok (.invokestatic 25, 3) := by decide +kernel
theorem dX3_removePlace_31 : decode cX3_removePlace 31 = .ok (.aload_n 0, 1) := by decide +kernel
theorem dX3_removePlace_32 : decode cX3_removePlace 32 = .ok (.dup, 1) := by decide +kernel
theorem dX3_removePlace_33 : decode cX3_removePlace 33 = .ok (.getfield 31, 3) := by decide +kernel
theorem dX3_removePlace_36 : decode cX3_removePlace 36 = .ok (.iconst 1, 1) := by decide +kernel
theorem dX3_removePlace_37 : decode cX3_removePlace 37 = .ok (.isub, 1) := by decide +kernel
theorem dX3_removePlace_38 : decode cX3_removePlace 38 = .ok (.putfield 31, 3) := by decide +kernel
theorem dX3_removePlace_41 : decode cX3_removePlace 41 = .ok (.return_, 1) := by decide +kernel
set_option maxRecDepth 20000 in
theorem ggX3_changePlace_X3_isPoint : GoodIn wsX3_changePlace wsX3_isPoint := goodIn_r _ [6, 7, 8, 9, 10, 11, 12, 13] (by decide +kernel) (by decide +kernel)
set_option maxRecDepth 20000 in
theorem gX3_changePlace_X3_isPoint : GoodIn wsX3_changePlace (wsV RX3 37 RX3 yX3_isPoint wsX3_isPoint) := goodIn_app (goodIn_of _ (by decide +kernel)) ggX3_changePlace_X3_isPoint
theorem dX3_changePlace_0 : decode cX3_changePlace 0 = .ok (.aload_n 0, 1) := by decide +kernel
theorem dX3_changePlace_1 : decode cX3_changePlace 1 = .ok (.iload_n 1, 1) := by decide +kernel
theorem dX3_changePlace_2 : decode cX3_changePlace 2 = .ok (.invokevirtual 37, 3) := by decide +kernel
theorem dX3_changePlace_5 : decode cX3_changePlace 5 = .ok (.ifCond .eq 10, 3) := by decide +kernel
theorem dX3_changePlace_8 : decode cX3_changePlace 8 = .ok (.aload_n 0, 1) := by decide +kernel
theorem dX3_changePlace_9 : decode cX3_changePlace 9 = .ok (.getfield 9, 3) := by decide +kernel
theorem dX3_changePlace_12 : decode cX3_changePlace 12 = .ok (.iload_n 1, 1) := by decide +kernel
theorem dX3_changePlace_13 : decode cX3_changePlace 13 = .ok (.iload_n 2, 1) := by decide +kernel
theorem dX3_changePlace_14 : decode cX3_changePlace 14 = .ok (.iastore, 1) := by decide +kernel
theorem dX3_changePlace_15 : decode cX3_changePlace 15 = .ok (.return_, 1) := by decide +kernel
set_option maxRecDepth 20000 in
theorem ggX3_isOrdered_X3_indexOfOrder : GoodIn wsX3_isOrdered wsX3_indexOfOrder := goodIn_r _ [5, 6, 7, 8, 9, 10, 11, 12, 13] (by decide +kernel) (by decide +kernel)
set_option maxRecDepth 20000 in
theorem gX3_isOrdered_X3_indexOfOrder : GoodIn wsX3_isOrdered (wsV RX3 54 RX3 yX3_indexOfOrder wsX3_indexOfOrder) := goodIn_app (goodIn_of _ (by decide +kernel)) ggX3_isOrdered_X3_indexOfOrder
theorem dX3_isOrdered_0 : decode cX3_isOrdered 0 = .ok (.aload_n 0, 1) := by decide +kernel
theorem dX3_isOrdered_1 : decode cX3_isOrdered 1 = .ok (.iload_n 1, 1) := by decide +kernel
theorem dX3_isOrdered_2 : decode cX3_isOrdered 2 = .ok (.invokevirtual 54, 3) := by decide +kernel
theorem dX3_isOrdered_5 : decode cX3_isOrdered 5 = .ok (.bipush (-6), 2) := by decide +kernel
theorem dX3_isOrdered_7 : decode cX3_isOrdered 7 = .ok (.if_icmp .eq 7, 3) := by decide +kernel
theorem dX3_isOrdered_10 : decode cX3_isOrdered 10 = .ok (.iconst 1, 1) := by decide +kernel
theorem dX3_isOrdered_11 : decode cX3_isOrdered 11 = .ok (.goto 4, 3) := by decide +kernel
theorem dX3_isOrdered_14 : decode cX3_isOrdered 14 = .ok (.iconst 0, 1) := by decide +kernel
theorem dX3_isOrdered_15 : decode cX3_isOrdered 15 = .ok (.ireturn, 1) := by decide +kernel
theorem dX3_indexOfOrder_0 : decode cX3_indexOfOrder 0 = .ok (.iconst 0, 1) := by decide +kernel
theorem dX3_indexOfOrder_1 : decode cX3_indexOfOrder 1 = .ok (.istore_n 2, 1) := by decide +kernel
theorem dX3_indexOfOrder_2 : decode cX3_indexOfOrder 2 = .ok (.iload_n 2, 1) := by decide +kernel
theorem dX3_indexOfOrder_3 : decode cX3_indexOfOrder 3 = .ok (.aload_n 0, 1) := by decide +kernel
theorem dX3_indexOfOrder_4 : decode cX3_indexOfOrder 4 = .ok (.getfield 34, 3) := by decide +kernel
theorem dX3_indexOfOrder_7 : decode cX3_indexOfOrder 7 = .ok (.if_icmp .ge 27, 3) := by decide +kernel
theorem dX3_indexOfOrder_10 : decode cX3_indexOfOrder 10 = .ok (.iload_n 2, 1) := by decide +kernel
theorem dX3_indexOfOrder_11 : decode cX3_indexOfOrder 11 = .ok (.bipush 12, 2) := by decide +kernel
theorem dX3_indexOfOrder_13 : decode cX3_indexOfOrder 13 = .ok (.if_icmp .ge 21, 3) := by decide +kernel
theorem dX3_indexOfOrder_16 : decode cX3_indexOfOrder 16 = .ok (.aload_n 0, 1) := by decide +kernel
theorem dX3_indexOfOrder_17 : decode cX3_indexOfOrder 17 = .ok (.getfield 15, 3) := by decide +kernel
theorem dX3_indexOfOrder_20 : decode cX3_indexOfOrder 20 = .ok (.iload_n 2, 1) := by decide +kernel
theorem dX3_indexOfOrder_21 : decode cX3_indexOfOrder 21 = .ok (.iaload, 1) := by decide +kernel
theorem dX3_indexOfOrder_22 : decode cX3_indexOfOrder 22 = .ok (.iload_n 1, 1) := by decide +kernel
theorem dX3_indexOfOrder_23 : decode cX3_indexOfOrder 23 = .ok (.if_icmp .ne 5, 3) := by decide +kernel
theorem dX3_indexOfOrder_26 : decode cX3_indexOfOrder 26 = .ok (.iload_n 2, 1) := by decide +kernel
theorem dX3_indexOfOrder_27 : decode cX3_indexOfOrder 27 = .ok (.ireturn, 1) := by decide +kernel
theorem dX3_indexOfOrder_28 : decode cX3_indexOfOrder 28 = .ok (.iinc 2 1, 3) := by decide +kernel
theorem dX3_indexOfOrder_31 : decode cX3_indexOfOrder 31 = .ok (.goto (-29), 3) := by decide +kernel
theorem dX3_indexOfOrder_34 : decode cX3_indexOfOrder 34 = .ok (.bipush (-6), 2) := by decide +kernel
theorem dX3_indexOfOrder_36 : decode cX3_indexOfOrder 36 = .ok (.ireturn, 1) := by decide +kernel
theorem dX3_addOrder_0 : decode cX3_addOrder 0 = .ok (.aload_n 0, 1) := by decide +kernel
theorem dX3_addOrder_1 : decode cX3_addOrder 1 = .ok (.getfield 34, 3) := by decide +kernel
theorem dX3_addOrder_4 : decode cX3_addOrder 4 = .ok (.bipush 12, 2) := by decide +kernel
theorem dX3_addOrder_6 : decode cX3_addOrder 6 = .ok (.if_icmp .ge 23, 3) := by decide +kernel
theorem dX3_addOrder_9 : decode cX3_addOrder 9 = .ok (.aload_n 0, 1) := by decide +kernel
theorem dX3_addOrder_10 : decode cX3_addOrder 10 = .ok (.getfield 15, 3) := by decide +kernel
theorem dX3_addOrder_13 : decode cX3_addOrder 13 = .ok (.aload_n 0, 1) := by decide +kernel
theorem dX3_addOrder_14 : decode cX3_addOrder 14 = .ok (.getfield 34, 3) := by decide +kernel
theorem dX3_addOrder_17 : decode cX3_addOrder 17 = .ok (.iload_n 1, 1) := by decide +kernel
theorem dX3_addOrder_18 : decode cX3_addOrder 18 = .ok (.iastore, 1) := by decide +kernel
theorem dX3_addOrder_19 : decode cX3_addOrder 19 = .ok (.aload_n 0, 1) := by decide +kernel
theorem dX3_addOrder_20 : decode cX3_addOrder 20 = .ok (.dup, 1) := by decide +kernel
theorem dX3_addOrder_21 : decode cX3_addOrder 21 = .ok (.getfield 34, 3) := by decide +kernel
theorem dX3_addOrder_24 : decode cX3_addOrder 24 = .ok (.iconst 1, 1) := by decide +kernel
theorem dX3_addOrder_25 : decode cX3_addOrder 25 = .ok (.iadd, 1) := by decide +kernel
theorem dX3_addOrder_26 : decode cX3_addOrder 26 = .ok (.putfield 34, 3) := by decide +kernel
theorem dX3_addOrder_29 : decode cX3_addOrder 29 = .ok (.return_, 1) := by decide +kernel
set_option maxRecDepth 20000 in
theorem ggX3_removeOrder_X3_indexOfOrder : GoodIn wsX3_removeOrder wsX3_indexOfOrder := goodIn_r _ [7, 2, 1, 8, 9, 10, 11, 12, 13] (by decide +kernel) (by decide +kernel)
set_option maxRecDepth 20000 in
theorem gX3_removeOrder_X3_indexOfOrder : GoodIn wsX3_removeOrder (wsV RX3 54 RX3 yX3_indexOfOrder wsX3_indexOfOrder) := goodIn_app (goodIn_of _ (by decide +kernel)) ggX3_removeOrder_X3_indexOfOrder
theorem dX3_removeOrder_0 : decode cX3_removeOrder 0 = .ok (.aload_n 0, 1) := by decide +kernel
theorem dX3_removeOrder_1 : decode cX3_removeOrder 1 = .ok (.iload_n 1, 1) := by decide +kernel
theorem dX3_removeOrder_2 : decode cX3_removeOrder 2 = .ok (.invokevirtual 54, 3) := by decide +kernel
theorem dX3_removeOrder_5 : decode cX3_removeOrder 5 = .ok (.istore_n 2, 1) := by decide +kernel
theorem dX3_removeOrder_6 : decode cX3_removeOrder 6 = .ok (.iload_n 2, 1) := by decide +kernel
theorem dX3_removeOrder_7 : decode cX3_removeOrder 7 = .ok (.bipush (-6), 2) := by decide +kernel
theorem dX3_removeOrder_9 : decode cX3_removeOrder 9 = .ok (.if_icmp .eq 30, 3) := by decide +kernel
theorem dX3_removeOrder_12 : decode cX3_removeOrder 12 = .ok (.aload_n 0, 1) := by decide +kernel
theorem dX3_removeOrder_13 : decode cX3_removeOrder 13 = .ok (.getfield 15, 3) := by decide +kernel
theorem dX3_removeOrder_16 : decode cX3_removeOrder 16 = .ok (.iload_n 2, 1) := by decide +kernel
theorem dX3_removeOrder_17 : decode cX3_removeOrder 17 = .ok (.aload_n 0, 1) := by decide +kernel
theorem dX3_removeOrder_18 : decode cX3_removeOrder 18 = .ok (.getfield 15, 3) := by decide +kernel
theorem dX3_removeOrder_21 : decode cX3_removeOrder 21 = .ok (.aload_n 0, 1) := by decide +kernel
theorem dX3_removeOrder_22 : decode cX3_removeOrder 22 = .ok (.getfield 34, 3) := by decide +kernel
theorem dX3_removeOrder_25 : decode cX3_removeOrder 25 = .ok (.iconst 1, 1) := by decide +kernel
theorem dX3_removeOrder_26 : decode cX3_removeOrder 26 = .ok (.isub, 1) := by decide +kernel
theorem dX3_removeOrder_27 : decode cX3_removeOrder 27 = .ok (.iaload, 1) := by decide +kernel
theorem dX3_removeOrder_28 : decode cX3_removeOrder 28 = .ok (.iastore, 1) := by decide +kernel
theorem dX3_removeOrder_29 : decode cX3_removeOrder 29 = .ok (.aload_n 0, 1) := by decide +kernel
theorem dX3_removeOrder_30 : decode cX3_removeOrder 30 = .ok (.dup, 1) := by decide +kernel
theorem dX3_removeOrder_31 : decode cX3_removeOrder 31 = .ok (.getfield 34, 3) := by decide +kernel
theorem dX3_removeOrder_34 : decode cX3_removeOrder 34 = .ok (.iconst 1, 1) := by decide +kernel
theorem dX3_removeOrder_35 : decode cX3_removeOrder 35 = .ok (.isub, 1) := by decide +kernel
theorem dX3_removeOrder_36 : decode cX3_removeOrder 36 = .ok (.putfield 34, 3) := by decide +kernel
theorem dX3_removeOrder_39 : decode cX3_removeOrder 39 = .ok (.return_, 1) := by decide +kernel
set_option maxRecDepth 20000 in
theorem ggX4_init_X3_init : GoodIn wsX4_init wsX3_init := goodIn_r _ [11, 12, 2, 3, 13, 14, 15, 16, 17, 20, 21, 22, 23, 24, 25] (by decide +kernel) (by decide +kernel)
set_option maxRecDepth 20000 in
theorem gX4_init_X3_init_n21 : GoodIn wsX4_init (wsX3_init) := ggX4_init_X3_init
theorem dX4_init_0 : decode cX4_init 0 = .ok (.aload_n 0, 1) := by decide +kernel
theorem dX4_init_1 : decode cX4_init 1 = .ok (.invokespecial 3, 3) := by decide +kernel
theorem dX4_init_4 : decode cX4_init 4 = .ok (.aload_n 0, 1) := by decide +kernel
theorem dX4_init_5 : decode cX4_init 5 = .ok (.iconst 2, 1) := by decide +kernel
theorem dX4_init_6 : decode cX4_init 6 = .ok (.anewarray 9, 3) := by decide +kernel
theorem dX4_init_9 : decode cX4_init 9 = .ok (.putfield 11, 3) := by decide +kernel
theorem dX4_init_12 : decode cX4_init 12 = .ok (.aload_n 0, 1) := by decide +kernel
theorem dX4_init_13 : decode cX4_init 13 = .ok (.iconst 2, 1) := by decide +kernel
theorem dX4_init_14 : decode cX4_init 14 = .ok (.newarray .boolean, 2) := by decide +kernel
theorem dX4_init_16 : decode cX4_init 16 = .ok (.putfield 17, 3) := by decide +kernel
theorem dX4_init_19 : decode cX4_init 19 = .ok (.iconst 0, 1) := by decide +kernel
theorem dX4_init_20 : decode cX4_init 20 = .ok (.istore_n 1, 1) := by decide +kernel
theorem dX4_init_21 : decode cX4_init 21 = .ok (.iload_n 1, 1) := by decide +kernel
theorem dX4_init_22 : decode cX4_init 22 = .ok (.iconst 2, 1) := by decide +kernel
theorem dX4_init_23 : decode cX4_init 23 = .ok (.if_icmp .ge 22, 3) := by decide +kernel
theorem dX4_init_26 : decode cX4_init 26 = .ok (.aload_n 0, 1) := by decide +kernel
theorem dX4_init_27 : decode cX4_init 27 = .ok (.getfield 11, 3) := by decide +kernel
theorem dX4_init_30 : decode cX4_init 30 = .ok (.iload_n 1, 1) := by decide +kernel
theorem dX4_init_31 : decode cX4_init 31 = .ok (.new 9, 3) := by decide +kernel
theorem dX4_init_34 : decode cX4_init 34 = .ok (.dup, 1) := by decide +kernel
theorem dX4_init_35 : decode cX4_init 35 = .ok (.invokespecial 21, 3) := by decide +kernel
theorem dX4_init_38 : decode cX4_init 38 = .ok (.aastore, 1) := by decide +kernel
theorem dX4_init_39 : decode cX4_init 39 = .ok (.iinc 1 1, 3) := by decide +kernel
theorem dX4_init_42 : decode cX4_init 42 = .ok (.goto (-21), 3) := by decide +kernel
theorem dX4_init_45 : decode cX4_init 45 = .ok (.return_, 1) := by decide +kernel
theorem dX4_isSlot_0 : decode cX4_isSlot 0 = .ok (.iload_n 0, 1) := by decide +kernel
theorem dX4_isSlot_1 : decode cX4_isSlot 1 = .ok (.ifCond .lt 12, 3) := by decide +kernel
theorem dX4_isSlot_4 : decode cX4_isSlot 4 = .ok (.iload_n 0, 1) := by decide +kernel
theorem dX4_isSlot_5 : decode cX4_isSlot 5 = .ok (.iconst 2, 1) := by decide +kernel
theorem dX4_isSlot_6 : decode cX4_isSlot 6 = .ok (.if_icmp .ge 7, 3) := by decide +kernel
theorem dX4_isSlot_9 : decode cX4_isSlot 9 = .ok (.iconst 1, 1) := by decide +kernel
theorem dX4_isSlot_10 : decode cX4_isSlot 10 = .ok (.goto 4, 3) := by decide +kernel
theorem dX4_isSlot_13 : decode cX4_isSlot 13 = .ok (.iconst 0, 1) := by decide +kernel
theorem dX4_isSlot_14 : decode cX4_isSlot 14 = .ok (.ireturn, 1) := by decide +kernel
set_option maxRecDepth 20000 in
theorem ggX4_isFilled_X4_isSlot : GoodIn wsX4_isFilled wsX4_isSlot := goodIn_r _ [5] (by decide +kernel) (by decide +kernel)
set_option maxRecDepth 20000 in
theorem gX4_isFilled_X4_isSlot : GoodIn wsX4_isFilled (va_wsS RX4 22 yX4_isSlot wsX4_isSlot) := goodIn_app (goodIn_of _ (by decide +kernel)) ggX4_isFilled_X4_isSlot
theorem dX4_isFilled_0 : decode cX4_isFilled 0 = .ok (.iload_n 1, 1) := by decide +kernel
theorem dX4_isFilled_1 : decode cX4_isFilled 1 = .ok (.invokestatic 22, 3) := by decide +kernel
theorem dX4_isFilled_4 : decode cX4_isFilled 4 = .ok (.ifCond .eq 16, 3) := by decide +kernel
theorem dX4_isFilled_7 : decode cX4_isFilled 7 = .ok (.aload_n 0, 1) := by decide +kernel
theorem dX4_isFilled_8 : decode cX4_isFilled 8 = .ok (.getfield 17, 3) := by decide +kernel
theorem dX4_isFilled_11 : decode cX4_isFilled 11 = .ok (.iload_n 1, 1) := by decide +kernel
theorem dX4_isFilled_12 : decode cX4_isFilled 12 = .ok (.baload, 1) := by decide +kernel
theorem dX4_isFilled_13 : decode cX4_isFilled 13 = .ok (.ifCond .eq 7, 3) := by decide +kernel
theorem dX4_isFilled_16 : decode cX4_isFilled 16 = .ok (.iconst 1, 1) := by decide +kernel
theorem dX4_isFilled_17 : decode cX4_isFilled 17 = .ok (.goto 4, 3) := by decide +kernel
theorem dX4_isFilled_20 : decode cX4_isFilled 20 = .ok (.iconst 0, 1) := by decide +kernel
theorem dX4_isFilled_21 : decode cX4_isFilled 21 = .ok (.ireturn, 1) := by decide +kernel
set_option maxRecDepth 20000 in
theorem ggX4_fill_X4_isSlot : GoodIn wsX4_fill wsX4_isSlot := goodIn_r _ [6] (by decide +kernel) (by decide +kernel)
set_option maxRecDepth 20000 in
theorem gX4_fill_X4_isSlot : GoodIn wsX4_fill (va_wsS RX4 22 yX4_isSlot wsX4_isSlot) := goodIn_app (goodIn_of _ (by decide +kernel)) ggX4_fill_X4_isSlot
set_option maxRecDepth 20000 in
theorem ggX4_fill_X3_copyFrom : GoodIn wsX4_fill wsX3_copyFrom := goodIn_r _ [11, 12, 13, 14, 15, 16, 17, 18, 19, 20, 21, 24, 25, 26, 27, 28, 29] (by decide +kernel) (by decide +kernel)
set_option maxRecDepth 20000 in
theorem gX4_fill_X3_copyFrom : GoodIn wsX4_fill (wsV RX4 26 RX3 yX3_copyFrom wsX3_copyFrom) := goodIn_app (goodIn_of _ (by decide +kernel)) ggX4_fill_X3_copyFrom
theorem dX4_fill_0 : decode cX4_fill 0 = .ok (.iload_n 1, 1) := by decide +kernel
theorem dX4_fill_1 : decode cX4_fill 1 = .ok (.invokestatic 22, 3) := by decide +kernel
theorem dX4_fill_4 : decode cX4_fill 4 = .ok (.ifCond .eq 20, 3) := by decide +kernel
theorem dX4_fill_7 : decode cX4_fill 7 = .ok (.aload_n 0, 1) := by decide +kernel
theorem dX4_fill_8 : decode cX4_fill 8 = .ok (.getfield 11, 3) := by decide +kernel
theorem dX4_fill_11 : decode cX4_fill 11 = .ok (.iload_n 1, 1) := by decide +kernel
theorem dX4_fill_12 : decode cX4_fill 12 = .ok (.aaload, 1) := by decide +kernel
theorem dX4_fill_13 : decode cX4_fill 13 = .ok (.aload_n 2, 1) := by decide +kernel
theorem dX4_fill_14 : decode cX4_fill 14 = .ok (.invokevirtual 26, 3) := by decide +kernel
theorem dX4_fill_17 : decode cX4_fill 17 = .ok (.aload_n 0, 1) := by decide +kernel
theorem dX4_fill_18 : decode cX4_fill 18 = .ok (.getfield 17, 3) := by decide +kernel
theorem dX4_fill_21 : decode cX4_fill 21 = .ok (.iload_n 1, 1) := by decide +kernel
theorem dX4_fill_22 : decode cX4_fill 22 = .ok (.iconst 1, 1) := by decide +kernel
theorem dX4_fill_23 : decode cX4_fill 23 = .ok (.bastore, 1) := by decide +kernel
theorem dX4_fill_24 : decode cX4_fill 24 = .ok (.return_, 1) := by decide +kernel
set_option maxRecDepth 20000 in
theorem ggX4_planIn_X4_isSlot : GoodIn wsX4_planIn wsX4_isSlot := goodIn_r _ [5] (by decide +kernel) (by decide +kernel)
set_option maxRecDepth 20000 in
theorem gX4_planIn_X4_isSlot : GoodIn wsX4_planIn (va_wsS RX4 22 yX4_isSlot wsX4_isSlot) := goodIn_app (goodIn_of _ (by decide +kernel)) ggX4_planIn_X4_isSlot
theorem dX4_planIn_0 : decode cX4_planIn 0 = .ok (.aload_n 0, 1) := by decide +kernel
theorem dX4_planIn_1 : decode cX4_planIn 1 = .ok (.getfield 11, 3) := by decide +kernel
theorem dX4_planIn_4 : decode cX4_planIn 4 = .ok (.iload_n 1, 1) := by decide +kernel
theorem dX4_planIn_5 : decode cX4_planIn 5 = .ok (.invokestatic 22, 3) := by decide +kernel
theorem dX4_planIn_8 : decode cX4_planIn 8 = .ok (.ifCond .eq 7, 3) := by decide +kernel
theorem dX4_planIn_11 : decode cX4_planIn 11 = .ok (.iload_n 1, 1) := by decide +kernel
theorem dX4_planIn_12 : decode cX4_planIn 12 = .ok (.goto 4, 3) := by decide +kernel
theorem dX4_planIn_15 : decode cX4_planIn 15 = .ok (.iconst 0, 1) := by decide +kernel
theorem dX4_planIn_16 : decode cX4_planIn 16 = .ok (.aaload, 1) := by decide +kernel
theorem dX4_planIn_17 : decode cX4_planIn 17 = .ok (.areturn, 1) := by decide +kernel
set_option maxRecDepth 20000 in
theorem ggX5_init_X3_init : GoodIn wsX5_init wsX3_init := goodIn_r _ [11, 12, 2, 3, 8, 13, 14, 15, 16, 17, 18, 19, 20, 21, 22] (by decide +kernel) (by decide +kernel)
set_option maxRecDepth 20000 in
theorem gX5_init_X3_init_n11 : GoodIn wsX5_init (wsX3_init) := ggX5_init_X3_init
theorem dX5_init_0 : decode cX5_init 0 = .ok (.aload_n 0, 1) := by decide +kernel
theorem dX5_init_1 : decode cX5_init 1 = .ok (.invokespecial 3, 3) := by decide +kernel
theorem dX5_init_4 : decode cX5_init 4 = .ok (.aload_n 0, 1) := by decide +kernel
theorem dX5_init_5 : decode cX5_init 5 = .ok (.new 9, 3) := by decide +kernel
theorem dX5_init_8 : decode cX5_init 8 = .ok (.dup, 1) := by decide +kernel
theorem dX5_init_9 : decode cX5_init 9 = .ok (.invokespecial 11, 3) := by decide +kernel
theorem dX5_init_12 : decode cX5_init 12 = .ok (.putfield 12, 3) := by decide +kernel
theorem dX5_init_15 : decode cX5_init 15 = .ok (.aload_n 0, 1) := by decide +kernel
theorem dX5_init_16 : decode cX5_init 16 = .ok (.sipush 8192, 3) := by decide +kernel
theorem dX5_init_19 : decode cX5_init 19 = .ok (.newarray .int, 2) := by decide +kernel
theorem dX5_init_21 : decode cX5_init 21 = .ok (.putfield 18, 3) := by decide +kernel
theorem dX5_init_24 : decode cX5_init 24 = .ok (.return_, 1) := by decide +kernel
set_option maxRecDepth 20000 in
theorem ggX5_addToSums_X1_upTo : GoodIn wsX5_addToSums wsX1_upTo := goodIn_r _ [5] (by decide +kernel) (by decide +kernel)
set_option maxRecDepth 20000 in
theorem gX5_addToSums_X1_upTo : GoodIn wsX5_addToSums (va_wsS RX5 22 yX1_upTo wsX1_upTo) := goodIn_app (goodIn_of _ (by decide +kernel)) ggX5_addToSums_X1_upTo
theorem dX5_addToSums_0 : decode cX5_addToSums 0 = .ok (.iload_n 1, 1) := by decide +kernel
theorem dX5_addToSums_1 : decode cX5_addToSums 1 = .ok (.sipush 4096, 3) := by decide +kernel
theorem dX5_addToSums_4 : decode cX5_addToSums 4 = .ok (.if_icmp .lt 10, 3) := by decide +kernel
theorem dX5_addToSums_7 : decode cX5_addToSums 7 = .ok (.iload_n 1, 1) := by decide +kernel
theorem dX5_addToSums_8 : decode cX5_addToSums 8 = .ok (.sipush 8192, 3) := by decide +kernel
theorem dX5_addToSums_11 : decode cX5_addToSums 11 = .ok (.if_icmp .lt 4, 3) := by decide +kernel
theorem dX5_addToSums_14 : decode cX5_addToSums 14 = .ok (.return_, 1) := by decide +kernel
theorem dX5_addToSums_15 : decode cX5_addToSums 15 = .ok (.iconst 0, 1) := by decide +kernel
theorem dX5_addToSums_16 : decode cX5_addToSums 16 = .ok (.istore_n 3, 1) := by decide +kernel
theorem dX5_addToSums_17 : decode cX5_addToSums 17 = .ok (.iload_n 3, 1) := by decide +kernel
theorem dX5_addToSums_18 : decode cX5_addToSums 18 = .ok (.bipush 6, 2) := by decide +kernel
theorem dX5_addToSums_20 : decode cX5_addToSums 20 = .ok (.if_icmp .gt 25, 3) := by decide +kernel
theorem dX5_addToSums_23 : decode cX5_addToSums 23 = .ok (.aload_n 0, 1) := by decide +kernel
theorem dX5_addToSums_24 : decode cX5_addToSums 24 = .ok (.getfield 18, 3) := by decide +kernel
theorem dX5_addToSums_27 : decode cX5_addToSums 27 = .ok (.iload_n 1, 1) := by decide +kernel
theorem dX5_addToSums_28 : decode cX5_addToSums 28 = .ok (.bipush 6, 2) := by decide +kernel
theorem dX5_addToSums_30 : decode cX5_addToSums 30 = .ok (.iload_n 3, 1) := by decide +kernel
theorem dX5_addToSums_31 : decode cX5_addToSums 31 = .ok (.invokestatic 22, 3) := by decide +kernel
theorem dX5_addToSums_34 : decode cX5_addToSums 34 = .ok (.dup2, 1) := by decide +kernel
theorem dX5_addToSums_35 : decode cX5_addToSums 35 = .ok (.iaload, 1) := by decide +kernel
theorem dX5_addToSums_36 : decode cX5_addToSums 36 = .ok (.iload_n 2, 1) := by decide +kernel
theorem dX5_addToSums_37 : decode cX5_addToSums 37 = .ok (.iadd, 1) := by decide +kernel
theorem dX5_addToSums_38 : decode cX5_addToSums 38 = .ok (.iastore, 1) := by decide +kernel
theorem dX5_addToSums_39 : decode cX5_addToSums 39 = .ok (.iinc 3 1, 3) := by decide +kernel
theorem dX5_addToSums_42 : decode cX5_addToSums 42 = .ok (.goto (-25), 3) := by decide +kernel
theorem dX5_addToSums_45 : decode cX5_addToSums 45 = .ok (.return_, 1) := by decide +kernel
set_option maxRecDepth 20000 in
theorem ggX5_addAllToSums_X3_placeOf : GoodIn wsX5_addAllToSums wsX3_placeOf := goodIn_r _ [7, 8, 9, 10, 11, 6, 12, 13, 26, 27, 28, 29, 30, 31] (by decide +kernel) (by decide +kernel)
set_option maxRecDepth 20000 in
theorem gX5_addAllToSums_X3_placeOf : GoodIn wsX5_addAllToSums (wsV RX5 32 RX3 yX3_placeOf wsX3_placeOf) := goodIn_app (goodIn_of _ (by decide +kernel)) ggX5_addAllToSums_X3_placeOf
set_option maxRecDepth 20000 in
theorem ggX5_addAllToSums_X5_addToSums : GoodIn wsX5_addAllToSums wsX5_addToSums := goodIn_r _ [18, 19, 20, 21, 22, 23, 24, 25] (by decide +kernel) (by decide +kernel)
set_option maxRecDepth 20000 in
theorem gX5_addAllToSums_X5_addToSums : GoodIn wsX5_addAllToSums (wsV RX5 36 RX5 yX5_addToSums wsX5_addToSums) := goodIn_app (goodIn_of _ (by decide +kernel)) ggX5_addAllToSums_X5_addToSums
theorem dX5_addAllToSums_0 : decode cX5_addAllToSums 0 = .ok (.iconst 0, 1) := by decide +kernel
theorem dX5_addAllToSums_1 : decode cX5_addAllToSums 1 = .ok (.istore_n 2, 1) := by decide +kernel
theorem dX5_addAllToSums_2 : decode cX5_addAllToSums 2 = .ok (.iload_n 2, 1) := by decide +kernel
theorem dX5_addAllToSums_3 : decode cX5_addAllToSums 3 = .ok (.aload_n 0, 1) := by decide +kernel
theorem dX5_addAllToSums_4 : decode cX5_addAllToSums 4 = .ok (.getfield 12, 3) := by decide +kernel
theorem dX5_addAllToSums_7 : decode cX5_addAllToSums 7 = .ok (.getfield 28, 3) := by decide +kernel
theorem dX5_addAllToSums_10 : decode cX5_addAllToSums 10 = .ok (.if_icmp .ge 22, 3) := by decide +kernel
theorem dX5_addAllToSums_13 : decode cX5_addAllToSums 13 = .ok (.aload_n 0, 1) := by decide +kernel
theorem dX5_addAllToSums_14 : decode cX5_addAllToSums 14 = .ok (.aload_n 0, 1) := by decide +kernel
theorem dX5_addAllToSums_15 : decode cX5_addAllToSums 15 = .ok (.getfield 12, 3) := by decide +kernel
theorem dX5_addAllToSums_18 : decode cX5_addAllToSums 18 = .ok (.iload_n 2, 1) := by decide +kernel
theorem dX5_addAllToSums_19 : decode cX5_addAllToSums 19 = .ok (.invokevirtual 32, 3) := by decide +kernel
theorem dX5_addAllToSums_22 : decode cX5_addAllToSums 22 = .ok (.iload_n 1, 1) := by decide +kernel
theorem dX5_addAllToSums_23 : decode cX5_addAllToSums 23 = .ok (.invokevirtual 36, 3) := by decide +kernel
theorem dX5_addAllToSums_26 : decode cX5_addAllToSums 26 = .ok (.iinc 2 1, 3) := by decide +kernel
theorem dX5_addAllToSums_29 : decode cX5_addAllToSums 29 = .ok (.goto (-27), 3) := by decide +kernel
theorem dX5_addAllToSums_32 : decode cX5_addAllToSums 32 = .ok (.return_, 1) := by decide +kernel
set_option maxRecDepth 20000 in
theorem ggX5_show_X5_addAllToSums : GoodIn wsX5_show wsX5_addAllToSums := goodIn_r _ [6, 1, 7, 8, 9, 10, 11, 12, 13, 14, 15, 16, 17, 18, 19, 20, 21, 5, 22, 23, 24, 25, 26, 27, 40, 41, 42, 43, 44, 45, 46, 47] (by decide +kernel) (by decide +kernel)
set_option maxRecDepth 20000 in
theorem gX5_show_X5_addAllToSums : GoodIn wsX5_show (wsV RX5 40 RX5 yX5_addAllToSums wsX5_addAllToSums) := goodIn_app (goodIn_of _ (by decide +kernel)) ggX5_show_X5_addAllToSums
set_option maxRecDepth 20000 in
theorem ggX5_show_X3_copyFrom : GoodIn wsX5_show wsX3_copyFrom := goodIn_r _ [31, 13, 32, 33, 34, 35, 36, 18, 37, 38, 39, 42, 43, 44, 45, 46, 47] (by decide +kernel) (by decide +kernel)
set_option maxRecDepth 20000 in
theorem gX5_show_X3_copyFrom : GoodIn wsX5_show (wsV RX5 44 RX3 yX3_copyFrom wsX3_copyFrom) := goodIn_app (goodIn_of _ (by decide +kernel)) ggX5_show_X3_copyFrom
theorem dX5_show_0 : decode cX5_show 0 = .ok (.aload_n 0, 1) := by decide +kernel
theorem dX5_show_1 : decode cX5_show 1 = .ok (.iconst (-1), 1) := by decide +kernel
theorem dX5_show_2 : decode cX5_show 2 = .ok (.invokevirtual 40, 3) := by decide +kernel
theorem dX5_show_5 : decode cX5_show 5 = .ok (.aload_n 0, 1) := by decide +kernel
theorem dX5_show_6 : decode cX5_show 6 = .ok (.getfield 12, 3) := by decide +kernel
theorem dX5_show_9 : decode cX5_show 9 = .ok (.aload_n 1, 1) := by decide +kernel
theorem dX5_show_10 : decode cX5_show 10 = .ok (.invokevirtual 44, 3) := by decide +kernel
theorem dX5_show_13 : decode cX5_show 13 = .ok (.aload_n 0, 1) := by decide +kernel
theorem dX5_show_14 : decode cX5_show 14 = .ok (.iconst 1, 1) := by decide +kernel
theorem dX5_show_15 : decode cX5_show 15 = .ok (.invokevirtual 40, 3) := by decide +kernel
theorem dX5_show_18 : decode cX5_show 18 = .ok (.return_, 1) := by decide +kernel
set_option maxRecDepth 20000 in
theorem ggX5_addPoint_X3_addPlace : GoodIn wsX5_addPoint wsX3_addPlace := goodIn_r _ [6, 7, 8, 21, 22, 23, 24, 25, 26] (by decide +kernel) (by decide +kernel)
set_option maxRecDepth 20000 in
theorem gX5_addPoint_X3_addPlace : GoodIn wsX5_addPoint (wsV RX5 48 RX3 yX3_addPlace wsX3_addPlace) := goodIn_app (goodIn_of _ (by decide +kernel)) ggX5_addPoint_X3_addPlace
set_option maxRecDepth 20000 in
theorem ggX5_addPoint_X5_addToSums : GoodIn wsX5_addPoint wsX5_addToSums := goodIn_r _ [13, 14, 15, 16, 17, 18, 19, 20] (by decide +kernel) (by decide +kernel)
set_option maxRecDepth 20000 in
theorem gX5_addPoint_X5_addToSums : GoodIn wsX5_addPoint (wsV RX5 36 RX5 yX5_addToSums wsX5_addToSums) := goodIn_app (goodIn_of _ (by decide +kernel)) ggX5_addPoint_X5_addToSums
theorem dX5_addPoint_0 : decode cX5_addPoint 0 = .ok (.aload_n 0, 1) := by decide +kernel
theorem dX5_addPoint_1 : decode cX5_addPoint 1 = .ok (.getfield 12, 3) := by decide +kernel
theorem dX5_addPoint_4 : decode cX5_addPoint 4 = .ok (.iload_n 1, 1) := by decide +kernel
theorem dX5_addPoint_5 : decode cX5_addPoint 5 = .ok (.invokevirtual 48, 3) := by decide +kernel
theorem dX5_addPoint_8 : decode cX5_addPoint 8 = .ok (.aload_n 0, 1) := by decide +kernel
theorem dX5_addPoint_9 : decode cX5_addPoint 9 = .ok (.iload_n 1, 1) := by decide +kernel
theorem dX5_addPoint_10 : decode cX5_addPoint 10 = .ok (.iconst 1, 1) := by decide +kernel
theorem dX5_addPoint_11 : decode cX5_addPoint 11 = .ok (.invokevirtual 36, 3) := by decide +kernel
theorem dX5_addPoint_14 : decode cX5_addPoint 14 = .ok (.return_, 1) := by decide +kernel
set_option maxRecDepth 20000 in
theorem ggX5_removePoint_X3_placeOf : GoodIn wsX5_removePoint wsX3_placeOf := goodIn_r _ [6, 7, 8, 9, 10, 5, 11, 12, 33, 34, 35, 36, 37, 38] (by decide +kernel) (by decide +kernel)
set_option maxRecDepth 20000 in
theorem gX5_removePoint_X3_placeOf : GoodIn wsX5_removePoint (wsV RX5 32 RX3 yX3_placeOf wsX3_placeOf) := goodIn_app (goodIn_of _ (by decide +kernel)) ggX5_removePoint_X3_placeOf
set_option maxRecDepth 20000 in
theorem ggX5_removePoint_X5_addToSums : GoodIn wsX5_removePoint wsX5_addToSums := goodIn_r _ [17, 18, 19, 20, 21, 22, 31, 32] (by decide +kernel) (by decide +kernel)
set_option maxRecDepth 20000 in
theorem gX5_removePoint_X5_addToSums : GoodIn wsX5_removePoint (wsV RX5 36 RX5 yX5_addToSums wsX5_addToSums) := goodIn_app (goodIn_of _ (by decide +kernel)) ggX5_removePoint_X5_addToSums
set_option maxRecDepth 20000 in
theorem ggX5_removePoint_X3_removePlace : GoodIn wsX5_removePoint wsX3_removePlace := goodIn_r _ [26, 7, 12, 27, 28, 29, 30, 8, 9, 10, 5, 11, 33, 34, 35, 36, 37, 38] (by decide +kernel) (by decide +kernel)
set_option maxRecDepth 20000 in
theorem gX5_removePoint_X3_removePlace : GoodIn wsX5_removePoint (wsV RX5 51 RX3 yX3_removePlace wsX3_removePlace) := goodIn_app (goodIn_of _ (by decide +kernel)) ggX5_removePoint_X3_removePlace
theorem dX5_removePoint_0 : decode cX5_removePoint 0 = .ok (.aload_n 0, 1) := by decide +kernel
theorem dX5_removePoint_1 : decode cX5_removePoint 1 = .ok (.aload_n 0, 1) := by decide +kernel
theorem dX5_removePoint_2 : decode cX5_removePoint 2 = .ok (.getfield 12, 3) := by decide +kernel
theorem dX5_removePoint_5 : decode cX5_removePoint 5 = .ok (.iload_n 1, 1) := by decide +kernel
theorem dX5_removePoint_6 : decode cX5_removePoint 6 = .ok (.invokevirtual 32, 3) := by decide +kernel
theorem dX5_removePoint_9 : decode cX5_removePoint 9 = .ok (.iconst (-1), 1) := by decide +kernel
theorem dX5_removePoint_10 : decode cX5_removePoint 10 = .ok (.invokevirtual 36, 3) := by decide +kernel
theorem dX5_removePoint_13 : decode cX5_removePoint 13 = .ok (.aload_n 0, 1) := by decide +kernel
theorem dX5_removePoint_14 : decode cX5_removePoint 14 = .ok (.getfield 12, 3) := by decide +kernel
theorem dX5_removePoint_17 : decode cX5_removePoint 17 = .ok (.iload_n 1, 1) := by decide +kernel
theorem dX5_removePoint_18 : decode cX5_removePoint 18 = .ok (.invokevirtual 51, 3) := by decide +kernel
theorem dX5_removePoint_21 : decode cX5_removePoint 21 = .ok (.return_, 1) := by decide +kernel
set_option maxRecDepth 20000 in
theorem ggX5_shiftPoint_X3_placeOf : GoodIn wsX5_shiftPoint wsX3_placeOf := goodIn_r _ [6, 7, 8, 9, 10, 5, 11, 12, 29, 30, 31, 32, 33, 34] (by decide +kernel) (by decide +kernel)
set_option maxRecDepth 20000 in
theorem gX5_shiftPoint_X3_placeOf : GoodIn wsX5_shiftPoint (wsV RX5 32 RX3 yX3_placeOf wsX3_placeOf) := goodIn_app (goodIn_of _ (by decide +kernel)) ggX5_shiftPoint_X3_placeOf
set_option maxRecDepth 20000 in
theorem ggX5_shiftPoint_X5_addToSums : GoodIn wsX5_shiftPoint wsX5_addToSums := goodIn_r _ [17, 18, 19, 20, 21, 22, 27, 28] (by decide +kernel) (by decide +kernel)
set_option maxRecDepth 20000 in
theorem gX5_shiftPoint_X5_addToSums : GoodIn wsX5_shiftPoint (wsV RX5 36 RX5 yX5_addToSums wsX5_addToSums) := goodIn_app (goodIn_of _ (by decide +kernel)) ggX5_shiftPoint_X5_addToSums
set_option maxRecDepth 20000 in
theorem ggX5_shiftPoint_X3_changePlace : GoodIn wsX5_shiftPoint wsX3_changePlace := goodIn_r _ [26, 7, 8, 9, 10, 5, 11, 12, 29, 30, 31, 32, 33, 34] (by decide +kernel) (by decide +kernel)
set_option maxRecDepth 20000 in
theorem gX5_shiftPoint_X3_changePlace : GoodIn wsX5_shiftPoint (wsV RX5 54 RX3 yX3_changePlace wsX3_changePlace) := goodIn_app (goodIn_of _ (by decide +kernel)) ggX5_shiftPoint_X3_changePlace
theorem dX5_shiftPoint_0 : decode cX5_shiftPoint 0 = .ok (.aload_n 0, 1) := by decide +kernel
theorem dX5_shiftPoint_1 : decode cX5_shiftPoint 1 = .ok (.aload_n 0, 1) := by decide +kernel
theorem dX5_shiftPoint_2 : decode cX5_shiftPoint 2 = .ok (.getfield 12, 3) := by decide +kernel
theorem dX5_shiftPoint_5 : decode cX5_shiftPoint 5 = .ok (.iload_n 1, 1) := by decide +kernel
theorem dX5_shiftPoint_6 : decode cX5_shiftPoint 6 = .ok (.invokevirtual 32, 3) := by decide +kernel
theorem dX5_shiftPoint_9 : decode cX5_shiftPoint 9 = .ok (.iconst (-1), 1) := by decide +kernel
theorem dX5_shiftPoint_10 : decode cX5_shiftPoint 10 = .ok (.invokevirtual 36, 3) := by decide +kernel
theorem dX5_shiftPoint_13 : decode cX5_shiftPoint 13 = .ok (.aload_n 0, 1) := by decide +kernel
theorem dX5_shiftPoint_14 : decode cX5_shiftPoint 14 = .ok (.getfield 12, 3) := by decide +kernel
theorem dX5_shiftPoint_17 : decode cX5_shiftPoint 17 = .ok (.iload_n 1, 1) := by decide +kernel
theorem dX5_shiftPoint_18 : decode cX5_shiftPoint 18 = .ok (.iload_n 2, 1) := by decide +kernel
theorem dX5_shiftPoint_19 : decode cX5_shiftPoint 19 = .ok (.invokevirtual 54, 3) := by decide +kernel
theorem dX5_shiftPoint_22 : decode cX5_shiftPoint 22 = .ok (.aload_n 0, 1) := by decide +kernel
theorem dX5_shiftPoint_23 : decode cX5_shiftPoint 23 = .ok (.iload_n 2, 1) := by decide +kernel
theorem dX5_shiftPoint_24 : decode cX5_shiftPoint 24 = .ok (.iconst 1, 1) := by decide +kernel
theorem dX5_shiftPoint_25 : decode cX5_shiftPoint 25 = .ok (.invokevirtual 36, 3) := by decide +kernel
theorem dX5_shiftPoint_28 : decode cX5_shiftPoint 28 = .ok (.return_, 1) := by decide +kernel
theorem dX5_pointsIn_0 : decode cX5_pointsIn 0 = .ok (.iload_n 1, 1) := by decide +kernel
theorem dX5_pointsIn_1 : decode cX5_pointsIn 1 = .ok (.iconst 1, 1) := by decide +kernel
theorem dX5_pointsIn_2 : decode cX5_pointsIn 2 = .ok (.if_icmp .lt 19, 3) := by decide +kernel
theorem dX5_pointsIn_5 : decode cX5_pointsIn 5 = .ok (.iload_n 1, 1) := by decide +kernel
theorem dX5_pointsIn_6 : decode cX5_pointsIn 6 = .ok (.sipush 8192, 3) := by decide +kernel
theorem dX5_pointsIn_9 : decode cX5_pointsIn 9 = .ok (.if_icmp .ge 12, 3) := by decide +kernel
theorem dX5_pointsIn_12 : decode cX5_pointsIn 12 = .ok (.aload_n 0, 1) := by decide +kernel
theorem dX5_pointsIn_13 : decode cX5_pointsIn 13 = .ok (.getfield 18, 3) := by decide +kernel
theorem dX5_pointsIn_16 : decode cX5_pointsIn 16 = .ok (.iload_n 1, 1) := by decide +kernel
theorem dX5_pointsIn_17 : decode cX5_pointsIn 17 = .ok (.iaload, 1) := by decide +kernel
theorem dX5_pointsIn_18 : decode cX5_pointsIn 18 = .ok (.goto 4, 3) := by decide +kernel
theorem dX5_pointsIn_21 : decode cX5_pointsIn 21 = .ok (.iconst 0, 1) := by decide +kernel
theorem dX5_pointsIn_22 : decode cX5_pointsIn 22 = .ok (.ireturn, 1) := by decide +kernel
set_option maxRecDepth 20000 in
theorem ggX5_wouldBeSplit_X5_pointsIn : GoodIn wsX5_wouldBeSplit wsX5_pointsIn := goodIn_r _ [8, 9, 21, 22] (by decide +kernel) (by decide +kernel)
set_option maxRecDepth 20000 in
theorem gX5_wouldBeSplit_X5_pointsIn : GoodIn wsX5_wouldBeSplit (wsV RX5 60 RX5 yX5_pointsIn wsX5_pointsIn) := goodIn_app (goodIn_of _ (by decide +kernel)) ggX5_wouldBeSplit_X5_pointsIn
set_option maxRecDepth 20000 in
theorem ggX5_wouldBeSplit_X3_isOrdered : GoodIn wsX5_wouldBeSplit wsX3_isOrdered := goodIn_r _ [14, 15, 16, 17, 13, 18, 19, 20, 23, 24, 25, 26, 27, 28] (by decide +kernel) (by decide +kernel)
set_option maxRecDepth 20000 in
theorem gX5_wouldBeSplit_X3_isOrdered : GoodIn wsX5_wouldBeSplit (wsV RX5 66 RX3 yX3_isOrdered wsX3_isOrdered) := goodIn_app (goodIn_of _ (by decide +kernel)) ggX5_wouldBeSplit_X3_isOrdered
theorem dX5_wouldBeSplit_0 : decode cX5_wouldBeSplit 0 = .ok (.iload_n 2, 1) := by decide +kernel
theorem dX5_wouldBeSplit_1 : decode cX5_wouldBeSplit 1 = .ok (.aload_n 0, 1) := by decide +kernel
theorem dX5_wouldBeSplit_2 : decode cX5_wouldBeSplit 2 = .ok (.getfield 12, 3) := by decide +kernel
theorem dX5_wouldBeSplit_5 : decode cX5_wouldBeSplit 5 = .ok (.getfield 57, 3) := by decide +kernel
theorem dX5_wouldBeSplit_8 : decode cX5_wouldBeSplit 8 = .ok (.if_icmp .ge 33, 3) := by decide +kernel
theorem dX5_wouldBeSplit_11 : decode cX5_wouldBeSplit 11 = .ok (.aload_n 0, 1) := by decide +kernel
theorem dX5_wouldBeSplit_12 : decode cX5_wouldBeSplit 12 = .ok (.iload_n 1, 1) := by decide +kernel
theorem dX5_wouldBeSplit_13 : decode cX5_wouldBeSplit 13 = .ok (.invokevirtual 60, 3) := by decide +kernel
theorem dX5_wouldBeSplit_16 : decode cX5_wouldBeSplit 16 = .ok (.aload_n 0, 1) := by decide +kernel
theorem dX5_wouldBeSplit_17 : decode cX5_wouldBeSplit 17 = .ok (.getfield 12, 3) := by decide +kernel
theorem dX5_wouldBeSplit_20 : decode cX5_wouldBeSplit 20 = .ok (.getfield 63, 3) := by decide +kernel
theorem dX5_wouldBeSplit_23 : decode cX5_wouldBeSplit 23 = .ok (.if_icmp .gt 14, 3) := by decide +kernel
theorem dX5_wouldBeSplit_26 : decode cX5_wouldBeSplit 26 = .ok (.aload_n 0, 1) := by decide +kernel
theorem dX5_wouldBeSplit_27 : decode cX5_wouldBeSplit 27 = .ok (.getfield 12, 3) := by decide +kernel
theorem dX5_wouldBeSplit_30 : decode cX5_wouldBeSplit 30 = .ok (.iload_n 1, 1) := by decide +kernel
theorem dX5_wouldBeSplit_31 : decode cX5_wouldBeSplit 31 = .ok (.invokevirtual 66, 3) := by decide +kernel
theorem dX5_wouldBeSplit_34 : decode cX5_wouldBeSplit 34 = .ok (.ifCond .eq 7, 3) := by decide +kernel
theorem dX5_wouldBeSplit_37 : decode cX5_wouldBeSplit 37 = .ok (.iconst 1, 1) := by decide +kernel
theorem dX5_wouldBeSplit_38 : decode cX5_wouldBeSplit 38 = .ok (.goto 4, 3) := by decide +kernel
theorem dX5_wouldBeSplit_41 : decode cX5_wouldBeSplit 41 = .ok (.iconst 0, 1) := by decide +kernel
theorem dX5_wouldBeSplit_42 : decode cX5_wouldBeSplit 42 = .ok (.ireturn, 1) := by decide +kernel
set_option maxRecDepth 20000 in
theorem ggX5_isThere_X1_upTo : GoodIn wsX5_isThere wsX1_upTo := goodIn_r _ [4] (by decide +kernel) (by decide +kernel)
set_option maxRecDepth 20000 in
theorem gX5_isThere_X1_upTo : GoodIn wsX5_isThere (va_wsS RX5 22 yX1_upTo wsX1_upTo) := goodIn_app (goodIn_of _ (by decide +kernel)) ggX5_isThere_X1_upTo
set_option maxRecDepth 20000 in
theorem ggX5_isThere_X5_wouldBeSplit : GoodIn wsX5_isThere wsX5_wouldBeSplit := goodIn_r _ [9, 10, 11, 12, 13, 14, 15, 8, 16, 17, 18, 19, 20, 21, 22, 23, 24, 25, 26, 27, 28, 29, 30, 31, 32, 33, 34, 35, 36] (by decide +kernel) (by decide +kernel)
set_option maxRecDepth 20000 in
theorem gX5_isThere_X5_wouldBeSplit : GoodIn wsX5_isThere (wsV RX5 70 RX5 yX5_wouldBeSplit wsX5_wouldBeSplit) := goodIn_app (goodIn_of _ (by decide +kernel)) ggX5_isThere_X5_wouldBeSplit
theorem dX5_isThere_0 : decode cX5_isThere 0 = .ok (.iconst 0, 1) := by decide +kernel
theorem dX5_isThere_1 : decode cX5_isThere 1 = .ok (.istore_n 3, 1) := by decide +kernel
theorem dX5_isThere_2 : decode cX5_isThere 2 = .ok (.iload_n 3, 1) := by decide +kernel
theorem dX5_isThere_3 : decode cX5_isThere 3 = .ok (.iload_n 2, 1) := by decide +kernel
theorem dX5_isThere_4 : decode cX5_isThere 4 = .ok (.if_icmp .ge 25, 3) := by decide +kernel
theorem dX5_isThere_7 : decode cX5_isThere 7 = .ok (.aload_n 0, 1) := by decide +kernel
theorem dX5_isThere_8 : decode cX5_isThere 8 = .ok (.iload_n 1, 1) := by decide +kernel
theorem dX5_isThere_9 : decode cX5_isThere 9 = .ok (.iload_n 2, 1) := by decide +kernel
theorem dX5_isThere_10 : decode cX5_isThere 10 = .ok (.iload_n 3, 1) := by decide +kernel
theorem dX5_isThere_11 : decode cX5_isThere 11 = .ok (.invokestatic 22, 3) := by decide +kernel
theorem dX5_isThere_14 : decode cX5_isThere 14 = .ok (.iload_n 3, 1) := by decide +kernel
theorem dX5_isThere_15 : decode cX5_isThere 15 = .ok (.invokevirtual 70, 3) := by decide +kernel
theorem dX5_isThere_18 : decode cX5_isThere 18 = .ok (.ifCond .ne 5, 3) := by decide +kernel
theorem dX5_isThere_21 : decode cX5_isThere 21 = .ok (.iconst 0, 1) := by decide +kernel
theorem dX5_isThere_22 : decode cX5_isThere 22 = .ok (.ireturn, 1) := by decide +kernel
theorem dX5_isThere_23 : decode cX5_isThere 23 = .ok (.iinc 3 1, 3) := by decide +kernel
theorem dX5_isThere_26 : decode cX5_isThere 26 = .ok (.goto (-24), 3) := by decide +kernel
theorem dX5_isThere_29 : decode cX5_isThere 29 = .ok (.iconst 1, 1) := by decide +kernel
theorem dX5_isThere_30 : decode cX5_isThere 30 = .ok (.ireturn, 1) := by decide +kernel
set_option maxRecDepth 20000 in
theorem ggX5_kindOf_X5_isThere : GoodIn wsX5_kindOf wsX5_isThere := goodIn_r _ [5, 6, 7, 8, 9, 10, 11, 12, 4, 13, 14, 15, 16, 17, 18, 19, 20, 21, 22, 23, 24, 25, 26, 27, 28, 29, 30, 31, 32, 33, 34, 35, 36, 37, 38, 39, 40] (by decide +kernel) (by decide +kernel)
set_option maxRecDepth 20000 in
theorem gX5_kindOf_X5_isThere : GoodIn wsX5_kindOf (wsV RX5 74 RX5 yX5_isThere wsX5_isThere) := goodIn_app (goodIn_of _ (by decide +kernel)) ggX5_kindOf_X5_isThere
set_option maxRecDepth 20000 in
theorem ggX5_kindOf_X5_wouldBeSplit : GoodIn wsX5_kindOf wsX5_wouldBeSplit := goodIn_r _ [13, 14, 15, 16, 17, 18, 19, 4, 20, 21, 22, 23, 24, 25, 26, 27, 28, 29, 30, 31, 32, 33, 34, 35, 36, 37, 38, 39, 40] (by decide +kernel) (by decide +kernel)
set_option maxRecDepth 20000 in
theorem gX5_kindOf_X5_wouldBeSplit : GoodIn wsX5_kindOf (wsV RX5 70 RX5 yX5_wouldBeSplit wsX5_wouldBeSplit) := goodIn_app (goodIn_of _ (by decide +kernel)) ggX5_kindOf_X5_wouldBeSplit
theorem dX5_kindOf_0 : decode cX5_kindOf 0 = .ok (.aload_n 0, 1) := by decide +kernel
theorem dX5_kindOf_1 : decode cX5_kindOf 1 = .ok (.iload_n 1, 1) := by decide +kernel
theorem dX5_kindOf_2 : decode cX5_kindOf 2 = .ok (.iload_n 2, 1) := by decide +kernel
theorem dX5_kindOf_3 : decode cX5_kindOf 3 = .ok (.invokevirtual 74, 3) := by decide +kernel
theorem dX5_kindOf_6 : decode cX5_kindOf 6 = .ok (.ifCond .ne 5, 3) := by decide +kernel
theorem dX5_kindOf_9 : decode cX5_kindOf 9 = .ok (.iconst 0, 1) := by decide +kernel
theorem dX5_kindOf_10 : decode cX5_kindOf 10 = .ok (.ireturn, 1) := by decide +kernel
theorem dX5_kindOf_11 : decode cX5_kindOf 11 = .ok (.aload_n 0, 1) := by decide +kernel
theorem dX5_kindOf_12 : decode cX5_kindOf 12 = .ok (.iload_n 1, 1) := by decide +kernel
theorem dX5_kindOf_13 : decode cX5_kindOf 13 = .ok (.iload_n 2, 1) := by decide +kernel
theorem dX5_kindOf_14 : decode cX5_kindOf 14 = .ok (.invokevirtual 70, 3) := by decide +kernel
theorem dX5_kindOf_17 : decode cX5_kindOf 17 = .ok (.ifCond .eq 7, 3) := by decide +kernel
theorem dX5_kindOf_20 : decode cX5_kindOf 20 = .ok (.iconst 2, 1) := by decide +kernel
theorem dX5_kindOf_21 : decode cX5_kindOf 21 = .ok (.goto 4, 3) := by decide +kernel
theorem dX5_kindOf_24 : decode cX5_kindOf 24 = .ok (.iconst 1, 1) := by decide +kernel
theorem dX5_kindOf_25 : decode cX5_kindOf 25 = .ok (.ireturn, 1) := by decide +kernel
set_option maxRecDepth 20000 in
theorem ggX5_depthOfLeafWith_X1_upTo : GoodIn wsX5_depthOfLeafWith wsX1_upTo := goodIn_r _ [4] (by decide +kernel) (by decide +kernel)
set_option maxRecDepth 20000 in
theorem gX5_depthOfLeafWith_X1_upTo : GoodIn wsX5_depthOfLeafWith (va_wsS RX5 22 yX1_upTo wsX1_upTo) := goodIn_app (goodIn_of _ (by decide +kernel)) ggX5_depthOfLeafWith_X1_upTo
set_option maxRecDepth 20000 in
theorem ggX5_depthOfLeafWith_X5_wouldBeSplit : GoodIn wsX5_depthOfLeafWith wsX5_wouldBeSplit := goodIn_r _ [9, 10, 11, 12, 13, 14, 15, 8, 16, 17, 18, 19, 20, 21, 22, 23, 24, 25, 26, 27, 28, 29, 30, 31, 32, 33, 34, 35, 36] (by decide +kernel) (by decide +kernel)
set_option maxRecDepth 20000 in
theorem gX5_depthOfLeafWith_X5_wouldBeSplit : GoodIn wsX5_depthOfLeafWith (wsV RX5 70 RX5 yX5_wouldBeSplit wsX5_wouldBeSplit) := goodIn_app (goodIn_of _ (by decide +kernel)) ggX5_depthOfLeafWith_X5_wouldBeSplit
theorem dX5_depthOfLeafWith_0 : decode cX5_depthOfLeafWith 0 = .ok (.iconst 0, 1) := by decide +kernel
theorem dX5_depthOfLeafWith_1 : decode cX5_depthOfLeafWith 1 = .ok (.istore_n 2, 1) := by decide +kernel
theorem dX5_depthOfLeafWith_2 : decode cX5_depthOfLeafWith 2 = .ok (.iload_n 2, 1) := by decide +kernel
theorem dX5_depthOfLeafWith_3 : decode cX5_depthOfLeafWith 3 = .ok (.bipush 6, 2) := by decide +kernel
theorem dX5_depthOfLeafWith_5 : decode cX5_depthOfLeafWith 5 = .ok (.if_icmp .ge 24, 3) := by decide +kernel
theorem dX5_depthOfLeafWith_8 : decode cX5_depthOfLeafWith 8 = .ok (.aload_n 0, 1) := by decide +kernel
theorem dX5_depthOfLeafWith_9 : decode cX5_depthOfLeafWith 9 = .ok (.iload_n 1, 1) := by decide +kernel
theorem dX5_depthOfLeafWith_10 : decode cX5_depthOfLeafWith 10 = .ok (.bipush 6, 2) := by decide +kernel
theorem dX5_depthOfLeafWith_12 : decode cX5_depthOfLeafWith 12 = .ok (.iload_n 2, 1) := by decide +kernel
theorem dX5_depthOfLeafWith_13 : decode cX5_depthOfLeafWith 13 = .ok (.invokestatic 22, 3) := by decide +kernel
theorem dX5_depthOfLeafWith_16 : decode cX5_depthOfLeafWith 16 = .ok (.iload_n 2, 1) := by decide +kernel
theorem dX5_depthOfLeafWith_17 : decode cX5_depthOfLeafWith 17 = .ok (.invokevirtual 70, 3) := by decide +kernel
theorem dX5_depthOfLeafWith_20 : decode cX5_depthOfLeafWith 20 = .ok (.ifCond .eq 9, 3) := by decide +kernel
theorem dX5_depthOfLeafWith_23 : decode cX5_depthOfLeafWith 23 = .ok (.iinc 2 1, 3) := by decide +kernel
theorem dX5_depthOfLeafWith_26 : decode cX5_depthOfLeafWith 26 = .ok (.goto (-24), 3) := by decide +kernel
theorem dX5_depthOfLeafWith_29 : decode cX5_depthOfLeafWith 29 = .ok (.iload_n 2, 1) := by decide +kernel
theorem dX5_depthOfLeafWith_30 : decode cX5_depthOfLeafWith 30 = .ok (.ireturn, 1) := by decide +kernel
set_option maxRecDepth 20000 in
theorem ggX5_leafWith_X5_depthOfLeafWith : GoodIn wsX5_leafWith wsX5_depthOfLeafWith := goodIn_r _ [5, 6, 7, 8, 9, 10, 11, 12, 4, 13, 14, 15, 16, 17, 18, 19, 20, 21, 22, 23, 24, 25, 26, 27, 28, 29, 30, 31, 32, 33, 34, 35, 36, 37, 38, 39, 40] (by decide +kernel) (by decide +kernel)
set_option maxRecDepth 20000 in
theorem gX5_leafWith_X5_depthOfLeafWith : GoodIn wsX5_leafWith (wsV RX5 77 RX5 yX5_depthOfLeafWith wsX5_depthOfLeafWith) := goodIn_app (goodIn_of _ (by decide +kernel)) ggX5_leafWith_X5_depthOfLeafWith
set_option maxRecDepth 20000 in
theorem ggX5_leafWith_X1_upTo : GoodIn wsX5_leafWith wsX1_upTo := goodIn_r _ [9] (by decide +kernel) (by decide +kernel)
set_option maxRecDepth 20000 in
theorem gX5_leafWith_X1_upTo : GoodIn wsX5_leafWith (va_wsS RX5 22 yX1_upTo wsX1_upTo) := goodIn_app (goodIn_of _ (by decide +kernel)) ggX5_leafWith_X1_upTo
theorem dX5_leafWith_0 : decode cX5_leafWith 0 = .ok (.iload_n 1, 1) := by decide +kernel
theorem dX5_leafWith_1 : decode cX5_leafWith 1 = .ok (.bipush 6, 2) := by decide +kernel
theorem dX5_leafWith_3 : decode cX5_leafWith 3 = .ok (.aload_n 0, 1) := by decide +kernel
theorem dX5_leafWith_4 : decode cX5_leafWith 4 = .ok (.iload_n 1, 1) := by decide +kernel
theorem dX5_leafWith_5 : decode cX5_leafWith 5 = .ok (.invokevirtual 77, 3) := by decide +kernel
theorem dX5_leafWith_8 : decode cX5_leafWith 8 = .ok (.invokestatic 22, 3) := by decide +kernel
theorem dX5_leafWith_11 : decode cX5_leafWith 11 = .ok (.ireturn, 1) := by decide +kernel
set_option maxRecDepth 20000 in
theorem ggX5_smallestAround_X1_leastPlace : GoodIn wsX5_smallestAround wsX1_leastPlace := goodIn_r _ [8] (by decide +kernel) (by decide +kernel)
set_option maxRecDepth 20000 in
theorem gX5_smallestAround_X1_leastPlace : GoodIn wsX5_smallestAround (va_wsS RX5 80 yX1_leastPlace wsX1_leastPlace) := goodIn_app (goodIn_of _ (by decide +kernel)) ggX5_smallestAround_X1_leastPlace
set_option maxRecDepth 20000 in
theorem ggX5_smallestAround_X5_depthOfLeafWith : GoodIn wsX5_smallestAround wsX5_depthOfLeafWith := goodIn_r _ [13, 14, 15, 7, 16, 17, 18, 19, 12, 20, 21, 22, 23, 24, 25, 26, 27, 28, 29, 30, 31, 32, 33, 34, 35, 36, 37, 38, 39, 40, 41, 42, 43, 44, 45, 46, 47] (by decide +kernel) (by decide +kernel)
set_option maxRecDepth 20000 in
theorem gX5_smallestAround_X5_depthOfLeafWith : GoodIn wsX5_smallestAround (wsV RX5 77 RX5 yX5_depthOfLeafWith wsX5_depthOfLeafWith) := goodIn_app (goodIn_of _ (by decide +kernel)) ggX5_smallestAround_X5_depthOfLeafWith
set_option maxRecDepth 20000 in
theorem ggX5_smallestAround_X1_upTo : GoodIn wsX5_smallestAround wsX1_upTo := goodIn_r _ [16] (by decide +kernel) (by decide +kernel)
set_option maxRecDepth 20000 in
theorem gX5_smallestAround_X1_upTo : GoodIn wsX5_smallestAround (va_wsS RX5 22 yX1_upTo wsX1_upTo) := goodIn_app (goodIn_of _ (by decide +kernel)) ggX5_smallestAround_X1_upTo
theorem dX5_smallestAround_0 : decode cX5_smallestAround 0 = .ok (.iload_n 1, 1) := by decide +kernel
theorem dX5_smallestAround_1 : decode cX5_smallestAround 1 = .ok (.iload_n 2, 1) := by decide +kernel
theorem dX5_smallestAround_2 : decode cX5_smallestAround 2 = .ok (.invokestatic 80, 3) := by decide +kernel
theorem dX5_smallestAround_5 : decode cX5_smallestAround 5 = .ok (.istore_n 3, 1) := by decide +kernel
theorem dX5_smallestAround_6 : decode cX5_smallestAround 6 = .ok (.iload_n 3, 1) := by decide +kernel
theorem dX5_smallestAround_7 : decode cX5_smallestAround 7 = .ok (.bipush 6, 2) := by decide +kernel
theorem dX5_smallestAround_9 : decode cX5_smallestAround 9 = .ok (.iload_n 2, 1) := by decide +kernel
theorem dX5_smallestAround_10 : decode cX5_smallestAround 10 = .ok (.aload_n 0, 1) := by decide +kernel
theorem dX5_smallestAround_11 : decode cX5_smallestAround 11 = .ok (.iload_n 3, 1) := by decide +kernel
theorem dX5_smallestAround_12 : decode cX5_smallestAround 12 = .ok (.invokevirtual 77, 3) := by decide +kernel
theorem dX5_smallestAround_15 : decode cX5_smallestAround 15 = .ok (.invokestatic 84, 3) := by decide +kernel
theorem dX5_smallestAround_18 : decode cX5_smallestAround 18 = .ok (.invokestatic 22, 3) := by decide +kernel
theorem dX5_smallestAround_21 : decode cX5_smallestAround 21 = .ok (.ireturn, 1) := by decide +kernel
set_option maxRecDepth 20000 in
theorem ggX5_smallestWith_X1_placeAt : GoodIn wsX5_smallestWith wsX1_placeAt := goodIn_r _ [8] (by decide +kernel) (by decide +kernel)
set_option maxRecDepth 20000 in
theorem gX5_smallestWith_X1_placeAt : GoodIn wsX5_smallestWith (va_wsS RX5 97 yX1_placeAt wsX1_placeAt) := goodIn_app (goodIn_of _ (by decide +kernel)) ggX5_smallestWith_X1_placeAt
set_option maxRecDepth 20000 in
theorem ggX5_smallestWith_X5_depthOfLeafWith : GoodIn wsX5_smallestWith wsX5_depthOfLeafWith := goodIn_r _ [13, 14, 15, 7, 16, 17, 18, 19, 12, 20, 21, 22, 23, 24, 25, 26, 27, 28, 29, 30, 31, 32, 33, 34, 35, 36, 37, 38, 39, 44, 45, 46, 47, 48, 49, 50, 51] (by decide +kernel) (by decide +kernel)
set_option maxRecDepth 20000 in
theorem gX5_smallestWith_X5_depthOfLeafWith : GoodIn wsX5_smallestWith (wsV RX5 77 RX5 yX5_depthOfLeafWith wsX5_depthOfLeafWith) := goodIn_app (goodIn_of _ (by decide +kernel)) ggX5_smallestWith_X5_depthOfLeafWith
set_option maxRecDepth 20000 in
theorem ggX5_smallestWith_X1_upTo : GoodIn wsX5_smallestWith wsX1_upTo := goodIn_r _ [16] (by decide +kernel) (by decide +kernel)
set_option maxRecDepth 20000 in
theorem gX5_smallestWith_X1_upTo : GoodIn wsX5_smallestWith (va_wsS RX5 22 yX1_upTo wsX1_upTo) := goodIn_app (goodIn_of _ (by decide +kernel)) ggX5_smallestWith_X1_upTo
theorem dX5_smallestWith_0 : decode cX5_smallestWith 0 = .ok (.aload_n 1, 1) := by decide +kernel
theorem dX5_smallestWith_1 : decode cX5_smallestWith 1 = .ok (.getfield 89, 3) := by decide +kernel
theorem dX5_smallestWith_4 : decode cX5_smallestWith 4 = .ok (.aload_n 1, 1) := by decide +kernel
theorem dX5_smallestWith_5 : decode cX5_smallestWith 5 = .ok (.getfield 94, 3) := by decide +kernel
theorem dX5_smallestWith_8 : decode cX5_smallestWith 8 = .ok (.invokestatic 97, 3) := by decide +kernel
theorem dX5_smallestWith_11 : decode cX5_smallestWith 11 = .ok (.istore_n 2, 1) := by decide +kernel
theorem dX5_smallestWith_12 : decode cX5_smallestWith 12 = .ok (.aload_n 1, 1) := by decide +kernel
theorem dX5_smallestWith_13 : decode cX5_smallestWith 13 = .ok (.getfield 100, 3) := by decide +kernel
theorem dX5_smallestWith_16 : decode cX5_smallestWith 16 = .ok (.aload_n 1, 1) := by decide +kernel
theorem dX5_smallestWith_17 : decode cX5_smallestWith 17 = .ok (.getfield 103, 3) := by decide +kernel
theorem dX5_smallestWith_20 : decode cX5_smallestWith 20 = .ok (.invokestatic 97, 3) := by decide +kernel
theorem dX5_smallestWith_23 : decode cX5_smallestWith 23 = .ok (.istore_n 3, 1) := by decide +kernel
theorem dX5_smallestWith_24 : decode cX5_smallestWith 24 = .ok (.aload_n 0, 1) := by decide +kernel
theorem dX5_smallestWith_25 : decode cX5_smallestWith 25 = .ok (.iload_n 2, 1) := by decide +kernel
theorem dX5_smallestWith_26 : decode cX5_smallestWith 26 = .ok (.invokevirtual 77, 3) := by decide +kernel
theorem dX5_smallestWith_29 : decode cX5_smallestWith 29 = .ok (.istore 4, 2) := by decide +kernel
theorem dX5_smallestWith_31 : decode cX5_smallestWith 31 = .ok (.iload 4, 2) := by decide +kernel
theorem dX5_smallestWith_33 : decode cX5_smallestWith 33 = .ok (.ifCond .le 28, 3) := by decide +kernel
theorem dX5_smallestWith_36 : decode cX5_smallestWith 36 = .ok (.iload_n 2, 1) := by decide +kernel
theorem dX5_smallestWith_37 : decode cX5_smallestWith 37 = .ok (.bipush 6, 2) := by decide +kernel
theorem dX5_smallestWith_39 : decode cX5_smallestWith 39 = .ok (.iload 4, 2) := by decide +kernel
theorem dX5_smallestWith_41 : decode cX5_smallestWith 41 = .ok (.invokestatic 22, 3) := by decide +kernel
theorem dX5_smallestWith_44 : decode cX5_smallestWith 44 = .ok (.iload_n 3, 1) := by decide +kernel
theorem dX5_smallestWith_45 : decode cX5_smallestWith 45 = .ok (.bipush 6, 2) := by decide +kernel
theorem dX5_smallestWith_47 : decode cX5_smallestWith 47 = .ok (.iload 4, 2) := by decide +kernel
theorem dX5_smallestWith_49 : decode cX5_smallestWith 49 = .ok (.invokestatic 22, 3) := by decide +kernel
theorem dX5_smallestWith_52 : decode cX5_smallestWith 52 = .ok (.if_icmp .eq 9, 3) := by decide +kernel
theorem dX5_smallestWith_55 : decode cX5_smallestWith 55 = .ok (.iinc 4 (-1), 3) := by decide +kernel
theorem dX5_smallestWith_58 : decode cX5_smallestWith 58 = .ok (.goto (-27), 3) := by decide +kernel
theorem dX5_smallestWith_61 : decode cX5_smallestWith 61 = .ok (.iload_n 2, 1) := by decide +kernel
theorem dX5_smallestWith_62 : decode cX5_smallestWith 62 = .ok (.bipush 6, 2) := by decide +kernel
theorem dX5_smallestWith_64 : decode cX5_smallestWith 64 = .ok (.iload 4, 2) := by decide +kernel
theorem dX5_smallestWith_66 : decode cX5_smallestWith 66 = .ok (.invokestatic 22, 3) := by decide +kernel
theorem dX5_smallestWith_69 : decode cX5_smallestWith 69 = .ok (.ireturn, 1) := by decide +kernel
set_option maxRecDepth 20000 in
theorem ggX5_leaves_X5_leavesIn : GoodIn wsX5_leaves wsX5_leavesIn := goodIn_r _ [4, 5, 6, 7, 3, 8, 9, 10, 11, 12, 13, 14, 15, 16, 17, 18, 19, 20, 21, 22, 23, 24, 25, 26, 27, 1, 2, 28, 29, 30, 31, 32, 33, 34, 35] (by decide +kernel) (by decide +kernel)
set_option maxRecDepth 20000 in
theorem gX5_leaves_X5_leavesIn : GoodIn wsX5_leaves (va_wsS RX5 106 yX5_leavesIn wsX5_leavesIn) := goodIn_app (goodIn_of _ (by decide +kernel)) ggX5_leaves_X5_leavesIn
theorem dX5_leaves_0 : decode cX5_leaves 0 = .ok (.aload_n 0, 1) := by decide +kernel
theorem dX5_leaves_1 : decode cX5_leaves 1 = .ok (.iconst 1, 1) := by decide +kernel
theorem dX5_leaves_2 : decode cX5_leaves 2 = .ok (.iconst 0, 1) := by decide +kernel
theorem dX5_leaves_3 : decode cX5_leaves 3 = .ok (.invokestatic 106, 3) := by decide +kernel
theorem dX5_leaves_6 : decode cX5_leaves 6 = .ok (.ireturn, 1) := by decide +kernel
set_option maxRecDepth 20000 in
theorem ggX5_tiles_X5_leaves : GoodIn wsX5_tiles wsX5_leaves := goodIn_r _ [5, 6, 7, 4, 8, 9, 10, 11, 12, 13, 14, 15, 16, 17, 18, 19, 20, 21, 22, 23, 24, 25, 26, 27, 28, 29, 30, 31, 32, 33, 34, 35, 36, 37, 38, 39] (by decide +kernel) (by decide +kernel)
set_option maxRecDepth 20000 in
theorem gX5_tiles_X5_leaves : GoodIn wsX5_tiles (wsV RX5 110 RX5 yX5_leaves wsX5_leaves) := goodIn_app (goodIn_of _ (by decide +kernel)) ggX5_tiles_X5_leaves
theorem dX5_tiles_0 : decode cX5_tiles 0 = .ok (.aload_n 0, 1) := by decide +kernel
theorem dX5_tiles_1 : decode cX5_tiles 1 = .ok (.invokevirtual 110, 3) := by decide +kernel
theorem dX5_tiles_4 : decode cX5_tiles 4 = .ok (.istore_n 1, 1) := by decide +kernel
theorem dX5_tiles_5 : decode cX5_tiles 5 = .ok (.iload_n 1, 1) := by decide +kernel
theorem dX5_tiles_6 : decode cX5_tiles 6 = .ok (.iload_n 1, 1) := by decide +kernel
theorem dX5_tiles_7 : decode cX5_tiles 7 = .ok (.iconst 1, 1) := by decide +kernel
theorem dX5_tiles_8 : decode cX5_tiles 8 = .ok (.isub, 1) := by decide +kernel
theorem dX5_tiles_9 : decode cX5_tiles 9 = .ok (.iconst 3, 1) := by decide +kernel
theorem dX5_tiles_10 : decode cX5_tiles 10 = .ok (.idiv, 1) := by decide +kernel
theorem dX5_tiles_11 : decode cX5_tiles 11 = .ok (.iadd, 1) := by decide +kernel
theorem dX5_tiles_12 : decode cX5_tiles 12 = .ok (.ireturn, 1) := by decide +kernel
set_option maxRecDepth 20000 in
theorem ggX5_leavesIn_X5_wouldBeSplit : GoodIn wsX5_leavesIn wsX5_wouldBeSplit := goodIn_r _ [5, 6, 7, 8, 9, 10, 11, 4, 12, 13, 14, 15, 16, 17, 18, 19, 20, 21, 22, 23, 24, 27, 28, 29, 30, 31, 32, 33, 34] (by decide +kernel) (by decide +kernel)
set_option maxRecDepth 20000 in
theorem gX5_leavesIn_X5_wouldBeSplit : GoodIn wsX5_leavesIn (wsV RX5 70 RX5 yX5_wouldBeSplit wsX5_wouldBeSplit) := goodIn_app (goodIn_of _ (by decide +kernel)) ggX5_leavesIn_X5_wouldBeSplit
set_option maxRecDepth 20000 in
theorem ggX5_leavesIn_X5_leavesIn : GoodIn wsX5_leavesIn wsX5_leavesIn := goodIn_r _ [0, 1, 2, 3, 4, 5, 6, 7, 8, 9, 10, 11, 12, 13, 14, 15, 16, 17, 18, 19, 20, 21, 22, 23, 24, 25, 26, 27, 28, 29, 30, 31, 32, 33, 34] (by decide +kernel) (by decide +kernel)
set_option maxRecDepth 20000 in
theorem gX5_leavesIn_X5_leavesIn : GoodIn wsX5_leavesIn (va_wsS RX5 106 yX5_leavesIn wsX5_leavesIn) := goodIn_app (goodIn_of _ (by decide +kernel)) ggX5_leavesIn_X5_leavesIn
theorem dX5_leavesIn_0 : decode cX5_leavesIn 0 = .ok (.iload_n 2, 1) := by decide +kernel
theorem dX5_leavesIn_1 : decode cX5_leavesIn 1 = .ok (.bipush 6, 2) := by decide +kernel
theorem dX5_leavesIn_3 : decode cX5_leavesIn 3 = .ok (.if_icmp .ge 12, 3) := by decide +kernel
theorem dX5_leavesIn_6 : decode cX5_leavesIn 6 = .ok (.aload_n 0, 1) := by decide +kernel
theorem dX5_leavesIn_7 : decode cX5_leavesIn 7 = .ok (.iload_n 1, 1) := by decide +kernel
theorem dX5_leavesIn_8 : decode cX5_leavesIn 8 = .ok (.iload_n 2, 1) := by decide +kernel
theorem dX5_leavesIn_9 : decode cX5_leavesIn 9 = .ok (.invokevirtual 70, 3) := by decide +kernel
theorem dX5_leavesIn_12 : decode cX5_leavesIn 12 = .ok (.ifCond .ne 5, 3) := by decide +kernel
theorem dX5_leavesIn_15 : decode cX5_leavesIn 15 = .ok (.iconst 1, 1) := by decide +kernel
theorem dX5_leavesIn_16 : decode cX5_leavesIn 16 = .ok (.ireturn, 1) := by decide +kernel
theorem dX5_leavesIn_17 : decode cX5_leavesIn 17 = .ok (.iconst 0, 1) := by decide +kernel
theorem dX5_leavesIn_18 : decode cX5_leavesIn 18 = .ok (.istore_n 3, 1) := by decide +kernel
theorem dX5_leavesIn_19 : decode cX5_leavesIn 19 = .ok (.iconst 0, 1) := by decide +kernel
theorem dX5_leavesIn_20 : decode cX5_leavesIn 20 = .ok (.istore 4, 2) := by decide +kernel
theorem dX5_leavesIn_22 : decode cX5_leavesIn 22 = .ok (.iload 4, 2) := by decide +kernel
theorem dX5_leavesIn_24 : decode cX5_leavesIn 24 = .ok (.iconst 4, 1) := by decide +kernel
theorem dX5_leavesIn_25 : decode cX5_leavesIn 25 = .ok (.if_icmp .ge 25, 3) := by decide +kernel
theorem dX5_leavesIn_28 : decode cX5_leavesIn 28 = .ok (.iload_n 3, 1) := by decide +kernel
theorem dX5_leavesIn_29 : decode cX5_leavesIn 29 = .ok (.aload_n 0, 1) := by decide +kernel
theorem dX5_leavesIn_30 : decode cX5_leavesIn 30 = .ok (.iconst 4, 1) := by decide +kernel
theorem dX5_leavesIn_31 : decode cX5_leavesIn 31 = .ok (.iload_n 1, 1) := by decide +kernel
theorem dX5_leavesIn_32 : decode cX5_leavesIn 32 = .ok (.imul, 1) := by decide +kernel
theorem dX5_leavesIn_33 : decode cX5_leavesIn 33 = .ok (.iload 4, 2) := by decide +kernel
theorem dX5_leavesIn_35 : decode cX5_leavesIn 35 = .ok (.iadd, 1) := by decide +kernel
theorem dX5_leavesIn_36 : decode cX5_leavesIn 36 = .ok (.iload_n 2, 1) := by decide +kernel
theorem dX5_leavesIn_37 : decode cX5_leavesIn 37 = .ok (.iconst 1, 1) := by decide +kernel
theorem dX5_leavesIn_38 : decode cX5_leavesIn 38 = .ok (.iadd, 1) := by decide +kernel
theorem dX5_leavesIn_39 : decode cX5_leavesIn 39 = .ok (.invokestatic 106, 3) := by decide +kernel
theorem dX5_leavesIn_42 : decode cX5_leavesIn 42 = .ok (.iadd, 1) := by decide +kernel
theorem dX5_leavesIn_43 : decode cX5_leavesIn 43 = .ok (.istore_n 3, 1) := by decide +kernel
theorem dX5_leavesIn_44 : decode cX5_leavesIn 44 = .ok (.iinc 4 1, 3) := by decide +kernel
theorem dX5_leavesIn_47 : decode cX5_leavesIn 47 = .ok (.goto (-25), 3) := by decide +kernel
theorem dX5_leavesIn_50 : decode cX5_leavesIn 50 = .ok (.iload_n 3, 1) := by decide +kernel
theorem dX5_leavesIn_51 : decode cX5_leavesIn 51 = .ok (.ireturn, 1) := by decide +kernel
set_option maxRecDepth 20000 in
theorem ggX5_emptyLeavesIn_X5_wouldBeSplit : GoodIn wsX5_emptyLeavesIn wsX5_wouldBeSplit := goodIn_r _ [5, 6, 7, 8, 9, 10, 11, 4, 12, 13, 14, 15, 16, 17, 18, 19, 20, 21, 22, 23, 24, 27, 28, 29, 30, 31, 32, 33, 34] (by decide +kernel) (by decide +kernel)
set_option maxRecDepth 20000 in
theorem gX5_emptyLeavesIn_X5_wouldBeSplit : GoodIn wsX5_emptyLeavesIn (wsV RX5 70 RX5 yX5_wouldBeSplit wsX5_wouldBeSplit) := goodIn_app (goodIn_of _ (by decide +kernel)) ggX5_emptyLeavesIn_X5_wouldBeSplit
set_option maxRecDepth 20000 in
theorem ggX5_emptyLeavesIn_X5_pointsIn : GoodIn wsX5_emptyLeavesIn wsX5_pointsIn := goodIn_r _ [12, 13, 27, 28] (by decide +kernel) (by decide +kernel)
set_option maxRecDepth 20000 in
theorem gX5_emptyLeavesIn_X5_pointsIn : GoodIn wsX5_emptyLeavesIn (wsV RX5 60 RX5 yX5_pointsIn wsX5_pointsIn) := goodIn_app (goodIn_of _ (by decide +kernel)) ggX5_emptyLeavesIn_X5_pointsIn
set_option maxRecDepth 20000 in
theorem ggX5_emptyLeavesIn_X5_emptyLeavesIn : GoodIn wsX5_emptyLeavesIn wsX5_emptyLeavesIn := goodIn_r _ [0, 1, 2, 3, 4, 5, 6, 7, 8, 9, 10, 11, 12, 13, 14, 15, 16, 17, 18, 19, 20, 21, 22, 23, 24, 25, 26, 27, 28, 29, 30, 31, 32, 33, 34] (by decide +kernel) (by decide +kernel)
set_option maxRecDepth 20000 in
theorem gX5_emptyLeavesIn_X5_emptyLeavesIn : GoodIn wsX5_emptyLeavesIn (va_wsS RX5 114 yX5_emptyLeavesIn wsX5_emptyLeavesIn) := goodIn_app (goodIn_of _ (by decide +kernel)) ggX5_emptyLeavesIn_X5_emptyLeavesIn
theorem dX5_emptyLeavesIn_0 : decode cX5_emptyLeavesIn 0 = .ok (.iload_n 2, 1) := by decide +kernel
theorem dX5_emptyLeavesIn_1 : decode cX5_emptyLeavesIn 1 = .ok (.bipush 6, 2) := by decide +kernel
theorem dX5_emptyLeavesIn_3 : decode cX5_emptyLeavesIn 3 = .ok (.if_icmp .ge 12, 3) := by decide +kernel
theorem dX5_emptyLeavesIn_6 : decode cX5_emptyLeavesIn 6 = .ok (.aload_n 0, 1) := by decide +kernel
theorem dX5_emptyLeavesIn_7 : decode cX5_emptyLeavesIn 7 = .ok (.iload_n 1, 1) := by decide +kernel
theorem dX5_emptyLeavesIn_8 : decode cX5_emptyLeavesIn 8 = .ok (.iload_n 2, 1) := by decide +kernel
theorem dX5_emptyLeavesIn_9 : decode cX5_emptyLeavesIn 9 = .ok (.invokevirtual 70, 3) := by decide +kernel
theorem dX5_emptyLeavesIn_12 : decode cX5_emptyLeavesIn 12 = .ok (.ifCond .ne 17, 3) := by decide +kernel
theorem dX5_emptyLeavesIn_15 : decode cX5_emptyLeavesIn 15 = .ok (.aload_n 0, 1) := by decide +kernel
theorem dX5_emptyLeavesIn_16 : decode cX5_emptyLeavesIn 16 = .ok (.iload_n 1, 1) := by decide +kernel
theorem dX5_emptyLeavesIn_17 : decode cX5_emptyLeavesIn 17 = .ok (.invokevirtual 60, 3) := by decide +kernel
theorem dX5_emptyLeavesIn_20 : decode cX5_emptyLeavesIn 20 = .ok (.ifCond .ne 7, 3) := by decide +kernel
theorem dX5_emptyLeavesIn_23 : decode cX5_emptyLeavesIn 23 = .ok (.iconst 1, 1) := by decide +kernel
theorem dX5_emptyLeavesIn_24 : decode cX5_emptyLeavesIn 24 = .ok (.goto 4, 3) := by decide +kernel
theorem dX5_emptyLeavesIn_27 : decode cX5_emptyLeavesIn 27 = .ok (.iconst 0, 1) := by decide +kernel
theorem dX5_emptyLeavesIn_28 : decode cX5_emptyLeavesIn 28 = .ok (.ireturn, 1) := by decide +kernel
theorem dX5_emptyLeavesIn_29 : decode cX5_emptyLeavesIn 29 = .ok (.iconst 0, 1) := by decide +kernel
theorem dX5_emptyLeavesIn_30 : decode cX5_emptyLeavesIn 30 = .ok (.istore_n 3, 1) := by decide +kernel
theorem dX5_emptyLeavesIn_31 : decode cX5_emptyLeavesIn 31 = .ok (.iconst 0, 1) := by decide +kernel
theorem dX5_emptyLeavesIn_32 : decode cX5_emptyLeavesIn 32 = .ok (.istore 4, 2) := by decide +kernel
theorem dX5_emptyLeavesIn_34 : decode cX5_emptyLeavesIn 34 = .ok (.iload 4, 2) := by decide +kernel
theorem dX5_emptyLeavesIn_36 : decode cX5_emptyLeavesIn 36 = .ok (.iconst 4, 1) := by decide +kernel
theorem dX5_emptyLeavesIn_37 : decode cX5_emptyLeavesIn 37 = .ok (.if_icmp .ge 25, 3) := by decide +kernel
theorem dX5_emptyLeavesIn_40 : decode cX5_emptyLeavesIn 40 = .ok (.iload_n 3, 1) := by decide +kernel
theorem dX5_emptyLeavesIn_41 : decode cX5_emptyLeavesIn 41 = .ok (.aload_n 0, 1) := by decide +kernel
theorem dX5_emptyLeavesIn_42 : decode cX5_emptyLeavesIn 42 = .ok (.iconst 4, 1) := by decide +kernel
theorem dX5_emptyLeavesIn_43 : decode cX5_emptyLeavesIn 43 = .ok (.iload_n 1, 1) := by decide +kernel
theorem dX5_emptyLeavesIn_44 : decode cX5_emptyLeavesIn 44 = .ok (.imul, 1) := by decide +kernel
theorem dX5_emptyLeavesIn_45 : decode cX5_emptyLeavesIn 45 = .ok (.iload 4, 2) := by decide +kernel
theorem dX5_emptyLeavesIn_47 : decode cX5_emptyLeavesIn 47 = .ok (.iadd, 1) := by decide +kernel
theorem dX5_emptyLeavesIn_48 : decode cX5_emptyLeavesIn 48 = .ok (.iload_n 2, 1) := by decide +kernel
theorem dX5_emptyLeavesIn_49 : decode cX5_emptyLeavesIn 49 = .ok (.iconst 1, 1) := by decide +kernel
theorem dX5_emptyLeavesIn_50 : decode cX5_emptyLeavesIn 50 = .ok (.iadd, 1) := by decide +kernel
theorem dX5_emptyLeavesIn_51 : decode cX5_emptyLeavesIn 51 = .ok (.invokestatic 114, 3) := by decide +kernel
theorem dX5_emptyLeavesIn_54 : decode cX5_emptyLeavesIn 54 = .ok (.iadd, 1) := by decide +kernel
theorem dX5_emptyLeavesIn_55 : decode cX5_emptyLeavesIn 55 = .ok (.istore_n 3, 1) := by decide +kernel
theorem dX5_emptyLeavesIn_56 : decode cX5_emptyLeavesIn 56 = .ok (.iinc 4 1, 3) := by decide +kernel
theorem dX5_emptyLeavesIn_59 : decode cX5_emptyLeavesIn 59 = .ok (.goto (-25), 3) := by decide +kernel
theorem dX5_emptyLeavesIn_62 : decode cX5_emptyLeavesIn 62 = .ok (.iload_n 3, 1) := by decide +kernel
theorem dX5_emptyLeavesIn_63 : decode cX5_emptyLeavesIn 63 = .ok (.ireturn, 1) := by decide +kernel
set_option maxRecDepth 20000 in
theorem ggX5_deepestIn_X5_wouldBeSplit : GoodIn wsX5_deepestIn wsX5_wouldBeSplit := goodIn_r _ [9, 10, 11, 12, 13, 14, 15, 8, 16, 17, 18, 19, 20, 21, 22, 23, 24, 25, 26, 27, 28, 31, 32, 33, 34, 35, 36, 37, 38] (by decide +kernel) (by decide +kernel)
set_option maxRecDepth 20000 in
theorem gX5_deepestIn_X5_wouldBeSplit : GoodIn wsX5_deepestIn (wsV RX5 70 RX5 yX5_wouldBeSplit wsX5_wouldBeSplit) := goodIn_app (goodIn_of _ (by decide +kernel)) ggX5_deepestIn_X5_wouldBeSplit
set_option maxRecDepth 20000 in
theorem ggX5_deepestIn_X5_deepestIn : GoodIn wsX5_deepestIn wsX5_deepestIn := goodIn_r _ [0, 1, 2, 3, 4, 5, 6, 7, 8, 9, 10, 11, 12, 13, 14, 15, 16, 17, 18, 19, 20, 21, 22, 23, 24, 25, 26, 27, 28, 29, 30, 31, 32, 33, 34, 35, 36, 37, 38] (by decide +kernel) (by decide +kernel)
set_option maxRecDepth 20000 in
theorem gX5_deepestIn_X5_deepestIn : GoodIn wsX5_deepestIn (va_wsS RX5 117 yX5_deepestIn wsX5_deepestIn) := goodIn_app (goodIn_of _ (by decide +kernel)) ggX5_deepestIn_X5_deepestIn
theorem dX5_deepestIn_0 : decode cX5_deepestIn 0 = .ok (.iload_n 2, 1) := by decide +kernel
theorem dX5_deepestIn_1 : decode cX5_deepestIn 1 = .ok (.bipush 6, 2) := by decide +kernel
theorem dX5_deepestIn_3 : decode cX5_deepestIn 3 = .ok (.if_icmp .ge 12, 3) := by decide +kernel
theorem dX5_deepestIn_6 : decode cX5_deepestIn 6 = .ok (.aload_n 0, 1) := by decide +kernel
theorem dX5_deepestIn_7 : decode cX5_deepestIn 7 = .ok (.iload_n 1, 1) := by decide +kernel
theorem dX5_deepestIn_8 : decode cX5_deepestIn 8 = .ok (.iload_n 2, 1) := by decide +kernel
theorem dX5_deepestIn_9 : decode cX5_deepestIn 9 = .ok (.invokevirtual 70, 3) := by decide +kernel
theorem dX5_deepestIn_12 : decode cX5_deepestIn 12 = .ok (.ifCond .ne 5, 3) := by decide +kernel
theorem dX5_deepestIn_15 : decode cX5_deepestIn 15 = .ok (.iload_n 2, 1) := by decide +kernel
theorem dX5_deepestIn_16 : decode cX5_deepestIn 16 = .ok (.ireturn, 1) := by decide +kernel
theorem dX5_deepestIn_17 : decode cX5_deepestIn 17 = .ok (.iconst 0, 1) := by decide +kernel
theorem dX5_deepestIn_18 : decode cX5_deepestIn 18 = .ok (.istore_n 3, 1) := by decide +kernel
theorem dX5_deepestIn_19 : decode cX5_deepestIn 19 = .ok (.iconst 0, 1) := by decide +kernel
theorem dX5_deepestIn_20 : decode cX5_deepestIn 20 = .ok (.istore 4, 2) := by decide +kernel
theorem dX5_deepestIn_22 : decode cX5_deepestIn 22 = .ok (.iload 4, 2) := by decide +kernel
theorem dX5_deepestIn_24 : decode cX5_deepestIn 24 = .ok (.iconst 4, 1) := by decide +kernel
theorem dX5_deepestIn_25 : decode cX5_deepestIn 25 = .ok (.if_icmp .ge 27, 3) := by decide +kernel
theorem dX5_deepestIn_28 : decode cX5_deepestIn 28 = .ok (.iload_n 3, 1) := by decide +kernel
theorem dX5_deepestIn_29 : decode cX5_deepestIn 29 = .ok (.aload_n 0, 1) := by decide +kernel
theorem dX5_deepestIn_30 : decode cX5_deepestIn 30 = .ok (.iconst 4, 1) := by decide +kernel
theorem dX5_deepestIn_31 : decode cX5_deepestIn 31 = .ok (.iload_n 1, 1) := by decide +kernel
theorem dX5_deepestIn_32 : decode cX5_deepestIn 32 = .ok (.imul, 1) := by decide +kernel
theorem dX5_deepestIn_33 : decode cX5_deepestIn 33 = .ok (.iload 4, 2) := by decide +kernel
theorem dX5_deepestIn_35 : decode cX5_deepestIn 35 = .ok (.iadd, 1) := by decide +kernel
theorem dX5_deepestIn_36 : decode cX5_deepestIn 36 = .ok (.iload_n 2, 1) := by decide +kernel
theorem dX5_deepestIn_37 : decode cX5_deepestIn 37 = .ok (.iconst 1, 1) := by decide +kernel
theorem dX5_deepestIn_38 : decode cX5_deepestIn 38 = .ok (.iadd, 1) := by decide +kernel
theorem dX5_deepestIn_39 : decode cX5_deepestIn 39 = .ok (.invokestatic 117, 3) := by decide +kernel
theorem dX5_deepestIn_42 : decode cX5_deepestIn 42 = .ok (.invokestatic 120, 3) := by decide +kernel
theorem dX5_deepestIn_45 : decode cX5_deepestIn 45 = .ok (.istore_n 3, 1) := by decide +kernel
theorem dX5_deepestIn_46 : decode cX5_deepestIn 46 = .ok (.iinc 4 1, 3) := by decide +kernel
theorem dX5_deepestIn_49 : decode cX5_deepestIn 49 = .ok (.goto (-27), 3) := by decide +kernel
theorem dX5_deepestIn_52 : decode cX5_deepestIn 52 = .ok (.iload_n 3, 1) := by decide +kernel
theorem dX5_deepestIn_53 : decode cX5_deepestIn 53 = .ok (.ireturn, 1) := by decide +kernel
set_option maxRecDepth 20000 in
theorem ggX5_leavesMeeting_X6_meets : GoodIn wsX5_leavesMeeting wsX6_meets := goodIn_r _ [5, 6, 7, 8, 9, 10, 11, 12, 13, 14, 15, 16, 17, 18, 19, 20, 21, 22, 23, 24, 25, 52, 53, 54, 55] (by decide +kernel) (by decide +kernel)
set_option maxRecDepth 20000 in
theorem gX5_leavesMeeting_X6_meets : GoodIn wsX5_leavesMeeting (wsV RX5 123 RX6 yX6_meets wsX6_meets) := goodIn_app (goodIn_of _ (by decide +kernel)) ggX5_leavesMeeting_X6_meets
set_option maxRecDepth 20000 in
theorem ggX5_leavesMeeting_X5_wouldBeSplit : GoodIn wsX5_leavesMeeting wsX5_wouldBeSplit := goodIn_r _ [30, 31, 32, 33, 34, 35, 36, 29, 37, 38, 39, 40, 41, 42, 43, 44, 45, 46, 47, 48, 49, 56, 57, 58, 59, 60, 61, 62, 63] (by decide +kernel) (by decide +kernel)
set_option maxRecDepth 20000 in
theorem gX5_leavesMeeting_X5_wouldBeSplit : GoodIn wsX5_leavesMeeting (wsV RX5 70 RX5 yX5_wouldBeSplit wsX5_wouldBeSplit) := goodIn_app (goodIn_of _ (by decide +kernel)) ggX5_leavesMeeting_X5_wouldBeSplit
set_option maxRecDepth 20000 in
theorem ggX5_leavesMeeting_X5_leavesMeeting : GoodIn wsX5_leavesMeeting wsX5_leavesMeeting := goodIn_r _ [0, 1, 2, 3, 4, 5, 6, 7, 8, 9, 10, 11, 12, 13, 14, 15, 16, 17, 18, 19, 20, 21, 22, 23, 24, 25, 26, 27, 28, 29, 30, 31, 32, 33, 34, 35, 36, 37, 38, 39, 40, 41, 42, 43, 44, 45, 46, 47, 48, 49, 50, 51, 52, 53, 54, 55, 56, 57, 58, 59, 60, 61, 62, 63] (by decide +kernel) (by decide +kernel)
set_option maxRecDepth 20000 in
theorem gX5_leavesMeeting_X5_leavesMeeting : GoodIn wsX5_leavesMeeting (va_wsS RX5 126 yX5_leavesMeeting wsX5_leavesMeeting) := goodIn_app (goodIn_of _ (by decide +kernel)) ggX5_leavesMeeting_X5_leavesMeeting
theorem dX5_leavesMeeting_0 : decode cX5_leavesMeeting 0 = .ok (.aload_n 1, 1) := by decide +kernel
theorem dX5_leavesMeeting_1 : decode cX5_leavesMeeting 1 = .ok (.iload_n 2, 1) := by decide +kernel
theorem dX5_leavesMeeting_2 : decode cX5_leavesMeeting 2 = .ok (.iload_n 3, 1) := by decide +kernel
theorem dX5_leavesMeeting_3 : decode cX5_leavesMeeting 3 = .ok (.invokevirtual 123, 3) := by decide +kernel
theorem dX5_leavesMeeting_6 : decode cX5_leavesMeeting 6 = .ok (.ifCond .ne 5, 3) := by decide +kernel
theorem dX5_leavesMeeting_9 : decode cX5_leavesMeeting 9 = .ok (.iconst 0, 1) := by decide +kernel
theorem dX5_leavesMeeting_10 : decode cX5_leavesMeeting 10 = .ok (.ireturn, 1) := by decide +kernel
theorem dX5_leavesMeeting_11 : decode cX5_leavesMeeting 11 = .ok (.iload_n 3, 1) := by decide +kernel
theorem dX5_leavesMeeting_12 : decode cX5_leavesMeeting 12 = .ok (.bipush 6, 2) := by decide +kernel
theorem dX5_leavesMeeting_14 : decode cX5_leavesMeeting 14 = .ok (.if_icmp .ge 12, 3) := by decide +kernel
theorem dX5_leavesMeeting_17 : decode cX5_leavesMeeting 17 = .ok (.aload_n 0, 1) := by decide +kernel
theorem dX5_leavesMeeting_18 : decode cX5_leavesMeeting 18 = .ok (.iload_n 2, 1) := by decide +kernel
theorem dX5_leavesMeeting_19 : decode cX5_leavesMeeting 19 = .ok (.iload_n 3, 1) := by decide +kernel
theorem dX5_leavesMeeting_20 : decode cX5_leavesMeeting 20 = .ok (.invokevirtual 70, 3) := by decide +kernel
theorem dX5_leavesMeeting_23 : decode cX5_leavesMeeting 23 = .ok (.ifCond .ne 5, 3) := by decide +kernel
theorem dX5_leavesMeeting_26 : decode cX5_leavesMeeting 26 = .ok (.iconst 1, 1) := by decide +kernel
theorem dX5_leavesMeeting_27 : decode cX5_leavesMeeting 27 = .ok (.ireturn, 1) := by decide +kernel
theorem dX5_leavesMeeting_28 : decode cX5_leavesMeeting 28 = .ok (.iconst 0, 1) := by decide +kernel
theorem dX5_leavesMeeting_29 : decode cX5_leavesMeeting 29 = .ok (.istore 4, 2) := by decide +kernel
theorem dX5_leavesMeeting_31 : decode cX5_leavesMeeting 31 = .ok (.iconst 0, 1) := by decide +kernel
theorem dX5_leavesMeeting_32 : decode cX5_leavesMeeting 32 = .ok (.istore 5, 2) := by decide +kernel
theorem dX5_leavesMeeting_34 : decode cX5_leavesMeeting 34 = .ok (.iload 5, 2) := by decide +kernel
theorem dX5_leavesMeeting_36 : decode cX5_leavesMeeting 36 = .ok (.iconst 4, 1) := by decide +kernel
theorem dX5_leavesMeeting_37 : decode cX5_leavesMeeting 37 = .ok (.if_icmp .ge 28, 3) := by decide +kernel
theorem dX5_leavesMeeting_40 : decode cX5_leavesMeeting 40 = .ok (.iload 4, 2) := by decide +kernel
theorem dX5_leavesMeeting_42 : decode cX5_leavesMeeting 42 = .ok (.aload_n 0, 1) := by decide +kernel
theorem dX5_leavesMeeting_43 : decode cX5_leavesMeeting 43 = .ok (.aload_n 1, 1) := by decide +kernel
theorem dX5_leavesMeeting_44 : decode cX5_leavesMeeting 44 = .ok (.iconst 4, 1) := by decide +kernel
theorem dX5_leavesMeeting_45 : decode cX5_leavesMeeting 45 = .ok (.iload_n 2, 1) := by decide +kernel
theorem dX5_leavesMeeting_46 : decode cX5_leavesMeeting 46 = .ok (.imul, 1) := by decide +kernel
theorem dX5_leavesMeeting_47 : decode cX5_leavesMeeting 47 = .ok (.iload 5, 2) := by decide +kernel
theorem dX5_leavesMeeting_49 : decode cX5_leavesMeeting 49 = .ok (.iadd, 1) := by decide +kernel
theorem dX5_leavesMeeting_50 : decode cX5_leavesMeeting 50 = .ok (.iload_n 3, 1) := by decide +kernel
theorem dX5_leavesMeeting_51 : decode cX5_leavesMeeting 51 = .ok (.iconst 1, 1) := by decide +kernel
theorem dX5_leavesMeeting_52 : decode cX5_leavesMeeting 52 = .ok (.iadd, 1) := by decide +kernel
theorem dX5_leavesMeeting_53 : decode cX5_leavesMeeting 53 = .ok (.invokestatic 126, 3) := by decide +kernel
theorem dX5_leavesMeeting_56 : decode cX5_leavesMeeting 56 = .ok (.iadd, 1) := by decide +kernel
theorem dX5_leavesMeeting_57 : decode cX5_leavesMeeting 57 = .ok (.istore 4, 2) := by decide +kernel
theorem dX5_leavesMeeting_59 : decode cX5_leavesMeeting 59 = .ok (.iinc 5 1, 3) := by decide +kernel
theorem dX5_leavesMeeting_62 : decode cX5_leavesMeeting 62 = .ok (.goto (-28), 3) := by decide +kernel
theorem dX5_leavesMeeting_65 : decode cX5_leavesMeeting 65 = .ok (.iload 4, 2) := by decide +kernel
theorem dX5_leavesMeeting_67 : decode cX5_leavesMeeting 67 = .ok (.ireturn, 1) := by decide +kernel
set_option maxRecDepth 20000 in
theorem ggX5_tilesMeeting_X6_meets : GoodIn wsX5_tilesMeeting wsX6_meets := goodIn_r _ [5, 6, 7, 8, 9, 10, 11, 12, 13, 14, 15, 16, 17, 18, 19, 20, 21, 22, 23, 24, 25, 52, 53, 54, 55] (by decide +kernel) (by decide +kernel)
set_option maxRecDepth 20000 in
theorem gX5_tilesMeeting_X6_meets : GoodIn wsX5_tilesMeeting (wsV RX5 123 RX6 yX6_meets wsX6_meets) := goodIn_app (goodIn_of _ (by decide +kernel)) ggX5_tilesMeeting_X6_meets
set_option maxRecDepth 20000 in
theorem ggX5_tilesMeeting_X5_wouldBeSplit : GoodIn wsX5_tilesMeeting wsX5_wouldBeSplit := goodIn_r _ [30, 31, 32, 33, 34, 35, 36, 29, 37, 38, 39, 40, 41, 42, 43, 44, 45, 46, 47, 48, 49, 56, 57, 58, 59, 60, 61, 62, 63] (by decide +kernel) (by decide +kernel)
set_option maxRecDepth 20000 in
theorem gX5_tilesMeeting_X5_wouldBeSplit : GoodIn wsX5_tilesMeeting (wsV RX5 70 RX5 yX5_wouldBeSplit wsX5_wouldBeSplit) := goodIn_app (goodIn_of _ (by decide +kernel)) ggX5_tilesMeeting_X5_wouldBeSplit
set_option maxRecDepth 20000 in
theorem ggX5_tilesMeeting_X5_tilesMeeting : GoodIn wsX5_tilesMeeting wsX5_tilesMeeting := goodIn_r _ [0, 1, 2, 3, 4, 5, 6, 7, 8, 9, 10, 11, 12, 13, 14, 15, 16, 17, 18, 19, 20, 21, 22, 23, 24, 25, 26, 27, 28, 29, 30, 31, 32, 33, 34, 35, 36, 37, 38, 39, 40, 41, 42, 43, 44, 45, 46, 47, 48, 49, 50, 51, 52, 53, 54, 55, 56, 57, 58, 59, 60, 61, 62, 63] (by decide +kernel) (by decide +kernel)
set_option maxRecDepth 20000 in
theorem gX5_tilesMeeting_X5_tilesMeeting : GoodIn wsX5_tilesMeeting (va_wsS RX5 130 yX5_tilesMeeting wsX5_tilesMeeting) := goodIn_app (goodIn_of _ (by decide +kernel)) ggX5_tilesMeeting_X5_tilesMeeting
theorem dX5_tilesMeeting_0 : decode cX5_tilesMeeting 0 = .ok (.aload_n 1, 1) := by decide +kernel
theorem dX5_tilesMeeting_1 : decode cX5_tilesMeeting 1 = .ok (.iload_n 2, 1) := by decide +kernel
theorem dX5_tilesMeeting_2 : decode cX5_tilesMeeting 2 = .ok (.iload_n 3, 1) := by decide +kernel
theorem dX5_tilesMeeting_3 : decode cX5_tilesMeeting 3 = .ok (.invokevirtual 123, 3) := by decide +kernel
theorem dX5_tilesMeeting_6 : decode cX5_tilesMeeting 6 = .ok (.ifCond .ne 5, 3) := by decide +kernel
theorem dX5_tilesMeeting_9 : decode cX5_tilesMeeting 9 = .ok (.iconst 0, 1) := by decide +kernel
theorem dX5_tilesMeeting_10 : decode cX5_tilesMeeting 10 = .ok (.ireturn, 1) := by decide +kernel
theorem dX5_tilesMeeting_11 : decode cX5_tilesMeeting 11 = .ok (.iconst 1, 1) := by decide +kernel
theorem dX5_tilesMeeting_12 : decode cX5_tilesMeeting 12 = .ok (.istore 4, 2) := by decide +kernel
theorem dX5_tilesMeeting_14 : decode cX5_tilesMeeting 14 = .ok (.iload_n 3, 1) := by decide +kernel
theorem dX5_tilesMeeting_15 : decode cX5_tilesMeeting 15 = .ok (.bipush 6, 2) := by decide +kernel
theorem dX5_tilesMeeting_17 : decode cX5_tilesMeeting 17 = .ok (.if_icmp .ge 46, 3) := by decide +kernel
theorem dX5_tilesMeeting_20 : decode cX5_tilesMeeting 20 = .ok (.aload_n 0, 1) := by decide +kernel
theorem dX5_tilesMeeting_21 : decode cX5_tilesMeeting 21 = .ok (.iload_n 2, 1) := by decide +kernel
theorem dX5_tilesMeeting_22 : decode cX5_tilesMeeting 22 = .ok (.iload_n 3, 1) := by decide +kernel
theorem dX5_tilesMeeting_23 : decode cX5_tilesMeeting 23 = .ok (.invokevirtual 70, 3) := by decide +kernel
theorem dX5_tilesMeeting_26 : decode cX5_tilesMeeting 26 = .ok (.ifCond .eq 37, 3) := by decide +kernel
theorem dX5_tilesMeeting_29 : decode cX5_tilesMeeting 29 = .ok (.iconst 0, 1) := by decide +kernel
theorem dX5_tilesMeeting_30 : decode cX5_tilesMeeting 30 = .ok (.istore 5, 2) := by decide +kernel
theorem dX5_tilesMeeting_32 : decode cX5_tilesMeeting 32 = .ok (.iload 5, 2) := by decide +kernel
theorem dX5_tilesMeeting_34 : decode cX5_tilesMeeting 34 = .ok (.iconst 4, 1) := by decide +kernel
theorem dX5_tilesMeeting_35 : decode cX5_tilesMeeting 35 = .ok (.if_icmp .ge 28, 3) := by decide +kernel
theorem dX5_tilesMeeting_38 : decode cX5_tilesMeeting 38 = .ok (.iload 4, 2) := by decide +kernel
theorem dX5_tilesMeeting_40 : decode cX5_tilesMeeting 40 = .ok (.aload_n 0, 1) := by decide +kernel
theorem dX5_tilesMeeting_41 : decode cX5_tilesMeeting 41 = .ok (.aload_n 1, 1) := by decide +kernel
theorem dX5_tilesMeeting_42 : decode cX5_tilesMeeting 42 = .ok (.iconst 4, 1) := by decide +kernel
theorem dX5_tilesMeeting_43 : decode cX5_tilesMeeting 43 = .ok (.iload_n 2, 1) := by decide +kernel
theorem dX5_tilesMeeting_44 : decode cX5_tilesMeeting 44 = .ok (.imul, 1) := by decide +kernel
theorem dX5_tilesMeeting_45 : decode cX5_tilesMeeting 45 = .ok (.iload 5, 2) := by decide +kernel
theorem dX5_tilesMeeting_47 : decode cX5_tilesMeeting 47 = .ok (.iadd, 1) := by decide +kernel
theorem dX5_tilesMeeting_48 : decode cX5_tilesMeeting 48 = .ok (.iload_n 3, 1) := by decide +kernel
theorem dX5_tilesMeeting_49 : decode cX5_tilesMeeting 49 = .ok (.iconst 1, 1) := by decide +kernel
theorem dX5_tilesMeeting_50 : decode cX5_tilesMeeting 50 = .ok (.iadd, 1) := by decide +kernel
theorem dX5_tilesMeeting_51 : decode cX5_tilesMeeting 51 = .ok (.invokestatic 130, 3) := by decide +kernel
theorem dX5_tilesMeeting_54 : decode cX5_tilesMeeting 54 = .ok (.iadd, 1) := by decide +kernel
theorem dX5_tilesMeeting_55 : decode cX5_tilesMeeting 55 = .ok (.istore 4, 2) := by decide +kernel
theorem dX5_tilesMeeting_57 : decode cX5_tilesMeeting 57 = .ok (.iinc 5 1, 3) := by decide +kernel
theorem dX5_tilesMeeting_60 : decode cX5_tilesMeeting 60 = .ok (.goto (-28), 3) := by decide +kernel
theorem dX5_tilesMeeting_63 : decode cX5_tilesMeeting 63 = .ok (.iload 4, 2) := by decide +kernel
theorem dX5_tilesMeeting_65 : decode cX5_tilesMeeting 65 = .ok (.ireturn, 1) := by decide +kernel
set_option maxRecDepth 20000 in
theorem ggX5_neighboursOf_X1_nextTo : GoodIn wsX5_neighboursOf wsX1_nextTo := goodIn_r _ [4, 5, 6, 7, 8, 3, 9, 10, 11, 12, 13, 14, 15, 16, 17, 18, 19, 20, 21, 22, 23, 24, 25, 26, 27, 28, 29, 30] (by decide +kernel) (by decide +kernel)
set_option maxRecDepth 20000 in
theorem gX5_neighboursOf_X1_nextTo : GoodIn wsX5_neighboursOf (va_wsS RX5 133 yX1_nextTo wsX1_nextTo) := goodIn_app (goodIn_of _ (by decide +kernel)) ggX5_neighboursOf_X1_nextTo
set_option maxRecDepth 20000 in
theorem ggX5_neighboursOf_X5_isThere : GoodIn wsX5_neighboursOf wsX5_isThere := goodIn_r _ [35, 36, 29, 3, 30, 37, 38, 39, 34, 40, 41, 42, 43, 44, 45, 46, 47, 48, 49, 50, 51, 52, 53, 54, 55, 56, 57, 58, 59, 65, 66, 67, 68, 69, 70, 71, 72] (by decide +kernel) (by decide +kernel)
set_option maxRecDepth 20000 in
theorem gX5_neighboursOf_X5_isThere : GoodIn wsX5_neighboursOf (wsV RX5 74 RX5 yX5_isThere wsX5_isThere) := goodIn_app (goodIn_of _ (by decide +kernel)) ggX5_neighboursOf_X5_isThere
set_option maxRecDepth 20000 in
theorem ggX5_neighboursOf_X5_leavesSeen : GoodIn wsX5_neighboursOf wsX5_leavesSeen := goodIn_r _ [62, 63, 64, 37, 38, 39, 34, 40, 41, 42, 43, 44, 45, 46, 47, 48, 49, 50, 51, 52, 53, 54, 55, 56, 57, 58, 59, 60, 61, 65, 66, 67, 68, 69, 70, 71, 72] (by decide +kernel) (by decide +kernel)
set_option maxRecDepth 20000 in
theorem gX5_neighboursOf_X5_leavesSeen : GoodIn wsX5_neighboursOf (va_wsS RX5 136 yX5_leavesSeen wsX5_leavesSeen) := goodIn_app (goodIn_of _ (by decide +kernel)) ggX5_neighboursOf_X5_leavesSeen
theorem dX5_neighboursOf_0 : decode cX5_neighboursOf 0 = .ok (.iconst 0, 1) := by decide +kernel
theorem dX5_neighboursOf_1 : decode cX5_neighboursOf 1 = .ok (.istore_n 3, 1) := by decide +kernel
theorem dX5_neighboursOf_2 : decode cX5_neighboursOf 2 = .ok (.iconst 0, 1) := by decide +kernel
theorem dX5_neighboursOf_3 : decode cX5_neighboursOf 3 = .ok (.istore 4, 2) := by decide +kernel
theorem dX5_neighboursOf_5 : decode cX5_neighboursOf 5 = .ok (.iload 4, 2) := by decide +kernel
theorem dX5_neighboursOf_7 : decode cX5_neighboursOf 7 = .ok (.bipush 8, 2) := by decide +kernel
theorem dX5_neighboursOf_9 : decode cX5_neighboursOf 9 = .ok (.if_icmp .ge 51, 3) := by decide +kernel
theorem dX5_neighboursOf_12 : decode cX5_neighboursOf 12 = .ok (.iload_n 1, 1) := by decide +kernel
theorem dX5_neighboursOf_13 : decode cX5_neighboursOf 13 = .ok (.iload_n 2, 1) := by decide +kernel
theorem dX5_neighboursOf_14 : decode cX5_neighboursOf 14 = .ok (.iload 4, 2) := by decide +kernel
theorem dX5_neighboursOf_16 : decode cX5_neighboursOf 16 = .ok (.invokestatic 133, 3) := by decide +kernel
theorem dX5_neighboursOf_19 : decode cX5_neighboursOf 19 = .ok (.istore 5, 2) := by decide +kernel
theorem dX5_neighboursOf_21 : decode cX5_neighboursOf 21 = .ok (.iload 5, 2) := by decide +kernel
theorem dX5_neighboursOf_23 : decode cX5_neighboursOf 23 = .ok (.bipush (-6), 2) := by decide +kernel
theorem dX5_neighboursOf_25 : decode cX5_neighboursOf 25 = .ok (.if_icmp .eq 29, 3) := by decide +kernel
theorem dX5_neighboursOf_28 : decode cX5_neighboursOf 28 = .ok (.iload_n 3, 1) := by decide +kernel
theorem dX5_neighboursOf_29 : decode cX5_neighboursOf 29 = .ok (.aload_n 0, 1) := by decide +kernel
theorem dX5_neighboursOf_30 : decode cX5_neighboursOf 30 = .ok (.iload 5, 2) := by decide +kernel
theorem dX5_neighboursOf_32 : decode cX5_neighboursOf 32 = .ok (.iload_n 2, 1) := by decide +kernel
theorem dX5_neighboursOf_33 : decode cX5_neighboursOf 33 = .ok (.invokevirtual 74, 3) := by decide +kernel
theorem dX5_neighboursOf_36 : decode cX5_neighboursOf 36 = .ok (.ifCond .eq 15, 3) := by decide +kernel
theorem dX5_neighboursOf_39 : decode cX5_neighboursOf 39 = .ok (.aload_n 0, 1) := by decide +kernel
theorem dX5_neighboursOf_40 : decode cX5_neighboursOf 40 = .ok (.iload 5, 2) := by decide +kernel
theorem dX5_neighboursOf_42 : decode cX5_neighboursOf 42 = .ok (.iload_n 2, 1) := by decide +kernel
theorem dX5_neighboursOf_43 : decode cX5_neighboursOf 43 = .ok (.iload 4, 2) := by decide +kernel
theorem dX5_neighboursOf_45 : decode cX5_neighboursOf 45 = .ok (.invokestatic 136, 3) := by decide +kernel
theorem dX5_neighboursOf_48 : decode cX5_neighboursOf 48 = .ok (.goto 4, 3) := by decide +kernel
theorem dX5_neighboursOf_51 : decode cX5_neighboursOf 51 = .ok (.iconst 1, 1) := by decide +kernel
theorem dX5_neighboursOf_52 : decode cX5_neighboursOf 52 = .ok (.iadd, 1) := by decide +kernel
theorem dX5_neighboursOf_53 : decode cX5_neighboursOf 53 = .ok (.istore_n 3, 1) := by decide +kernel
theorem dX5_neighboursOf_54 : decode cX5_neighboursOf 54 = .ok (.iinc 4 2, 3) := by decide +kernel
theorem dX5_neighboursOf_57 : decode cX5_neighboursOf 57 = .ok (.goto (-52), 3) := by decide +kernel
theorem dX5_neighboursOf_60 : decode cX5_neighboursOf 60 = .ok (.iload_n 3, 1) := by decide +kernel
theorem dX5_neighboursOf_61 : decode cX5_neighboursOf 61 = .ok (.ireturn, 1) := by decide +kernel
set_option maxRecDepth 20000 in
theorem ggX5_leavesSeen_X5_wouldBeSplit : GoodIn wsX5_leavesSeen wsX5_wouldBeSplit := goodIn_r _ [7, 8, 9, 10, 11, 12, 13, 6, 14, 15, 16, 17, 18, 19, 20, 21, 22, 23, 24, 25, 26, 29, 30, 31, 32, 33, 34, 35, 36] (by decide +kernel) (by decide +kernel)
set_option maxRecDepth 20000 in
theorem gX5_leavesSeen_X5_wouldBeSplit : GoodIn wsX5_leavesSeen (wsV RX5 70 RX5 yX5_wouldBeSplit wsX5_wouldBeSplit) := goodIn_app (goodIn_of _ (by decide +kernel)) ggX5_leavesSeen_X5_wouldBeSplit
set_option maxRecDepth 20000 in
theorem ggX5_leavesSeen_X5_leavesSeen : GoodIn wsX5_leavesSeen wsX5_leavesSeen := goodIn_r _ [0, 1, 2, 3, 4, 5, 6, 7, 8, 9, 10, 11, 12, 13, 14, 15, 16, 17, 18, 19, 20, 21, 22, 23, 24, 25, 26, 27, 28, 29, 30, 31, 32, 33, 34, 35, 36] (by decide +kernel) (by decide +kernel)
set_option maxRecDepth 20000 in
theorem gX5_leavesSeen_X5_leavesSeen : GoodIn wsX5_leavesSeen (va_wsS RX5 136 yX5_leavesSeen wsX5_leavesSeen) := goodIn_app (goodIn_of _ (by decide +kernel)) ggX5_leavesSeen_X5_leavesSeen
theorem dX5_leavesSeen_0 : decode cX5_leavesSeen 0 = .ok (.iload_n 2, 1) := by decide +kernel
theorem dX5_leavesSeen_1 : decode cX5_leavesSeen 1 = .ok (.bipush 6, 2) := by decide +kernel
theorem dX5_leavesSeen_3 : decode cX5_leavesSeen 3 = .ok (.if_icmp .ge 12, 3) := by decide +kernel
theorem dX5_leavesSeen_6 : decode cX5_leavesSeen 6 = .ok (.aload_n 0, 1) := by decide +kernel
theorem dX5_leavesSeen_7 : decode cX5_leavesSeen 7 = .ok (.iload_n 1, 1) := by decide +kernel
theorem dX5_leavesSeen_8 : decode cX5_leavesSeen 8 = .ok (.iload_n 2, 1) := by decide +kernel
theorem dX5_leavesSeen_9 : decode cX5_leavesSeen 9 = .ok (.invokevirtual 70, 3) := by decide +kernel
theorem dX5_leavesSeen_12 : decode cX5_leavesSeen 12 = .ok (.ifCond .ne 5, 3) := by decide +kernel
theorem dX5_leavesSeen_15 : decode cX5_leavesSeen 15 = .ok (.iconst 1, 1) := by decide +kernel
theorem dX5_leavesSeen_16 : decode cX5_leavesSeen 16 = .ok (.ireturn, 1) := by decide +kernel
theorem dX5_leavesSeen_17 : decode cX5_leavesSeen 17 = .ok (.iload_n 3, 1) := by decide +kernel
theorem dX5_leavesSeen_18 : decode cX5_leavesSeen 18 = .ok (.iconst 2, 1) := by decide +kernel
theorem dX5_leavesSeen_19 : decode cX5_leavesSeen 19 = .ok (.idiv, 1) := by decide +kernel
theorem dX5_leavesSeen_20 : decode cX5_leavesSeen 20 = .ok (.istore 4, 2) := by decide +kernel
theorem dX5_leavesSeen_22 : decode cX5_leavesSeen 22 = .ok (.iload 4, 2) := by decide +kernel
theorem dX5_leavesSeen_24 : decode cX5_leavesSeen 24 = .ok (.ifCond .lt 21, 3) := by decide +kernel
theorem dX5_leavesSeen_27 : decode cX5_leavesSeen 27 = .ok (.iload 4, 2) := by decide +kernel
theorem dX5_leavesSeen_29 : decode cX5_leavesSeen 29 = .ok (.getstatic 140, 3) := by decide +kernel
theorem dX5_leavesSeen_32 : decode cX5_leavesSeen 32 = .ok (.arraylength, 1) := by decide +kernel
theorem dX5_leavesSeen_33 : decode cX5_leavesSeen 33 = .ok (.if_icmp .ge 12, 3) := by decide +kernel
theorem dX5_leavesSeen_36 : decode cX5_leavesSeen 36 = .ok (.iload 4, 2) := by decide +kernel
theorem dX5_leavesSeen_38 : decode cX5_leavesSeen 38 = .ok (.getstatic 143, 3) := by decide +kernel
theorem dX5_leavesSeen_41 : decode cX5_leavesSeen 41 = .ok (.arraylength, 1) := by decide +kernel
theorem dX5_leavesSeen_42 : decode cX5_leavesSeen 42 = .ok (.if_icmp .lt 5, 3) := by decide +kernel
theorem dX5_leavesSeen_45 : decode cX5_leavesSeen 45 = .ok (.iconst 0, 1) := by decide +kernel
theorem dX5_leavesSeen_46 : decode cX5_leavesSeen 46 = .ok (.ireturn, 1) := by decide +kernel
theorem dX5_leavesSeen_47 : decode cX5_leavesSeen 47 = .ok (.aload_n 0, 1) := by decide +kernel
theorem dX5_leavesSeen_48 : decode cX5_leavesSeen 48 = .ok (.iconst 4, 1) := by decide +kernel
theorem dX5_leavesSeen_49 : decode cX5_leavesSeen 49 = .ok (.iload_n 1, 1) := by decide +kernel
theorem dX5_leavesSeen_50 : decode cX5_leavesSeen 50 = .ok (.imul, 1) := by decide +kernel
theorem dX5_leavesSeen_51 : decode cX5_leavesSeen 51 = .ok (.getstatic 140, 3) := by decide +kernel
theorem dX5_leavesSeen_54 : decode cX5_leavesSeen 54 = .ok (.iload 4, 2) := by decide +kernel
theorem dX5_leavesSeen_56 : decode cX5_leavesSeen 56 = .ok (.iaload, 1) := by decide +kernel
theorem dX5_leavesSeen_57 : decode cX5_leavesSeen 57 = .ok (.iadd, 1) := by decide +kernel
theorem dX5_leavesSeen_58 : decode cX5_leavesSeen 58 = .ok (.iload_n 2, 1) := by decide +kernel
theorem dX5_leavesSeen_59 : decode cX5_leavesSeen 59 = .ok (.iconst 1, 1) := by decide +kernel
theorem dX5_leavesSeen_60 : decode cX5_leavesSeen 60 = .ok (.iadd, 1) := by decide +kernel
theorem dX5_leavesSeen_61 : decode cX5_leavesSeen 61 = .ok (.iload_n 3, 1) := by decide +kernel
theorem dX5_leavesSeen_62 : decode cX5_leavesSeen 62 = .ok (.invokestatic 136, 3) := by decide +kernel
theorem dX5_leavesSeen_65 : decode cX5_leavesSeen 65 = .ok (.aload_n 0, 1) := by decide +kernel
theorem dX5_leavesSeen_66 : decode cX5_leavesSeen 66 = .ok (.iconst 4, 1) := by decide +kernel
theorem dX5_leavesSeen_67 : decode cX5_leavesSeen 67 = .ok (.iload_n 1, 1) := by decide +kernel
theorem dX5_leavesSeen_68 : decode cX5_leavesSeen 68 = .ok (.imul, 1) := by decide +kernel
theorem dX5_leavesSeen_69 : decode cX5_leavesSeen 69 = .ok (.getstatic 143, 3) := by decide +kernel
theorem dX5_leavesSeen_72 : decode cX5_leavesSeen 72 = .ok (.iload 4, 2) := by decide +kernel
theorem dX5_leavesSeen_74 : decode cX5_leavesSeen 74 = .ok (.iaload, 1) := by decide +kernel
theorem dX5_leavesSeen_75 : decode cX5_leavesSeen 75 = .ok (.iadd, 1) := by decide +kernel
theorem dX5_leavesSeen_76 : decode cX5_leavesSeen 76 = .ok (.iload_n 2, 1) := by decide +kernel
theorem dX5_leavesSeen_77 : decode cX5_leavesSeen 77 = .ok (.iconst 1, 1) := by decide +kernel
theorem dX5_leavesSeen_78 : decode cX5_leavesSeen 78 = .ok (.iadd, 1) := by decide +kernel
theorem dX5_leavesSeen_79 : decode cX5_leavesSeen 79 = .ok (.iload_n 3, 1) := by decide +kernel
theorem dX5_leavesSeen_80 : decode cX5_leavesSeen 80 = .ok (.invokestatic 136, 3) := by decide +kernel
theorem dX5_leavesSeen_83 : decode cX5_leavesSeen 83 = .ok (.iadd, 1) := by decide +kernel
theorem dX5_leavesSeen_84 : decode cX5_leavesSeen 84 = .ok (.ireturn, 1) := by decide +kernel
set_option maxRecDepth 20000 in
theorem ggX5_unevennessIn_X5_wouldBeSplit : GoodIn wsX5_unevennessIn wsX5_wouldBeSplit := goodIn_r _ [9, 10, 11, 12, 13, 14, 15, 8, 16, 17, 18, 19, 20, 21, 22, 23, 24, 25, 26, 27, 28, 71, 72, 73, 74, 75, 76, 77, 78] (by decide +kernel) (by decide +kernel)
set_option maxRecDepth 20000 in
theorem gX5_unevennessIn_X5_wouldBeSplit : GoodIn wsX5_unevennessIn (wsV RX5 70 RX5 yX5_wouldBeSplit wsX5_wouldBeSplit) := goodIn_app (goodIn_of _ (by decide +kernel)) ggX5_unevennessIn_X5_wouldBeSplit
set_option maxRecDepth 20000 in
theorem ggX5_unevennessIn_X5_greatestStepOutOf : GoodIn wsX5_unevennessIn wsX5_greatestStepOutOf := goodIn_r _ [32, 1, 2, 3, 4, 33, 34, 35, 36, 37, 38, 39, 40, 41, 42, 43, 44, 45, 46, 47, 48, 49, 50, 51, 52, 53, 54, 55, 56, 57, 58, 59, 60, 61, 62, 63, 64, 65, 66, 8, 67, 68, 5, 6, 7, 9, 10, 11, 12, 13, 14, 15, 16, 17, 18, 19, 20, 21, 22, 23, 24, 25, 26, 27, 28, 71, 72, 73, 74, 75, 76, 77, 78] (by decide +kernel) (by decide +kernel)
set_option maxRecDepth 20000 in
theorem gX5_unevennessIn_X5_greatestStepOutOf : GoodIn wsX5_unevennessIn (wsV RX5 146 RX5 yX5_greatestStepOutOf wsX5_greatestStepOutOf) := goodIn_app (goodIn_of _ (by decide +kernel)) ggX5_unevennessIn_X5_greatestStepOutOf
set_option maxRecDepth 20000 in
theorem ggX5_unevennessIn_X5_unevennessIn : GoodIn wsX5_unevennessIn wsX5_unevennessIn := goodIn_r _ [0, 1, 2, 3, 4, 5, 6, 7, 8, 9, 10, 11, 12, 13, 14, 15, 16, 17, 18, 19, 20, 21, 22, 23, 24, 25, 26, 27, 28, 29, 30, 31, 32, 33, 34, 35, 36, 37, 38, 39, 40, 41, 42, 43, 44, 45, 46, 47, 48, 49, 50, 51, 52, 53, 54, 55, 56, 57, 58, 59, 60, 61, 62, 63, 64, 65, 66, 67, 68, 69, 70, 71, 72, 73, 74, 75, 76, 77, 78] (by decide +kernel) (by decide +kernel)
set_option maxRecDepth 20000 in
theorem gX5_unevennessIn_X5_unevennessIn : GoodIn wsX5_unevennessIn (va_wsS RX5 149 yX5_unevennessIn wsX5_unevennessIn) := goodIn_app (goodIn_of _ (by decide +kernel)) ggX5_unevennessIn_X5_unevennessIn
theorem dX5_unevennessIn_0 : decode cX5_unevennessIn 0 = .ok (.iload_n 2, 1) := by decide +kernel
theorem dX5_unevennessIn_1 : decode cX5_unevennessIn 1 = .ok (.bipush 6, 2) := by decide +kernel
theorem dX5_unevennessIn_3 : decode cX5_unevennessIn 3 = .ok (.if_icmp .ge 12, 3) := by decide +kernel
theorem dX5_unevennessIn_6 : decode cX5_unevennessIn 6 = .ok (.aload_n 0, 1) := by decide +kernel
theorem dX5_unevennessIn_7 : decode cX5_unevennessIn 7 = .ok (.iload_n 1, 1) := by decide +kernel
theorem dX5_unevennessIn_8 : decode cX5_unevennessIn 8 = .ok (.iload_n 2, 1) := by decide +kernel
theorem dX5_unevennessIn_9 : decode cX5_unevennessIn 9 = .ok (.invokevirtual 70, 3) := by decide +kernel
theorem dX5_unevennessIn_12 : decode cX5_unevennessIn 12 = .ok (.ifCond .ne 10, 3) := by decide +kernel
theorem dX5_unevennessIn_15 : decode cX5_unevennessIn 15 = .ok (.aload_n 0, 1) := by decide +kernel
theorem dX5_unevennessIn_16 : decode cX5_unevennessIn 16 = .ok (.iload_n 1, 1) := by decide +kernel
theorem dX5_unevennessIn_17 : decode cX5_unevennessIn 17 = .ok (.iload_n 2, 1) := by decide +kernel
theorem dX5_unevennessIn_18 : decode cX5_unevennessIn 18 = .ok (.invokevirtual 146, 3) := by decide +kernel
theorem dX5_unevennessIn_21 : decode cX5_unevennessIn 21 = .ok (.ireturn, 1) := by decide +kernel
theorem dX5_unevennessIn_22 : decode cX5_unevennessIn 22 = .ok (.iconst 0, 1) := by decide +kernel
theorem dX5_unevennessIn_23 : decode cX5_unevennessIn 23 = .ok (.istore_n 3, 1) := by decide +kernel
theorem dX5_unevennessIn_24 : decode cX5_unevennessIn 24 = .ok (.iconst 0, 1) := by decide +kernel
theorem dX5_unevennessIn_25 : decode cX5_unevennessIn 25 = .ok (.istore 4, 2) := by decide +kernel
theorem dX5_unevennessIn_27 : decode cX5_unevennessIn 27 = .ok (.iload 4, 2) := by decide +kernel
theorem dX5_unevennessIn_29 : decode cX5_unevennessIn 29 = .ok (.iconst 4, 1) := by decide +kernel
theorem dX5_unevennessIn_30 : decode cX5_unevennessIn 30 = .ok (.if_icmp .ge 27, 3) := by decide +kernel
theorem dX5_unevennessIn_33 : decode cX5_unevennessIn 33 = .ok (.iload_n 3, 1) := by decide +kernel
theorem dX5_unevennessIn_34 : decode cX5_unevennessIn 34 = .ok (.aload_n 0, 1) := by decide +kernel
theorem dX5_unevennessIn_35 : decode cX5_unevennessIn 35 = .ok (.iconst 4, 1) := by decide +kernel
theorem dX5_unevennessIn_36 : decode cX5_unevennessIn 36 = .ok (.iload_n 1, 1) := by decide +kernel
theorem dX5_unevennessIn_37 : decode cX5_unevennessIn 37 = .ok (.imul, 1) := by decide +kernel
theorem dX5_unevennessIn_38 : decode cX5_unevennessIn 38 = .ok (.iload 4, 2) := by decide +kernel
theorem dX5_unevennessIn_40 : decode cX5_unevennessIn 40 = .ok (.iadd, 1) := by decide +kernel
theorem dX5_unevennessIn_41 : decode cX5_unevennessIn 41 = .ok (.iload_n 2, 1) := by decide +kernel
theorem dX5_unevennessIn_42 : decode cX5_unevennessIn 42 = .ok (.iconst 1, 1) := by decide +kernel
theorem dX5_unevennessIn_43 : decode cX5_unevennessIn 43 = .ok (.iadd, 1) := by decide +kernel
theorem dX5_unevennessIn_44 : decode cX5_unevennessIn 44 = .ok (.invokestatic 149, 3) := by decide +kernel
theorem dX5_unevennessIn_47 : decode cX5_unevennessIn 47 = .ok (.invokestatic 120, 3) := by decide +kernel
theorem dX5_unevennessIn_50 : decode cX5_unevennessIn 50 = .ok (.istore_n 3, 1) := by decide +kernel
theorem dX5_unevennessIn_51 : decode cX5_unevennessIn 51 = .ok (.iinc 4 1, 3) := by decide +kernel
theorem dX5_unevennessIn_54 : decode cX5_unevennessIn 54 = .ok (.goto (-27), 3) := by decide +kernel
theorem dX5_unevennessIn_57 : decode cX5_unevennessIn 57 = .ok (.iload_n 3, 1) := by decide +kernel
theorem dX5_unevennessIn_58 : decode cX5_unevennessIn 58 = .ok (.ireturn, 1) := by decide +kernel
set_option maxRecDepth 20000 in
theorem ggX5_greatestStepOutOf_X1_nextTo : GoodIn wsX5_greatestStepOutOf wsX1_nextTo := goodIn_r _ [8, 9, 10, 11, 12, 7, 13, 14, 15, 16, 17, 18, 19, 20, 21, 22, 23, 24, 25, 26, 27, 28, 29, 30, 31, 32, 33, 34] (by decide +kernel) (by decide +kernel)
set_option maxRecDepth 20000 in
theorem gX5_greatestStepOutOf_X1_nextTo : GoodIn wsX5_greatestStepOutOf (va_wsS RX5 133 yX1_nextTo wsX1_nextTo) := goodIn_app (goodIn_of _ (by decide +kernel)) ggX5_greatestStepOutOf_X1_nextTo
set_option maxRecDepth 20000 in
theorem ggX5_greatestStepOutOf_X1_leastPlace : GoodIn wsX5_greatestStepOutOf wsX1_leastPlace := goodIn_r _ [19] (by decide +kernel) (by decide +kernel)
set_option maxRecDepth 20000 in
theorem gX5_greatestStepOutOf_X1_leastPlace : GoodIn wsX5_greatestStepOutOf (va_wsS RX5 80 yX1_leastPlace wsX1_leastPlace) := goodIn_app (goodIn_of _ (by decide +kernel)) ggX5_greatestStepOutOf_X1_leastPlace
set_option maxRecDepth 20000 in
theorem ggX5_greatestStepOutOf_X5_depthOfLeafWith : GoodIn wsX5_greatestStepOutOf wsX5_depthOfLeafWith := goodIn_r _ [40, 41, 33, 7, 34, 42, 43, 44, 39, 45, 46, 47, 48, 49, 50, 51, 52, 53, 54, 55, 56, 57, 58, 59, 60, 61, 62, 63, 64, 65, 66, 67, 68, 69, 70, 71, 72] (by decide +kernel) (by decide +kernel)
set_option maxRecDepth 20000 in
theorem gX5_greatestStepOutOf_X5_depthOfLeafWith : GoodIn wsX5_greatestStepOutOf (wsV RX5 77 RX5 yX5_depthOfLeafWith wsX5_depthOfLeafWith) := goodIn_app (goodIn_of _ (by decide +kernel)) ggX5_greatestStepOutOf_X5_depthOfLeafWith
theorem dX5_greatestStepOutOf_0 : decode cX5_greatestStepOutOf 0 = .ok (.iconst 0, 1) := by decide +kernel
theorem dX5_greatestStepOutOf_1 : decode cX5_greatestStepOutOf 1 = .ok (.istore_n 3, 1) := by decide +kernel
theorem dX5_greatestStepOutOf_2 : decode cX5_greatestStepOutOf 2 = .ok (.iconst 0, 1) := by decide +kernel
theorem dX5_greatestStepOutOf_3 : decode cX5_greatestStepOutOf 3 = .ok (.istore 4, 2) := by decide +kernel
theorem dX5_greatestStepOutOf_5 : decode cX5_greatestStepOutOf 5 = .ok (.iload 4, 2) := by decide +kernel
theorem dX5_greatestStepOutOf_7 : decode cX5_greatestStepOutOf 7 = .ok (.bipush 8, 2) := by decide +kernel
theorem dX5_greatestStepOutOf_9 : decode cX5_greatestStepOutOf 9 = .ok (.if_icmp .ge 46, 3) := by decide +kernel
theorem dX5_greatestStepOutOf_12 : decode cX5_greatestStepOutOf 12 = .ok (.iload_n 1, 1) := by decide +kernel
theorem dX5_greatestStepOutOf_13 : decode cX5_greatestStepOutOf 13 = .ok (.iload_n 2, 1) := by decide +kernel
theorem dX5_greatestStepOutOf_14 : decode cX5_greatestStepOutOf 14 = .ok (.iload 4, 2) := by decide +kernel
theorem dX5_greatestStepOutOf_16 : decode cX5_greatestStepOutOf 16 = .ok (.invokestatic 133, 3) := by decide +kernel
theorem dX5_greatestStepOutOf_19 : decode cX5_greatestStepOutOf 19 = .ok (.istore 5, 2) := by decide +kernel
theorem dX5_greatestStepOutOf_21 : decode cX5_greatestStepOutOf 21 = .ok (.iload 5, 2) := by decide +kernel
theorem dX5_greatestStepOutOf_23 : decode cX5_greatestStepOutOf 23 = .ok (.bipush (-6), 2) := by decide +kernel
theorem dX5_greatestStepOutOf_25 : decode cX5_greatestStepOutOf 25 = .ok (.if_icmp .eq 24, 3) := by decide +kernel
theorem dX5_greatestStepOutOf_28 : decode cX5_greatestStepOutOf 28 = .ok (.aload_n 0, 1) := by decide +kernel
theorem dX5_greatestStepOutOf_29 : decode cX5_greatestStepOutOf 29 = .ok (.iload 5, 2) := by decide +kernel
theorem dX5_greatestStepOutOf_31 : decode cX5_greatestStepOutOf 31 = .ok (.iload_n 2, 1) := by decide +kernel
theorem dX5_greatestStepOutOf_32 : decode cX5_greatestStepOutOf 32 = .ok (.invokestatic 80, 3) := by decide +kernel
theorem dX5_greatestStepOutOf_35 : decode cX5_greatestStepOutOf 35 = .ok (.invokevirtual 77, 3) := by decide +kernel
theorem dX5_greatestStepOutOf_38 : decode cX5_greatestStepOutOf 38 = .ok (.istore 6, 2) := by decide +kernel
theorem dX5_greatestStepOutOf_40 : decode cX5_greatestStepOutOf 40 = .ok (.iload_n 3, 1) := by decide +kernel
theorem dX5_greatestStepOutOf_41 : decode cX5_greatestStepOutOf 41 = .ok (.iload_n 2, 1) := by decide +kernel
theorem dX5_greatestStepOutOf_42 : decode cX5_greatestStepOutOf 42 = .ok (.iload 6, 2) := by decide +kernel
theorem dX5_greatestStepOutOf_44 : decode cX5_greatestStepOutOf 44 = .ok (.isub, 1) := by decide +kernel
theorem dX5_greatestStepOutOf_45 : decode cX5_greatestStepOutOf 45 = .ok (.invokestatic 120, 3) := by decide +kernel
theorem dX5_greatestStepOutOf_48 : decode cX5_greatestStepOutOf 48 = .ok (.istore_n 3, 1) := by decide +kernel
theorem dX5_greatestStepOutOf_49 : decode cX5_greatestStepOutOf 49 = .ok (.iinc 4 2, 3) := by decide +kernel
theorem dX5_greatestStepOutOf_52 : decode cX5_greatestStepOutOf 52 = .ok (.goto (-47), 3) := by decide +kernel
theorem dX5_greatestStepOutOf_55 : decode cX5_greatestStepOutOf 55 = .ok (.iload_n 3, 1) := by decide +kernel
theorem dX5_greatestStepOutOf_56 : decode cX5_greatestStepOutOf 56 = .ok (.ireturn, 1) := by decide +kernel
set_option maxRecDepth 20000 in
theorem ggX5_leavesIfPut_X5_addToSums : GoodIn wsX5_leavesIfPut wsX5_addToSums := goodIn_r _ [5, 6, 7, 8, 9, 10, 40, 41] (by decide +kernel) (by decide +kernel)
set_option maxRecDepth 20000 in
theorem gX5_leavesIfPut_X5_addToSums : GoodIn wsX5_leavesIfPut (wsV RX5 36 RX5 yX5_addToSums wsX5_addToSums) := goodIn_app (goodIn_of _ (by decide +kernel)) ggX5_leavesIfPut_X5_addToSums
set_option maxRecDepth 20000 in
theorem ggX5_leavesIfPut_X5_leaves : GoodIn wsX5_leavesIfPut wsX5_leaves := goodIn_r _ [14, 15, 16, 4, 17, 18, 19, 20, 21, 22, 23, 24, 25, 26, 27, 28, 6, 29, 30, 31, 32, 33, 34, 35, 36, 37, 38, 39, 40, 41, 42, 43, 44, 45, 46, 47] (by decide +kernel) (by decide +kernel)
set_option maxRecDepth 20000 in
theorem gX5_leavesIfPut_X5_leaves : GoodIn wsX5_leavesIfPut (wsV RX5 110 RX5 yX5_leaves wsX5_leaves) := goodIn_app (goodIn_of _ (by decide +kernel)) ggX5_leavesIfPut_X5_leaves
theorem dX5_leavesIfPut_0 : decode cX5_leavesIfPut 0 = .ok (.aload_n 0, 1) := by decide +kernel
theorem dX5_leavesIfPut_1 : decode cX5_leavesIfPut 1 = .ok (.iload_n 1, 1) := by decide +kernel
theorem dX5_leavesIfPut_2 : decode cX5_leavesIfPut 2 = .ok (.iconst 1, 1) := by decide +kernel
theorem dX5_leavesIfPut_3 : decode cX5_leavesIfPut 3 = .ok (.invokevirtual 36, 3) := by decide +kernel
theorem dX5_leavesIfPut_6 : decode cX5_leavesIfPut 6 = .ok (.aload_n 0, 1) := by decide +kernel
theorem dX5_leavesIfPut_7 : decode cX5_leavesIfPut 7 = .ok (.invokevirtual 110, 3) := by decide +kernel
theorem dX5_leavesIfPut_10 : decode cX5_leavesIfPut 10 = .ok (.istore_n 2, 1) := by decide +kernel
theorem dX5_leavesIfPut_11 : decode cX5_leavesIfPut 11 = .ok (.aload_n 0, 1) := by decide +kernel
theorem dX5_leavesIfPut_12 : decode cX5_leavesIfPut 12 = .ok (.iload_n 1, 1) := by decide +kernel
theorem dX5_leavesIfPut_13 : decode cX5_leavesIfPut 13 = .ok (.iconst (-1), 1) := by decide +kernel
theorem dX5_leavesIfPut_14 : decode cX5_leavesIfPut 14 = .ok (.invokevirtual 36, 3) := by decide +kernel
theorem dX5_leavesIfPut_17 : decode cX5_leavesIfPut 17 = .ok (.iload_n 2, 1) := by decide +kernel
theorem dX5_leavesIfPut_18 : decode cX5_leavesIfPut 18 = .ok (.ireturn, 1) := by decide +kernel
set_option maxRecDepth 20000 in
theorem ggX5_depthIfPut_X5_addToSums : GoodIn wsX5_depthIfPut wsX5_addToSums := goodIn_r _ [5, 6, 7, 8, 9, 10, 37, 38] (by decide +kernel) (by decide +kernel)
set_option maxRecDepth 20000 in
theorem gX5_depthIfPut_X5_addToSums : GoodIn wsX5_depthIfPut (wsV RX5 36 RX5 yX5_addToSums wsX5_addToSums) := goodIn_app (goodIn_of _ (by decide +kernel)) ggX5_depthIfPut_X5_addToSums
set_option maxRecDepth 20000 in
theorem ggX5_depthIfPut_X5_depthOfLeafWith : GoodIn wsX5_depthIfPut wsX5_depthOfLeafWith := goodIn_r _ [14, 7, 8, 9, 10, 15, 16, 17, 4, 18, 19, 20, 21, 22, 23, 24, 25, 6, 26, 27, 28, 29, 30, 31, 32, 33, 34, 35, 36, 37, 38, 39, 40, 41, 42, 43, 44] (by decide +kernel) (by decide +kernel)
set_option maxRecDepth 20000 in
theorem gX5_depthIfPut_X5_depthOfLeafWith : GoodIn wsX5_depthIfPut (wsV RX5 77 RX5 yX5_depthOfLeafWith wsX5_depthOfLeafWith) := goodIn_app (goodIn_of _ (by decide +kernel)) ggX5_depthIfPut_X5_depthOfLeafWith
theorem dX5_depthIfPut_0 : decode cX5_depthIfPut 0 = .ok (.aload_n 0, 1) := by decide +kernel
theorem dX5_depthIfPut_1 : decode cX5_depthIfPut 1 = .ok (.iload_n 1, 1) := by decide +kernel
theorem dX5_depthIfPut_2 : decode cX5_depthIfPut 2 = .ok (.iconst 1, 1) := by decide +kernel
theorem dX5_depthIfPut_3 : decode cX5_depthIfPut 3 = .ok (.invokevirtual 36, 3) := by decide +kernel
theorem dX5_depthIfPut_6 : decode cX5_depthIfPut 6 = .ok (.aload_n 0, 1) := by decide +kernel
theorem dX5_depthIfPut_7 : decode cX5_depthIfPut 7 = .ok (.iload_n 1, 1) := by decide +kernel
theorem dX5_depthIfPut_8 : decode cX5_depthIfPut 8 = .ok (.invokevirtual 77, 3) := by decide +kernel
theorem dX5_depthIfPut_11 : decode cX5_depthIfPut 11 = .ok (.istore_n 2, 1) := by decide +kernel
theorem dX5_depthIfPut_12 : decode cX5_depthIfPut 12 = .ok (.aload_n 0, 1) := by decide +kernel
theorem dX5_depthIfPut_13 : decode cX5_depthIfPut 13 = .ok (.iload_n 1, 1) := by decide +kernel
theorem dX5_depthIfPut_14 : decode cX5_depthIfPut 14 = .ok (.iconst (-1), 1) := by decide +kernel
theorem dX5_depthIfPut_15 : decode cX5_depthIfPut 15 = .ok (.invokevirtual 36, 3) := by decide +kernel
theorem dX5_depthIfPut_18 : decode cX5_depthIfPut 18 = .ok (.iload_n 2, 1) := by decide +kernel
theorem dX5_depthIfPut_19 : decode cX5_depthIfPut 19 = .ok (.ireturn, 1) := by decide +kernel
set_option maxRecDepth 20000 in
theorem ggX5_leastFullFor_X5_leaves : GoodIn wsX5_leastFullFor wsX5_leaves := goodIn_r _ [7, 8, 9, 6, 10, 11, 12, 13, 14, 1, 15, 2, 16, 17, 18, 19, 20, 21, 22, 23, 24, 25, 26, 27, 28, 29, 30, 31, 32, 33, 34, 35, 36, 37, 38, 39] (by decide +kernel) (by decide +kernel)
set_option maxRecDepth 20000 in
theorem gX5_leastFullFor_X5_leaves : GoodIn wsX5_leastFullFor (wsV RX5 110 RX5 yX5_leaves wsX5_leaves) := goodIn_app (goodIn_of _ (by decide +kernel)) ggX5_leastFullFor_X5_leaves
theorem dX5_leastFullFor_0 : decode cX5_leastFullFor 0 = .ok (.aload_n 0, 1) := by decide +kernel
theorem dX5_leastFullFor_1 : decode cX5_leastFullFor 1 = .ok (.getfield 12, 3) := by decide +kernel
theorem dX5_leastFullFor_4 : decode cX5_leastFullFor 4 = .ok (.getfield 63, 3) := by decide +kernel
theorem dX5_leastFullFor_7 : decode cX5_leastFullFor 7 = .ok (.istore_n 2, 1) := by decide +kernel
theorem dX5_leastFullFor_8 : decode cX5_leastFullFor 8 = .ok (.bipush (-6), 2) := by decide +kernel
theorem dX5_leastFullFor_10 : decode cX5_leastFullFor 10 = .ok (.istore_n 3, 1) := by decide +kernel
theorem dX5_leastFullFor_11 : decode cX5_leastFullFor 11 = .ok (.iconst 1, 1) := by decide +kernel
theorem dX5_leastFullFor_12 : decode cX5_leastFullFor 12 = .ok (.istore 4, 2) := by decide +kernel
theorem dX5_leastFullFor_14 : decode cX5_leastFullFor 14 = .ok (.iload 4, 2) := by decide +kernel
theorem dX5_leastFullFor_16 : decode cX5_leastFullFor 16 = .ok (.bipush 8, 2) := by decide +kernel
theorem dX5_leastFullFor_18 : decode cX5_leastFullFor 18 = .ok (.if_icmp .gt 35, 3) := by decide +kernel
theorem dX5_leastFullFor_21 : decode cX5_leastFullFor 21 = .ok (.iload_n 3, 1) := by decide +kernel
theorem dX5_leastFullFor_22 : decode cX5_leastFullFor 22 = .ok (.bipush (-6), 2) := by decide +kernel
theorem dX5_leastFullFor_24 : decode cX5_leastFullFor 24 = .ok (.if_icmp .ne 29, 3) := by decide +kernel
theorem dX5_leastFullFor_27 : decode cX5_leastFullFor 27 = .ok (.aload_n 0, 1) := by decide +kernel
theorem dX5_leastFullFor_28 : decode cX5_leastFullFor 28 = .ok (.getfield 12, 3) := by decide +kernel
theorem dX5_leastFullFor_31 : decode cX5_leastFullFor 31 = .ok (.iload 4, 2) := by decide +kernel
theorem dX5_leastFullFor_33 : decode cX5_leastFullFor 33 = .ok (.putfield 63, 3) := by decide +kernel
theorem dX5_leastFullFor_36 : decode cX5_leastFullFor 36 = .ok (.aload_n 0, 1) := by decide +kernel
theorem dX5_leastFullFor_37 : decode cX5_leastFullFor 37 = .ok (.invokevirtual 110, 3) := by decide +kernel
theorem dX5_leastFullFor_40 : decode cX5_leastFullFor 40 = .ok (.iload_n 1, 1) := by decide +kernel
theorem dX5_leastFullFor_41 : decode cX5_leastFullFor 41 = .ok (.if_icmp .gt 6, 3) := by decide +kernel
theorem dX5_leastFullFor_44 : decode cX5_leastFullFor 44 = .ok (.iload 4, 2) := by decide +kernel
theorem dX5_leastFullFor_46 : decode cX5_leastFullFor 46 = .ok (.istore_n 3, 1) := by decide +kernel
theorem dX5_leastFullFor_47 : decode cX5_leastFullFor 47 = .ok (.iinc 4 1, 3) := by decide +kernel
theorem dX5_leastFullFor_50 : decode cX5_leastFullFor 50 = .ok (.goto (-36), 3) := by decide +kernel
theorem dX5_leastFullFor_53 : decode cX5_leastFullFor 53 = .ok (.aload_n 0, 1) := by decide +kernel
theorem dX5_leastFullFor_54 : decode cX5_leastFullFor 54 = .ok (.getfield 12, 3) := by decide +kernel
theorem dX5_leastFullFor_57 : decode cX5_leastFullFor 57 = .ok (.iload_n 2, 1) := by decide +kernel
theorem dX5_leastFullFor_58 : decode cX5_leastFullFor 58 = .ok (.putfield 63, 3) := by decide +kernel
theorem dX5_leastFullFor_61 : decode cX5_leastFullFor 61 = .ok (.iload_n 3, 1) := by decide +kernel
theorem dX5_leastFullFor_62 : decode cX5_leastFullFor 62 = .ok (.ireturn, 1) := by decide +kernel
theorem dX6_init_0 : decode cX6_init 0 = .ok (.aload_n 0, 1) := by decide +kernel
theorem dX6_init_1 : decode cX6_init 1 = .ok (.invokespecial 1, 3) := by decide +kernel
theorem dX6_init_4 : decode cX6_init 4 = .ok (.aload_n 0, 1) := by decide +kernel
theorem dX6_init_5 : decode cX6_init 5 = .ok (.iload_n 1, 1) := by decide +kernel
theorem dX6_init_6 : decode cX6_init 6 = .ok (.putfield 7, 3) := by decide +kernel
theorem dX6_init_9 : decode cX6_init 9 = .ok (.aload_n 0, 1) := by decide +kernel
theorem dX6_init_10 : decode cX6_init 10 = .ok (.iload_n 2, 1) := by decide +kernel
theorem dX6_init_11 : decode cX6_init 11 = .ok (.putfield 13, 3) := by decide +kernel
theorem dX6_init_14 : decode cX6_init 14 = .ok (.aload_n 0, 1) := by decide +kernel
theorem dX6_init_15 : decode cX6_init 15 = .ok (.iload_n 3, 1) := by decide +kernel
theorem dX6_init_16 : decode cX6_init 16 = .ok (.putfield 16, 3) := by decide +kernel
theorem dX6_init_19 : decode cX6_init 19 = .ok (.aload_n 0, 1) := by decide +kernel
theorem dX6_init_20 : decode cX6_init 20 = .ok (.iload 4, 2) := by decide +kernel
theorem dX6_init_22 : decode cX6_init 22 = .ok (.putfield 19, 3) := by decide +kernel
theorem dX6_init_25 : decode cX6_init 25 = .ok (.return_, 1) := by decide +kernel
set_option maxRecDepth 20000 in
theorem ggX6_meets_X1_leastX : GoodIn wsX6_meets wsX1_leastX := goodIn_r _ [8, 9, 10, 7, 11, 12, 13, 14] (by decide +kernel) (by decide +kernel)
set_option maxRecDepth 20000 in
theorem gX6_meets_X1_leastX : GoodIn wsX6_meets (va_wsS RX6 22 yX1_leastX wsX1_leastX) := goodIn_app (goodIn_of _ (by decide +kernel)) ggX6_meets_X1_leastX
set_option maxRecDepth 20000 in
theorem ggX6_meets_X1_leastY : GoodIn wsX6_meets wsX1_leastY := goodIn_r _ [17, 9, 10, 7, 11, 12, 13, 14] (by decide +kernel) (by decide +kernel)
set_option maxRecDepth 20000 in
theorem gX6_meets_X1_leastY : GoodIn wsX6_meets (va_wsS RX6 28 yX1_leastY wsX1_leastY) := goodIn_app (goodIn_of _ (by decide +kernel)) ggX6_meets_X1_leastY
set_option maxRecDepth 20000 in
theorem ggX6_meets_X1_sizeAt : GoodIn wsX6_meets wsX1_sizeAt := goodIn_r _ [20] (by decide +kernel) (by decide +kernel)
set_option maxRecDepth 20000 in
theorem gX6_meets_X1_sizeAt : GoodIn wsX6_meets (va_wsS RX6 31 yX1_sizeAt wsX1_sizeAt) := goodIn_app (goodIn_of _ (by decide +kernel)) ggX6_meets_X1_sizeAt
theorem dX6_meets_0 : decode cX6_meets 0 = .ok (.iload_n 1, 1) := by decide +kernel
theorem dX6_meets_1 : decode cX6_meets 1 = .ok (.iload_n 2, 1) := by decide +kernel
theorem dX6_meets_2 : decode cX6_meets 2 = .ok (.invokestatic 22, 3) := by decide +kernel
theorem dX6_meets_5 : decode cX6_meets 5 = .ok (.istore_n 3, 1) := by decide +kernel
theorem dX6_meets_6 : decode cX6_meets 6 = .ok (.iload_n 1, 1) := by decide +kernel
theorem dX6_meets_7 : decode cX6_meets 7 = .ok (.iload_n 2, 1) := by decide +kernel
theorem dX6_meets_8 : decode cX6_meets 8 = .ok (.invokestatic 28, 3) := by decide +kernel
theorem dX6_meets_11 : decode cX6_meets 11 = .ok (.istore 4, 2) := by decide +kernel
theorem dX6_meets_13 : decode cX6_meets 13 = .ok (.iload_n 2, 1) := by decide +kernel
theorem dX6_meets_14 : decode cX6_meets 14 = .ok (.invokestatic 31, 3) := by decide +kernel
theorem dX6_meets_17 : decode cX6_meets 17 = .ok (.istore 5, 2) := by decide +kernel
theorem dX6_meets_19 : decode cX6_meets 19 = .ok (.iload_n 3, 1) := by decide +kernel
theorem dX6_meets_20 : decode cX6_meets 20 = .ok (.aload_n 0, 1) := by decide +kernel
theorem dX6_meets_21 : decode cX6_meets 21 = .ok (.getfield 16, 3) := by decide +kernel
theorem dX6_meets_24 : decode cX6_meets 24 = .ok (.if_icmp .gt 39, 3) := by decide +kernel
theorem dX6_meets_27 : decode cX6_meets 27 = .ok (.iload_n 3, 1) := by decide +kernel
theorem dX6_meets_28 : decode cX6_meets 28 = .ok (.iload 5, 2) := by decide +kernel
theorem dX6_meets_30 : decode cX6_meets 30 = .ok (.iadd, 1) := by decide +kernel
theorem dX6_meets_31 : decode cX6_meets 31 = .ok (.aload_n 0, 1) := by decide +kernel
theorem dX6_meets_32 : decode cX6_meets 32 = .ok (.getfield 7, 3) := by decide +kernel
theorem dX6_meets_35 : decode cX6_meets 35 = .ok (.if_icmp .le 28, 3) := by decide +kernel
theorem dX6_meets_38 : decode cX6_meets 38 = .ok (.iload 4, 2) := by decide +kernel
theorem dX6_meets_40 : decode cX6_meets 40 = .ok (.aload_n 0, 1) := by decide +kernel
theorem dX6_meets_41 : decode cX6_meets 41 = .ok (.getfield 19, 3) := by decide +kernel
theorem dX6_meets_44 : decode cX6_meets 44 = .ok (.if_icmp .gt 19, 3) := by decide +kernel
theorem dX6_meets_47 : decode cX6_meets 47 = .ok (.iload 4, 2) := by decide +kernel
theorem dX6_meets_49 : decode cX6_meets 49 = .ok (.iload 5, 2) := by decide +kernel
theorem dX6_meets_51 : decode cX6_meets 51 = .ok (.iadd, 1) := by decide +kernel
theorem dX6_meets_52 : decode cX6_meets 52 = .ok (.aload_n 0, 1) := by decide +kernel
theorem dX6_meets_53 : decode cX6_meets 53 = .ok (.getfield 13, 3) := by decide +kernel
theorem dX6_meets_56 : decode cX6_meets 56 = .ok (.if_icmp .le 7, 3) := by decide +kernel
theorem dX6_meets_59 : decode cX6_meets 59 = .ok (.iconst 1, 1) := by decide +kernel
theorem dX6_meets_60 : decode cX6_meets 60 = .ok (.goto 4, 3) := by decide +kernel
theorem dX6_meets_63 : decode cX6_meets 63 = .ok (.iconst 0, 1) := by decide +kernel
theorem dX6_meets_64 : decode cX6_meets 64 = .ok (.ireturn, 1) := by decide +kernel
set_option maxRecDepth 20000 in
theorem ggX7_init_X5_init : GoodIn wsX7_init wsX5_init := goodIn_r _ [21, 22, 2, 3, 23, 24, 25, 26, 27, 28, 29, 30, 31, 32, 33, 34, 35, 68, 69, 70, 71, 72, 73, 55, 56] (by decide +kernel) (by decide +kernel)
set_option maxRecDepth 20000 in
theorem gX7_init_X5_init_n9 : GoodIn wsX7_init (wsX5_init) := ggX7_init_X5_init
set_option maxRecDepth 20000 in
theorem ggX7_init_X0_init : GoodIn wsX7_init wsX0_init := goodIn_r _ [38, 39, 2, 3, 40, 41, 24, 25, 29, 30, 31, 27, 32, 33, 34, 35, 61, 62, 68, 69, 70, 71, 72, 73] (by decide +kernel) (by decide +kernel)
set_option maxRecDepth 20000 in
theorem gX7_init_X0_init : GoodIn wsX7_init (wsX0_init) := ggX7_init_X0_init
set_option maxRecDepth 20000 in
theorem ggX7_init_X4_init : GoodIn wsX7_init wsX4_init := goodIn_r _ [44, 45, 2, 3, 46, 47, 48, 49, 24, 25, 29, 30, 31, 27, 32, 33, 34, 35, 63, 64, 68, 69, 70, 71, 72, 73] (by decide +kernel) (by decide +kernel)
set_option maxRecDepth 20000 in
theorem gX7_init_X4_init : GoodIn wsX7_init (wsX4_init) := ggX7_init_X4_init
set_option maxRecDepth 20000 in
theorem ggX7_init_X2_init : GoodIn wsX7_init wsX2_init := goodIn_r _ [51, 52, 2, 3, 27, 53, 54, 65, 66, 67] (by decide +kernel) (by decide +kernel)
set_option maxRecDepth 20000 in
theorem gX7_init_X2_init_n32 : GoodIn wsX7_init (wsX2_init) := ggX7_init_X2_init
theorem dX7_init_0 : decode cX7_init 0 = .ok (.aload_n 0, 1) := by decide +kernel
theorem dX7_init_1 : decode cX7_init 1 = .ok (.invokespecial 1, 3) := by decide +kernel
theorem dX7_init_4 : decode cX7_init 4 = .ok (.aload_n 0, 1) := by decide +kernel
theorem dX7_init_5 : decode cX7_init 5 = .ok (.new 7, 3) := by decide +kernel
theorem dX7_init_8 : decode cX7_init 8 = .ok (.dup, 1) := by decide +kernel
theorem dX7_init_9 : decode cX7_init 9 = .ok (.invokespecial 9, 3) := by decide +kernel
theorem dX7_init_12 : decode cX7_init 12 = .ok (.putfield 10, 3) := by decide +kernel
theorem dX7_init_15 : decode cX7_init 15 = .ok (.aload_n 0, 1) := by decide +kernel
theorem dX7_init_16 : decode cX7_init 16 = .ok (.new 16, 3) := by decide +kernel
theorem dX7_init_19 : decode cX7_init 19 = .ok (.dup, 1) := by decide +kernel
theorem dX7_init_20 : decode cX7_init 20 = .ok (.invokespecial 18, 3) := by decide +kernel
theorem dX7_init_23 : decode cX7_init 23 = .ok (.putfield 19, 3) := by decide +kernel
theorem dX7_init_26 : decode cX7_init 26 = .ok (.aload_n 0, 1) := by decide +kernel
theorem dX7_init_27 : decode cX7_init 27 = .ok (.new 23, 3) := by decide +kernel
theorem dX7_init_30 : decode cX7_init 30 = .ok (.dup, 1) := by decide +kernel
theorem dX7_init_31 : decode cX7_init 31 = .ok (.invokespecial 25, 3) := by decide +kernel
theorem dX7_init_34 : decode cX7_init 34 = .ok (.putfield 26, 3) := by decide +kernel
theorem dX7_init_37 : decode cX7_init 37 = .ok (.aload_n 0, 1) := by decide +kernel
theorem dX7_init_38 : decode cX7_init 38 = .ok (.new 30, 3) := by decide +kernel
theorem dX7_init_41 : decode cX7_init 41 = .ok (.dup, 1) := by decide +kernel
theorem dX7_init_42 : decode cX7_init 42 = .ok (.invokespecial 32, 3) := by decide +kernel
theorem dX7_init_45 : decode cX7_init 45 = .ok (.putfield 33, 3) := by decide +kernel
theorem dX7_init_48 : decode cX7_init 48 = .ok (.return_, 1) := by decide +kernel
set_option maxRecDepth 20000 in
theorem ggX7_set_X0_remember : GoodIn wsX7_set wsX0_remember := goodIn_r _ [10, 11, 12, 13, 14, 15, 9, 16, 17, 18, 19, 20, 21, 22, 23, 24, 25, 26, 27, 28, 29, 30, 31, 44, 45, 38, 39, 40, 41, 42, 43] (by decide +kernel) (by decide +kernel)
set_option maxRecDepth 20000 in
theorem gX7_set_X0_remember : GoodIn wsX7_set (wsV RX7 41 RX0 yX0_remember wsX0_remember) := goodIn_app (goodIn_of _ (by decide +kernel)) ggX7_set_X0_remember
theorem dX7_set_0 : decode cX7_set 0 = .ok (.iload_n 1, 1) := by decide +kernel
theorem dX7_set_1 : decode cX7_set 1 = .ok (.ifCond .eq 11, 3) := by decide +kernel
theorem dX7_set_4 : decode cX7_set 4 = .ok (.iload_n 1, 1) := by decide +kernel
theorem dX7_set_5 : decode cX7_set 5 = .ok (.iconst 1, 1) := by decide +kernel
theorem dX7_set_6 : decode cX7_set 6 = .ok (.if_icmp .eq 6, 3) := by decide +kernel
theorem dX7_set_9 : decode cX7_set 9 = .ok (.bipush (-2), 2) := by decide +kernel
theorem dX7_set_11 : decode cX7_set 11 = .ok (.ireturn, 1) := by decide +kernel
theorem dX7_set_12 : decode cX7_set 12 = .ok (.iload_n 1, 1) := by decide +kernel
theorem dX7_set_13 : decode cX7_set 13 = .ok (.ifCond .ne 8, 3) := by decide +kernel
theorem dX7_set_16 : decode cX7_set 16 = .ok (.bipush 8, 2) := by decide +kernel
theorem dX7_set_18 : decode cX7_set 18 = .ok (.goto 5, 3) := by decide +kernel
theorem dX7_set_21 : decode cX7_set 21 = .ok (.bipush 6, 2) := by decide +kernel
theorem dX7_set_23 : decode cX7_set 23 = .ok (.istore_n 3, 1) := by decide +kernel
theorem dX7_set_24 : decode cX7_set 24 = .ok (.iload_n 2, 1) := by decide +kernel
theorem dX7_set_25 : decode cX7_set 25 = .ok (.iconst 1, 1) := by decide +kernel
theorem dX7_set_26 : decode cX7_set 26 = .ok (.if_icmp .lt 8, 3) := by decide +kernel
theorem dX7_set_29 : decode cX7_set 29 = .ok (.iload_n 2, 1) := by decide +kernel
theorem dX7_set_30 : decode cX7_set 30 = .ok (.iload_n 3, 1) := by decide +kernel
theorem dX7_set_31 : decode cX7_set 31 = .ok (.if_icmp .le 6, 3) := by decide +kernel
theorem dX7_set_34 : decode cX7_set 34 = .ok (.bipush (-2), 2) := by decide +kernel
theorem dX7_set_36 : decode cX7_set 36 = .ok (.ireturn, 1) := by decide +kernel
theorem dX7_set_37 : decode cX7_set 37 = .ok (.aload_n 0, 1) := by decide +kernel
theorem dX7_set_38 : decode cX7_set 38 = .ok (.getfield 10, 3) := by decide +kernel
theorem dX7_set_41 : decode cX7_set 41 = .ok (.getfield 37, 3) := by decide +kernel
theorem dX7_set_44 : decode cX7_set 44 = .ok (.astore 4, 2) := by decide +kernel
theorem dX7_set_46 : decode cX7_set 46 = .ok (.aload_n 0, 1) := by decide +kernel
theorem dX7_set_47 : decode cX7_set 47 = .ok (.getfield 19, 3) := by decide +kernel
theorem dX7_set_50 : decode cX7_set 50 = .ok (.aload 4, 2) := by decide +kernel
theorem dX7_set_52 : decode cX7_set 52 = .ok (.invokevirtual 41, 3) := by decide +kernel
theorem dX7_set_55 : decode cX7_set 55 = .ok (.iload_n 1, 1) := by decide +kernel
theorem dX7_set_56 : decode cX7_set 56 = .ok (.ifCond .ne 11, 3) := by decide +kernel
theorem dX7_set_59 : decode cX7_set 59 = .ok (.aload 4, 2) := by decide +kernel
theorem dX7_set_61 : decode cX7_set 61 = .ok (.getfield 45, 3) := by decide +kernel
theorem dX7_set_64 : decode cX7_set 64 = .ok (.goto 8, 3) := by decide +kernel
theorem dX7_set_67 : decode cX7_set 67 = .ok (.aload 4, 2) := by decide +kernel
theorem dX7_set_69 : decode cX7_set 69 = .ok (.getfield 51, 3) := by decide +kernel
theorem dX7_set_72 : decode cX7_set 72 = .ok (.istore 5, 2) := by decide +kernel
theorem dX7_set_74 : decode cX7_set 74 = .ok (.iload_n 1, 1) := by decide +kernel
theorem dX7_set_75 : decode cX7_set 75 = .ok (.ifCond .ne 12, 3) := by decide +kernel
theorem dX7_set_78 : decode cX7_set 78 = .ok (.aload 4, 2) := by decide +kernel
theorem dX7_set_80 : decode cX7_set 80 = .ok (.iload_n 2, 1) := by decide +kernel
theorem dX7_set_81 : decode cX7_set 81 = .ok (.putfield 45, 3) := by decide +kernel
theorem dX7_set_84 : decode cX7_set 84 = .ok (.goto 9, 3) := by decide +kernel
theorem dX7_set_87 : decode cX7_set 87 = .ok (.aload 4, 2) := by decide +kernel
theorem dX7_set_89 : decode cX7_set 89 = .ok (.iload_n 2, 1) := by decide +kernel
theorem dX7_set_90 : decode cX7_set 90 = .ok (.putfield 51, 3) := by decide +kernel
theorem dX7_set_93 : decode cX7_set 93 = .ok (.iload 5, 2) := by decide +kernel
theorem dX7_set_95 : decode cX7_set 95 = .ok (.ireturn, 1) := by decide +kernel
set_option maxRecDepth 20000 in
theorem ggX7_point_X1_isPlace : GoodIn wsX7_point wsX1_isPlace := goodIn_r _ [7] (by decide +kernel) (by decide +kernel)
set_option maxRecDepth 20000 in
theorem gX7_point_X1_isPlace : GoodIn wsX7_point (va_wsS RX7 54 yX1_isPlace wsX1_isPlace) := goodIn_app (goodIn_of _ (by decide +kernel)) ggX7_point_X1_isPlace
set_option maxRecDepth 20000 in
theorem ggX7_point_X1_placeAt : GoodIn wsX7_point wsX1_placeAt := goodIn_r _ [10] (by decide +kernel) (by decide +kernel)
set_option maxRecDepth 20000 in
theorem gX7_point_X1_placeAt : GoodIn wsX7_point (va_wsS RX7 60 yX1_placeAt wsX1_placeAt) := goodIn_app (goodIn_of _ (by decide +kernel)) ggX7_point_X1_placeAt
set_option maxRecDepth 20000 in
theorem ggX7_point_X3_errorOfPointAt : GoodIn wsX7_point wsX3_errorOfPointAt := goodIn_r _ [15, 16, 17, 18, 19, 14, 20, 21, 22, 23, 24, 25, 26, 27, 28, 29, 102, 103, 104, 105, 106, 107] (by decide +kernel) (by decide +kernel)
set_option maxRecDepth 20000 in
theorem gX7_point_X3_errorOfPointAt : GoodIn wsX7_point (wsV RX7 64 RX3 yX3_errorOfPointAt wsX3_errorOfPointAt) := goodIn_app (goodIn_of _ (by decide +kernel)) ggX7_point_X3_errorOfPointAt
set_option maxRecDepth 20000 in
theorem ggX7_point_X0_remember : GoodIn wsX7_point wsX0_remember := goodIn_r _ [34, 35, 36, 37, 38, 39, 33, 40, 41, 42, 43, 14, 44, 25, 45, 46, 47, 48, 49, 16, 50, 51, 52, 108, 109, 102, 103, 104, 105, 106, 107] (by decide +kernel) (by decide +kernel)
set_option maxRecDepth 20000 in
theorem gX7_point_X0_remember : GoodIn wsX7_point (wsV RX7 41 RX0 yX0_remember wsX0_remember) := goodIn_app (goodIn_of _ (by decide +kernel)) ggX7_point_X0_remember
set_option maxRecDepth 20000 in
theorem ggX7_point_X5_addPoint : GoodIn wsX7_point wsX5_addPoint := goodIn_r _ [57, 58, 59, 60, 61, 14, 62, 16, 25, 63, 64, 65, 56, 66, 67, 68, 69, 6, 70, 100, 101, 102, 103, 104, 105, 106, 107] (by decide +kernel) (by decide +kernel)
set_option maxRecDepth 20000 in
theorem gX7_point_X5_addPoint : GoodIn wsX7_point (wsV RX7 68 RX5 yX5_addPoint wsX5_addPoint) := goodIn_app (goodIn_of _ (by decide +kernel)) ggX7_point_X5_addPoint
set_option maxRecDepth 20000 in
theorem ggX7_point_X5_leaves : GoodIn wsX7_point wsX5_leaves := goodIn_r _ [74, 75, 76, 56, 77, 78, 79, 80, 81, 58, 82, 83, 84, 85, 86, 87, 67, 88, 89, 90, 14, 91, 92, 93, 94, 95, 50, 49, 100, 101, 102, 103, 104, 105, 106, 107] (by decide +kernel) (by decide +kernel)
set_option maxRecDepth 20000 in
theorem gX7_point_X5_leaves : GoodIn wsX7_point (wsV RX7 72 RX5 yX5_leaves wsX5_leaves) := goodIn_app (goodIn_of _ (by decide +kernel)) ggX7_point_X5_leaves
theorem dX7_point_0 : decode cX7_point 0 = .ok (.iload_n 1, 1) := by decide +kernel
theorem dX7_point_1 : decode cX7_point 1 = .ok (.iload_n 2, 1) := by decide +kernel
theorem dX7_point_2 : decode cX7_point 2 = .ok (.invokestatic 54, 3) := by decide +kernel
theorem dX7_point_5 : decode cX7_point 5 = .ok (.ifCond .ne 5, 3) := by decide +kernel
theorem dX7_point_8 : decode cX7_point 8 = .ok (.iconst (-1), 1) := by decide +kernel
theorem dX7_point_9 : decode cX7_point 9 = .ok (.ireturn, 1) := by decide +kernel
theorem dX7_point_10 : decode cX7_point 10 = .ok (.iload_n 1, 1) := by decide +kernel
theorem dX7_point_11 : decode cX7_point 11 = .ok (.iload_n 2, 1) := by decide +kernel
theorem dX7_point_12 : decode cX7_point 12 = .ok (.invokestatic 60, 3) := by decide +kernel
theorem dX7_point_15 : decode cX7_point 15 = .ok (.istore_n 3, 1) := by decide +kernel
theorem dX7_point_16 : decode cX7_point 16 = .ok (.aload_n 0, 1) := by decide +kernel
theorem dX7_point_17 : decode cX7_point 17 = .ok (.getfield 10, 3) := by decide +kernel
theorem dX7_point_20 : decode cX7_point 20 = .ok (.getfield 37, 3) := by decide +kernel
theorem dX7_point_23 : decode cX7_point 23 = .ok (.iload_n 3, 1) := by decide +kernel
theorem dX7_point_24 : decode cX7_point 24 = .ok (.invokevirtual 64, 3) := by decide +kernel
theorem dX7_point_27 : decode cX7_point 27 = .ok (.istore 4, 2) := by decide +kernel
theorem dX7_point_29 : decode cX7_point 29 = .ok (.iload 4, 2) := by decide +kernel
theorem dX7_point_31 : decode cX7_point 31 = .ok (.ifCond .eq 6, 3) := by decide +kernel
theorem dX7_point_34 : decode cX7_point 34 = .ok (.iload 4, 2) := by decide +kernel
theorem dX7_point_36 : decode cX7_point 36 = .ok (.ireturn, 1) := by decide +kernel
theorem dX7_point_37 : decode cX7_point 37 = .ok (.aload_n 0, 1) := by decide +kernel
theorem dX7_point_38 : decode cX7_point 38 = .ok (.getfield 19, 3) := by decide +kernel
theorem dX7_point_41 : decode cX7_point 41 = .ok (.aload_n 0, 1) := by decide +kernel
theorem dX7_point_42 : decode cX7_point 42 = .ok (.getfield 10, 3) := by decide +kernel
theorem dX7_point_45 : decode cX7_point 45 = .ok (.getfield 37, 3) := by decide +kernel
theorem dX7_point_48 : decode cX7_point 48 = .ok (.invokevirtual 41, 3) := by decide +kernel
theorem dX7_point_51 : decode cX7_point 51 = .ok (.aload_n 0, 1) := by decide +kernel
theorem dX7_point_52 : decode cX7_point 52 = .ok (.getfield 10, 3) := by decide +kernel
theorem dX7_point_55 : decode cX7_point 55 = .ok (.iload_n 3, 1) := by decide +kernel
theorem dX7_point_56 : decode cX7_point 56 = .ok (.invokevirtual 68, 3) := by decide +kernel
theorem dX7_point_59 : decode cX7_point 59 = .ok (.aload_n 0, 1) := by decide +kernel
theorem dX7_point_60 : decode cX7_point 60 = .ok (.getfield 10, 3) := by decide +kernel
theorem dX7_point_63 : decode cX7_point 63 = .ok (.invokevirtual 72, 3) := by decide +kernel
theorem dX7_point_66 : decode cX7_point 66 = .ok (.ireturn, 1) := by decide +kernel
set_option maxRecDepth 20000 in
theorem ggX7_take_X3_isPoint : GoodIn wsX7_take wsX3_isPoint := goodIn_r _ [8, 9, 89, 90, 91, 92, 93, 94] (by decide +kernel) (by decide +kernel)
set_option maxRecDepth 20000 in
theorem gX7_take_X3_isPoint : GoodIn wsX7_take (wsV RX7 76 RX3 yX3_isPoint wsX3_isPoint) := goodIn_app (goodIn_of _ (by decide +kernel)) ggX7_take_X3_isPoint
set_option maxRecDepth 20000 in
theorem ggX7_take_X0_remember : GoodIn wsX7_take wsX0_remember := goodIn_r _ [14, 15, 16, 17, 18, 19, 13, 20, 21, 22, 23, 7, 24, 25, 26, 27, 28, 29, 30, 9, 31, 32, 33, 95, 96, 89, 90, 91, 92, 93, 94] (by decide +kernel) (by decide +kernel)
set_option maxRecDepth 20000 in
theorem gX7_take_X0_remember : GoodIn wsX7_take (wsV RX7 41 RX0 yX0_remember wsX0_remember) := goodIn_app (goodIn_of _ (by decide +kernel)) ggX7_take_X0_remember
set_option maxRecDepth 20000 in
theorem ggX7_take_X5_removePoint : GoodIn wsX7_take wsX5_removePoint := goodIn_r _ [38, 39, 40, 41, 42, 7, 43, 25, 44, 5, 6, 8, 9, 45, 46, 47, 37, 48, 49, 50, 51, 52, 53, 54, 55, 56, 57, 26, 27, 28, 29, 87, 88, 89, 90, 91, 92, 93, 94] (by decide +kernel) (by decide +kernel)
set_option maxRecDepth 20000 in
theorem gX7_take_X5_removePoint : GoodIn wsX7_take (wsV RX7 80 RX5 yX5_removePoint wsX5_removePoint) := goodIn_app (goodIn_of _ (by decide +kernel)) ggX7_take_X5_removePoint
set_option maxRecDepth 20000 in
theorem ggX7_take_X5_leaves : GoodIn wsX7_take wsX5_leaves := goodIn_r _ [61, 62, 63, 37, 64, 65, 66, 67, 68, 39, 69, 70, 71, 72, 73, 74, 49, 75, 76, 77, 7, 78, 79, 80, 81, 82, 31, 30, 87, 88, 89, 90, 91, 92, 93, 94] (by decide +kernel) (by decide +kernel)
set_option maxRecDepth 20000 in
theorem gX7_take_X5_leaves : GoodIn wsX7_take (wsV RX7 72 RX5 yX5_leaves wsX5_leaves) := goodIn_app (goodIn_of _ (by decide +kernel)) ggX7_take_X5_leaves
theorem dX7_take_0 : decode cX7_take 0 = .ok (.aload_n 0, 1) := by decide +kernel
theorem dX7_take_1 : decode cX7_take 1 = .ok (.getfield 10, 3) := by decide +kernel
theorem dX7_take_4 : decode cX7_take 4 = .ok (.getfield 37, 3) := by decide +kernel
theorem dX7_take_7 : decode cX7_take 7 = .ok (.iload_n 1, 1) := by decide +kernel
theorem dX7_take_8 : decode cX7_take 8 = .ok (.invokevirtual 76, 3) := by decide +kernel
theorem dX7_take_11 : decode cX7_take 11 = .ok (.ifCond .ne 5, 3) := by decide +kernel
theorem dX7_take_14 : decode cX7_take 14 = .ok (.iconst (-1), 1) := by decide +kernel
theorem dX7_take_15 : decode cX7_take 15 = .ok (.ireturn, 1) := by decide +kernel
theorem dX7_take_16 : decode cX7_take 16 = .ok (.aload_n 0, 1) := by decide +kernel
theorem dX7_take_17 : decode cX7_take 17 = .ok (.getfield 19, 3) := by decide +kernel
theorem dX7_take_20 : decode cX7_take 20 = .ok (.aload_n 0, 1) := by decide +kernel
theorem dX7_take_21 : decode cX7_take 21 = .ok (.getfield 10, 3) := by decide +kernel
theorem dX7_take_24 : decode cX7_take 24 = .ok (.getfield 37, 3) := by decide +kernel
theorem dX7_take_27 : decode cX7_take 27 = .ok (.invokevirtual 41, 3) := by decide +kernel
theorem dX7_take_30 : decode cX7_take 30 = .ok (.aload_n 0, 1) := by decide +kernel
theorem dX7_take_31 : decode cX7_take 31 = .ok (.getfield 10, 3) := by decide +kernel
theorem dX7_take_34 : decode cX7_take 34 = .ok (.iload_n 1, 1) := by decide +kernel
theorem dX7_take_35 : decode cX7_take 35 = .ok (.invokevirtual 80, 3) := by decide +kernel
theorem dX7_take_38 : decode cX7_take 38 = .ok (.aload_n 0, 1) := by decide +kernel
theorem dX7_take_39 : decode cX7_take 39 = .ok (.getfield 10, 3) := by decide +kernel
theorem dX7_take_42 : decode cX7_take 42 = .ok (.invokevirtual 72, 3) := by decide +kernel
theorem dX7_take_45 : decode cX7_take 45 = .ok (.ireturn, 1) := by decide +kernel
set_option maxRecDepth 20000 in
theorem ggX7_move_X3_isPoint : GoodIn wsX7_move wsX3_isPoint := goodIn_r _ [8, 9, 100, 101, 102, 103, 104, 105] (by decide +kernel) (by decide +kernel)
set_option maxRecDepth 20000 in
theorem gX7_move_X3_isPoint : GoodIn wsX7_move (wsV RX7 76 RX3 yX3_isPoint wsX3_isPoint) := goodIn_app (goodIn_of _ (by decide +kernel)) ggX7_move_X3_isPoint
set_option maxRecDepth 20000 in
theorem ggX7_move_X1_isPlace : GoodIn wsX7_move wsX1_isPlace := goodIn_r _ [13] (by decide +kernel) (by decide +kernel)
set_option maxRecDepth 20000 in
theorem gX7_move_X1_isPlace : GoodIn wsX7_move (va_wsS RX7 54 yX1_isPlace wsX1_isPlace) := goodIn_app (goodIn_of _ (by decide +kernel)) ggX7_move_X1_isPlace
set_option maxRecDepth 20000 in
theorem ggX7_move_X1_placeAt : GoodIn wsX7_move wsX1_placeAt := goodIn_r _ [16] (by decide +kernel) (by decide +kernel)
set_option maxRecDepth 20000 in
theorem gX7_move_X1_placeAt : GoodIn wsX7_move (va_wsS RX7 60 yX1_placeAt wsX1_placeAt) := goodIn_app (goodIn_of _ (by decide +kernel)) ggX7_move_X1_placeAt
set_option maxRecDepth 20000 in
theorem ggX7_move_X3_pointAt : GoodIn wsX7_move wsX3_pointAt := goodIn_r _ [20, 9, 21, 22, 23, 7, 24, 25, 26, 5, 6, 8, 100, 101, 102, 103, 104, 105] (by decide +kernel) (by decide +kernel)
set_option maxRecDepth 20000 in
theorem gX7_move_X3_pointAt : GoodIn wsX7_move (wsV RX7 83 RX3 yX3_pointAt wsX3_pointAt) := goodIn_app (goodIn_of _ (by decide +kernel)) ggX7_move_X3_pointAt
set_option maxRecDepth 20000 in
theorem ggX7_move_X0_remember : GoodIn wsX7_move wsX0_remember := goodIn_r _ [31, 32, 33, 34, 35, 36, 30, 37, 38, 39, 40, 7, 41, 25, 42, 43, 44, 45, 46, 9, 47, 48, 49, 106, 107, 100, 101, 102, 103, 104, 105] (by decide +kernel) (by decide +kernel)
set_option maxRecDepth 20000 in
theorem gX7_move_X0_remember : GoodIn wsX7_move (wsV RX7 41 RX0 yX0_remember wsX0_remember) := goodIn_app (goodIn_of _ (by decide +kernel)) ggX7_move_X0_remember
set_option maxRecDepth 20000 in
theorem ggX7_move_X5_shiftPoint : GoodIn wsX7_move wsX5_shiftPoint := goodIn_r _ [54, 55, 56, 22, 23, 7, 24, 25, 26, 5, 6, 8, 9, 57, 58, 59, 53, 60, 61, 62, 63, 12, 64, 65, 66, 67, 68, 98, 99, 100, 101, 102, 103, 104, 105] (by decide +kernel) (by decide +kernel)
set_option maxRecDepth 20000 in
theorem gX7_move_X5_shiftPoint : GoodIn wsX7_move (wsV RX7 86 RX5 yX5_shiftPoint wsX5_shiftPoint) := goodIn_app (goodIn_of _ (by decide +kernel)) ggX7_move_X5_shiftPoint
set_option maxRecDepth 20000 in
theorem ggX7_move_X5_leaves : GoodIn wsX7_move wsX5_leaves := goodIn_r _ [72, 73, 74, 53, 75, 76, 77, 78, 79, 55, 80, 81, 82, 83, 84, 85, 61, 86, 87, 88, 7, 89, 90, 91, 92, 93, 47, 46, 98, 99, 100, 101, 102, 103, 104, 105] (by decide +kernel) (by decide +kernel)
set_option maxRecDepth 20000 in
theorem gX7_move_X5_leaves : GoodIn wsX7_move (wsV RX7 72 RX5 yX5_leaves wsX5_leaves) := goodIn_app (goodIn_of _ (by decide +kernel)) ggX7_move_X5_leaves
theorem dX7_move_0 : decode cX7_move 0 = .ok (.aload_n 0, 1) := by decide +kernel
theorem dX7_move_1 : decode cX7_move 1 = .ok (.getfield 10, 3) := by decide +kernel
theorem dX7_move_4 : decode cX7_move 4 = .ok (.getfield 37, 3) := by decide +kernel
theorem dX7_move_7 : decode cX7_move 7 = .ok (.iload_n 1, 1) := by decide +kernel
theorem dX7_move_8 : decode cX7_move 8 = .ok (.invokevirtual 76, 3) := by decide +kernel
theorem dX7_move_11 : decode cX7_move 11 = .ok (.ifCond .eq 11, 3) := by decide +kernel
theorem dX7_move_14 : decode cX7_move 14 = .ok (.iload_n 2, 1) := by decide +kernel
theorem dX7_move_15 : decode cX7_move 15 = .ok (.iload_n 3, 1) := by decide +kernel
theorem dX7_move_16 : decode cX7_move 16 = .ok (.invokestatic 54, 3) := by decide +kernel
theorem dX7_move_19 : decode cX7_move 19 = .ok (.ifCond .ne 5, 3) := by decide +kernel
theorem dX7_move_22 : decode cX7_move 22 = .ok (.iconst (-1), 1) := by decide +kernel
theorem dX7_move_23 : decode cX7_move 23 = .ok (.ireturn, 1) := by decide +kernel
theorem dX7_move_24 : decode cX7_move 24 = .ok (.iload_n 2, 1) := by decide +kernel
theorem dX7_move_25 : decode cX7_move 25 = .ok (.iload_n 3, 1) := by decide +kernel
theorem dX7_move_26 : decode cX7_move 26 = .ok (.invokestatic 60, 3) := by decide +kernel
theorem dX7_move_29 : decode cX7_move 29 = .ok (.istore 4, 2) := by decide +kernel
theorem dX7_move_31 : decode cX7_move 31 = .ok (.aload_n 0, 1) := by decide +kernel
theorem dX7_move_32 : decode cX7_move 32 = .ok (.getfield 10, 3) := by decide +kernel
theorem dX7_move_35 : decode cX7_move 35 = .ok (.getfield 37, 3) := by decide +kernel
theorem dX7_move_38 : decode cX7_move 38 = .ok (.iload 4, 2) := by decide +kernel
theorem dX7_move_40 : decode cX7_move 40 = .ok (.invokevirtual 83, 3) := by decide +kernel
theorem dX7_move_43 : decode cX7_move 43 = .ok (.istore 5, 2) := by decide +kernel
theorem dX7_move_45 : decode cX7_move 45 = .ok (.iload 5, 2) := by decide +kernel
theorem dX7_move_47 : decode cX7_move 47 = .ok (.bipush (-6), 2) := by decide +kernel
theorem dX7_move_49 : decode cX7_move 49 = .ok (.if_icmp .eq 12, 3) := by decide +kernel
theorem dX7_move_52 : decode cX7_move 52 = .ok (.iload 5, 2) := by decide +kernel
theorem dX7_move_54 : decode cX7_move 54 = .ok (.iload_n 1, 1) := by decide +kernel
theorem dX7_move_55 : decode cX7_move 55 = .ok (.if_icmp .eq 6, 3) := by decide +kernel
theorem dX7_move_58 : decode cX7_move 58 = .ok (.bipush (-5), 2) := by decide +kernel
theorem dX7_move_60 : decode cX7_move 60 = .ok (.ireturn, 1) := by decide +kernel
theorem dX7_move_61 : decode cX7_move 61 = .ok (.aload_n 0, 1) := by decide +kernel
theorem dX7_move_62 : decode cX7_move 62 = .ok (.getfield 19, 3) := by decide +kernel
theorem dX7_move_65 : decode cX7_move 65 = .ok (.aload_n 0, 1) := by decide +kernel
theorem dX7_move_66 : decode cX7_move 66 = .ok (.getfield 10, 3) := by decide +kernel
theorem dX7_move_69 : decode cX7_move 69 = .ok (.getfield 37, 3) := by decide +kernel
theorem dX7_move_72 : decode cX7_move 72 = .ok (.invokevirtual 41, 3) := by decide +kernel
theorem dX7_move_75 : decode cX7_move 75 = .ok (.aload_n 0, 1) := by decide +kernel
theorem dX7_move_76 : decode cX7_move 76 = .ok (.getfield 10, 3) := by decide +kernel
theorem dX7_move_79 : decode cX7_move 79 = .ok (.iload_n 1, 1) := by decide +kernel
theorem dX7_move_80 : decode cX7_move 80 = .ok (.iload 4, 2) := by decide +kernel
theorem dX7_move_82 : decode cX7_move 82 = .ok (.invokevirtual 86, 3) := by decide +kernel
theorem dX7_move_85 : decode cX7_move 85 = .ok (.aload_n 0, 1) := by decide +kernel
theorem dX7_move_86 : decode cX7_move 86 = .ok (.getfield 10, 3) := by decide +kernel
theorem dX7_move_89 : decode cX7_move 89 = .ok (.invokevirtual 72, 3) := by decide +kernel
theorem dX7_move_92 : decode cX7_move 92 = .ok (.ireturn, 1) := by decide +kernel
set_option maxRecDepth 20000 in
theorem ggX7_split_X1_depthOf : GoodIn wsX7_split wsX1_depthOf := goodIn_r _ [8] (by decide +kernel) (by decide +kernel)
set_option maxRecDepth 20000 in
theorem gX7_split_X1_depthOf : GoodIn wsX7_split (va_wsS RX7 90 yX1_depthOf wsX1_depthOf) := goodIn_app (goodIn_of _ (by decide +kernel)) ggX7_split_X1_depthOf
set_option maxRecDepth 20000 in
theorem ggX7_split_X3_isOrdered : GoodIn wsX7_split wsX3_isOrdered := goodIn_r _ [13, 14, 15, 16, 12, 17, 18, 19, 78, 79, 80, 81, 82, 83] (by decide +kernel) (by decide +kernel)
set_option maxRecDepth 20000 in
theorem gX7_split_X3_isOrdered : GoodIn wsX7_split (wsV RX7 93 RX3 yX3_isOrdered wsX3_isOrdered) := goodIn_app (goodIn_of _ (by decide +kernel)) ggX7_split_X3_isOrdered
set_option maxRecDepth 20000 in
theorem ggX7_split_X0_remember : GoodIn wsX7_split wsX0_remember := goodIn_r _ [24, 25, 26, 27, 28, 29, 23, 30, 31, 32, 33, 12, 34, 35, 36, 37, 38, 39, 19, 40, 18, 41, 42, 84, 85, 78, 79, 80, 81, 82, 83] (by decide +kernel) (by decide +kernel)
set_option maxRecDepth 20000 in
theorem gX7_split_X0_remember : GoodIn wsX7_split (wsV RX7 41 RX0 yX0_remember wsX0_remember) := goodIn_app (goodIn_of _ (by decide +kernel)) ggX7_split_X0_remember
set_option maxRecDepth 20000 in
theorem ggX7_split_X3_addOrder : GoodIn wsX7_split wsX3_addOrder := goodIn_r _ [46, 18, 19, 78, 79, 80, 81, 82, 83] (by decide +kernel) (by decide +kernel)
set_option maxRecDepth 20000 in
theorem gX7_split_X3_addOrder : GoodIn wsX7_split (wsV RX7 99 RX3 yX3_addOrder wsX3_addOrder) := goodIn_app (goodIn_of _ (by decide +kernel)) ggX7_split_X3_addOrder
set_option maxRecDepth 20000 in
theorem ggX7_split_X3_removeOrder : GoodIn wsX7_split wsX3_removeOrder := goodIn_r _ [50, 19, 18, 14, 15, 16, 12, 17, 78, 79, 80, 81, 82, 83] (by decide +kernel) (by decide +kernel)
set_option maxRecDepth 20000 in
theorem gX7_split_X3_removeOrder : GoodIn wsX7_split (wsV RX7 102 RX3 yX3_removeOrder wsX3_removeOrder) := goodIn_app (goodIn_of _ (by decide +kernel)) ggX7_split_X3_removeOrder
set_option maxRecDepth 20000 in
theorem ggX7_split_X5_leaves : GoodIn wsX7_split wsX5_leaves := goodIn_r _ [55, 56, 57, 54, 58, 59, 60, 61, 62, 63, 64, 65, 66, 67, 68, 69, 70, 71, 10, 11, 12, 13, 14, 15, 16, 17, 18, 19, 76, 77, 78, 79, 80, 81, 82, 83] (by decide +kernel) (by decide +kernel)
set_option maxRecDepth 20000 in
theorem gX7_split_X5_leaves : GoodIn wsX7_split (wsV RX7 72 RX5 yX5_leaves wsX5_leaves) := goodIn_app (goodIn_of _ (by decide +kernel)) ggX7_split_X5_leaves
theorem dX7_split_0 : decode cX7_split 0 = .ok (.iload_n 1, 1) := by decide +kernel
theorem dX7_split_1 : decode cX7_split 1 = .ok (.invokestatic 90, 3) := by decide +kernel
theorem dX7_split_4 : decode cX7_split 4 = .ok (.istore_n 3, 1) := by decide +kernel
theorem dX7_split_5 : decode cX7_split 5 = .ok (.iload_n 3, 1) := by decide +kernel
theorem dX7_split_6 : decode cX7_split 6 = .ok (.bipush (-6), 2) := by decide +kernel
theorem dX7_split_8 : decode cX7_split 8 = .ok (.if_icmp .eq 9, 3) := by decide +kernel
theorem dX7_split_11 : decode cX7_split 11 = .ok (.iload_n 3, 1) := by decide +kernel
theorem dX7_split_12 : decode cX7_split 12 = .ok (.bipush 6, 2) := by decide +kernel
theorem dX7_split_14 : decode cX7_split 14 = .ok (.if_icmp .ne 5, 3) := by decide +kernel
theorem dX7_split_17 : decode cX7_split 17 = .ok (.iconst (-1), 1) := by decide +kernel
theorem dX7_split_18 : decode cX7_split 18 = .ok (.ireturn, 1) := by decide +kernel
theorem dX7_split_19 : decode cX7_split 19 = .ok (.aload_n 0, 1) := by decide +kernel
theorem dX7_split_20 : decode cX7_split 20 = .ok (.getfield 10, 3) := by decide +kernel
theorem dX7_split_23 : decode cX7_split 23 = .ok (.getfield 37, 3) := by decide +kernel
theorem dX7_split_26 : decode cX7_split 26 = .ok (.astore 4, 2) := by decide +kernel
theorem dX7_split_28 : decode cX7_split 28 = .ok (.aload 4, 2) := by decide +kernel
theorem dX7_split_30 : decode cX7_split 30 = .ok (.iload_n 1, 1) := by decide +kernel
theorem dX7_split_31 : decode cX7_split 31 = .ok (.invokevirtual 93, 3) := by decide +kernel
theorem dX7_split_34 : decode cX7_split 34 = .ok (.iload_n 2, 1) := by decide +kernel
theorem dX7_split_35 : decode cX7_split 35 = .ok (.if_icmp .ne 6, 3) := by decide +kernel
theorem dX7_split_38 : decode cX7_split 38 = .ok (.bipush (-5), 2) := by decide +kernel
theorem dX7_split_40 : decode cX7_split 40 = .ok (.ireturn, 1) := by decide +kernel
theorem dX7_split_41 : decode cX7_split 41 = .ok (.iload_n 2, 1) := by decide +kernel
theorem dX7_split_42 : decode cX7_split 42 = .ok (.ifCond .eq 16, 3) := by decide +kernel
theorem dX7_split_45 : decode cX7_split 45 = .ok (.aload 4, 2) := by decide +kernel
theorem dX7_split_47 : decode cX7_split 47 = .ok (.getfield 96, 3) := by decide +kernel
theorem dX7_split_50 : decode cX7_split 50 = .ok (.bipush 12, 2) := by decide +kernel
theorem dX7_split_52 : decode cX7_split 52 = .ok (.if_icmp .lt 6, 3) := by decide +kernel
theorem dX7_split_55 : decode cX7_split 55 = .ok (.bipush (-4), 2) := by decide +kernel
theorem dX7_split_57 : decode cX7_split 57 = .ok (.ireturn, 1) := by decide +kernel
theorem dX7_split_58 : decode cX7_split 58 = .ok (.aload_n 0, 1) := by decide +kernel
theorem dX7_split_59 : decode cX7_split 59 = .ok (.getfield 19, 3) := by decide +kernel
theorem dX7_split_62 : decode cX7_split 62 = .ok (.aload 4, 2) := by decide +kernel
theorem dX7_split_64 : decode cX7_split 64 = .ok (.invokevirtual 41, 3) := by decide +kernel
theorem dX7_split_67 : decode cX7_split 67 = .ok (.iload_n 2, 1) := by decide +kernel
theorem dX7_split_68 : decode cX7_split 68 = .ok (.ifCond .eq 12, 3) := by decide +kernel
theorem dX7_split_71 : decode cX7_split 71 = .ok (.aload 4, 2) := by decide +kernel
theorem dX7_split_73 : decode cX7_split 73 = .ok (.iload_n 1, 1) := by decide +kernel
theorem dX7_split_74 : decode cX7_split 74 = .ok (.invokevirtual 99, 3) := by decide +kernel
theorem dX7_split_77 : decode cX7_split 77 = .ok (.goto 9, 3) := by decide +kernel
theorem dX7_split_80 : decode cX7_split 80 = .ok (.aload 4, 2) := by decide +kernel
theorem dX7_split_82 : decode cX7_split 82 = .ok (.iload_n 1, 1) := by decide +kernel
theorem dX7_split_83 : decode cX7_split 83 = .ok (.invokevirtual 102, 3) := by decide +kernel
theorem dX7_split_86 : decode cX7_split 86 = .ok (.aload_n 0, 1) := by decide +kernel
theorem dX7_split_87 : decode cX7_split 87 = .ok (.getfield 10, 3) := by decide +kernel
theorem dX7_split_90 : decode cX7_split 90 = .ok (.invokevirtual 72, 3) := by decide +kernel
theorem dX7_split_93 : decode cX7_split 93 = .ok (.ireturn, 1) := by decide +kernel
set_option maxRecDepth 20000 in
theorem ggX7_putAll_X2_firstFault : GoodIn wsX7_putAll wsX2_firstFault := goodIn_r _ [9, 10, 11, 12, 13, 8, 14, 15, 16, 17, 18, 19, 20, 21, 105, 106, 107] (by decide +kernel) (by decide +kernel)
set_option maxRecDepth 20000 in
theorem gX7_putAll_X2_firstFault : GoodIn wsX7_putAll (wsV RX7 105 RX2 yX2_firstFault wsX2_firstFault) := goodIn_app (goodIn_of _ (by decide +kernel)) ggX7_putAll_X2_firstFault
set_option maxRecDepth 20000 in
theorem ggX7_putAll_X0_remember : GoodIn wsX7_putAll wsX0_remember := goodIn_r _ [26, 27, 28, 29, 30, 31, 25, 32, 33, 34, 35, 36, 37, 38, 39, 40, 41, 42, 43, 44, 45, 46, 47, 108, 109, 110, 111, 112, 113, 114, 115] (by decide +kernel) (by decide +kernel)
set_option maxRecDepth 20000 in
theorem gX7_putAll_X0_remember : GoodIn wsX7_putAll (wsV RX7 41 RX0 yX0_remember wsX0_remember) := goodIn_app (goodIn_of _ (by decide +kernel)) ggX7_putAll_X0_remember
set_option maxRecDepth 20000 in
theorem ggX7_putAll_X2_readPlaces : GoodIn wsX7_putAll wsX2_readPlaces := goodIn_r _ [51, 10, 52, 11, 12, 13, 8, 14, 15, 19, 20, 21, 53, 54, 55, 56, 105, 106, 107] (by decide +kernel) (by decide +kernel)
set_option maxRecDepth 20000 in
theorem gX7_putAll_X2_readPlaces : GoodIn wsX7_putAll (wsV RX7 108 RX2 yX2_readPlaces wsX2_readPlaces) := goodIn_app (goodIn_of _ (by decide +kernel)) ggX7_putAll_X2_readPlaces
set_option maxRecDepth 20000 in
theorem ggX7_putAll_X2_placeTold : GoodIn wsX7_putAll wsX2_placeTold := goodIn_r _ [60, 52, 105, 106, 107] (by decide +kernel) (by decide +kernel)
set_option maxRecDepth 20000 in
theorem gX7_putAll_X2_placeTold : GoodIn wsX7_putAll (wsV RX7 111 RX2 yX2_placeTold wsX2_placeTold) := goodIn_app (goodIn_of _ (by decide +kernel)) ggX7_putAll_X2_placeTold
set_option maxRecDepth 20000 in
theorem ggX7_putAll_X3_errorOfPointAt : GoodIn wsX7_putAll wsX3_errorOfPointAt := goodIn_r _ [64, 44, 65, 66, 67, 36, 68, 69, 70, 71, 72, 38, 73, 74, 75, 76, 110, 111, 112, 113, 114, 115] (by decide +kernel) (by decide +kernel)
set_option maxRecDepth 20000 in
theorem gX7_putAll_X3_errorOfPointAt : GoodIn wsX7_putAll (wsV RX7 64 RX3 yX3_errorOfPointAt wsX3_errorOfPointAt) := goodIn_app (goodIn_of _ (by decide +kernel)) ggX7_putAll_X3_errorOfPointAt
set_option maxRecDepth 20000 in
theorem ggX7_putAll_X5_addPoint : GoodIn wsX7_putAll wsX5_addPoint := goodIn_r _ [81, 82, 83, 84, 85, 36, 86, 44, 38, 87, 88, 89, 80, 90, 91, 92, 93, 55, 94, 103, 104, 110, 111, 112, 113, 114, 115] (by decide +kernel) (by decide +kernel)
set_option maxRecDepth 20000 in
theorem gX7_putAll_X5_addPoint : GoodIn wsX7_putAll (wsV RX7 68 RX5 yX5_addPoint wsX5_addPoint) := goodIn_app (goodIn_of _ (by decide +kernel)) ggX7_putAll_X5_addPoint
set_option maxRecDepth 20000 in
theorem ggX7_putAll_X2_empty : GoodIn wsX7_putAll wsX2_empty := goodIn_r _ [98, 10, 105, 106, 107] (by decide +kernel) (by decide +kernel)
set_option maxRecDepth 20000 in
theorem gX7_putAll_X2_empty : GoodIn wsX7_putAll (wsV RX7 114 RX2 yX2_empty wsX2_empty) := goodIn_app (goodIn_of _ (by decide +kernel)) ggX7_putAll_X2_empty
theorem dX7_putAll_0 : decode cX7_putAll 0 = .ok (.aload_n 0, 1) := by decide +kernel
theorem dX7_putAll_1 : decode cX7_putAll 1 = .ok (.getfield 33, 3) := by decide +kernel
theorem dX7_putAll_4 : decode cX7_putAll 4 = .ok (.invokevirtual 105, 3) := by decide +kernel
theorem dX7_putAll_7 : decode cX7_putAll 7 = .ok (.bipush (-6), 2) := by decide +kernel
theorem dX7_putAll_9 : decode cX7_putAll 9 = .ok (.if_icmp .eq 6, 3) := by decide +kernel
theorem dX7_putAll_12 : decode cX7_putAll 12 = .ok (.bipush (-3), 2) := by decide +kernel
theorem dX7_putAll_14 : decode cX7_putAll 14 = .ok (.ireturn, 1) := by decide +kernel
theorem dX7_putAll_15 : decode cX7_putAll 15 = .ok (.aload_n 0, 1) := by decide +kernel
theorem dX7_putAll_16 : decode cX7_putAll 16 = .ok (.getfield 19, 3) := by decide +kernel
theorem dX7_putAll_19 : decode cX7_putAll 19 = .ok (.aload_n 0, 1) := by decide +kernel
theorem dX7_putAll_20 : decode cX7_putAll 20 = .ok (.getfield 10, 3) := by decide +kernel
theorem dX7_putAll_23 : decode cX7_putAll 23 = .ok (.getfield 37, 3) := by decide +kernel
theorem dX7_putAll_26 : decode cX7_putAll 26 = .ok (.invokevirtual 41, 3) := by decide +kernel
theorem dX7_putAll_29 : decode cX7_putAll 29 = .ok (.aload_n 0, 1) := by decide +kernel
theorem dX7_putAll_30 : decode cX7_putAll 30 = .ok (.getfield 33, 3) := by decide +kernel
theorem dX7_putAll_33 : decode cX7_putAll 33 = .ok (.invokevirtual 108, 3) := by decide +kernel
theorem dX7_putAll_36 : decode cX7_putAll 36 = .ok (.istore_n 1, 1) := by decide +kernel
theorem dX7_putAll_37 : decode cX7_putAll 37 = .ok (.iconst 0, 1) := by decide +kernel
theorem dX7_putAll_38 : decode cX7_putAll 38 = .ok (.istore_n 2, 1) := by decide +kernel
theorem dX7_putAll_39 : decode cX7_putAll 39 = .ok (.iload_n 2, 1) := by decide +kernel
theorem dX7_putAll_40 : decode cX7_putAll 40 = .ok (.iload_n 1, 1) := by decide +kernel
theorem dX7_putAll_41 : decode cX7_putAll 41 = .ok (.if_icmp .ge 45, 3) := by decide +kernel
theorem dX7_putAll_44 : decode cX7_putAll 44 = .ok (.aload_n 0, 1) := by decide +kernel
theorem dX7_putAll_45 : decode cX7_putAll 45 = .ok (.getfield 10, 3) := by decide +kernel
theorem dX7_putAll_48 : decode cX7_putAll 48 = .ok (.getfield 37, 3) := by decide +kernel
theorem dX7_putAll_51 : decode cX7_putAll 51 = .ok (.aload_n 0, 1) := by decide +kernel
theorem dX7_putAll_52 : decode cX7_putAll 52 = .ok (.getfield 33, 3) := by decide +kernel
theorem dX7_putAll_55 : decode cX7_putAll 55 = .ok (.iload_n 2, 1) := by decide +kernel
theorem dX7_putAll_56 : decode cX7_putAll 56 = .ok (.invokevirtual 111, 3) := by decide +kernel
theorem dX7_putAll_59 : decode cX7_putAll 59 = .ok (.invokevirtual 64, 3) := by decide +kernel
theorem dX7_putAll_62 : decode cX7_putAll 62 = .ok (.ifCond .ne 24, 3) := by decide +kernel
theorem dX7_putAll_65 : decode cX7_putAll 65 = .ok (.aload_n 0, 1) := by decide +kernel
theorem dX7_putAll_66 : decode cX7_putAll 66 = .ok (.getfield 10, 3) := by decide +kernel
theorem dX7_putAll_69 : decode cX7_putAll 69 = .ok (.aload_n 0, 1) := by decide +kernel
theorem dX7_putAll_70 : decode cX7_putAll 70 = .ok (.getfield 33, 3) := by decide +kernel
theorem dX7_putAll_73 : decode cX7_putAll 73 = .ok (.iload_n 2, 1) := by decide +kernel
theorem dX7_putAll_74 : decode cX7_putAll 74 = .ok (.invokevirtual 111, 3) := by decide +kernel
theorem dX7_putAll_77 : decode cX7_putAll 77 = .ok (.invokevirtual 68, 3) := by decide +kernel
theorem dX7_putAll_80 : decode cX7_putAll 80 = .ok (.iinc 2 1, 3) := by decide +kernel
theorem dX7_putAll_83 : decode cX7_putAll 83 = .ok (.goto (-44), 3) := by decide +kernel
theorem dX7_putAll_86 : decode cX7_putAll 86 = .ok (.aload_n 0, 1) := by decide +kernel
theorem dX7_putAll_87 : decode cX7_putAll 87 = .ok (.getfield 33, 3) := by decide +kernel
theorem dX7_putAll_90 : decode cX7_putAll 90 = .ok (.invokevirtual 114, 3) := by decide +kernel
theorem dX7_putAll_93 : decode cX7_putAll 93 = .ok (.iload_n 2, 1) := by decide +kernel
theorem dX7_putAll_94 : decode cX7_putAll 94 = .ok (.ireturn, 1) := by decide +kernel
set_option maxRecDepth 20000 in
theorem ggX7_of_X3_isPoint : GoodIn wsX7_of wsX3_isPoint := goodIn_r _ [7, 8, 73, 74, 75, 76, 77, 78] (by decide +kernel) (by decide +kernel)
set_option maxRecDepth 20000 in
theorem gX7_of_X3_isPoint : GoodIn wsX7_of (wsV RX7 76 RX3 yX3_isPoint wsX3_isPoint) := goodIn_app (goodIn_of _ (by decide +kernel)) ggX7_of_X3_isPoint
set_option maxRecDepth 20000 in
theorem ggX7_of_X3_placeOf : GoodIn wsX7_of wsX3_placeOf := goodIn_r _ [12, 13, 14, 4, 5, 6, 7, 8, 73, 74, 75, 76, 77, 78] (by decide +kernel) (by decide +kernel)
set_option maxRecDepth 20000 in
theorem gX7_of_X3_placeOf : GoodIn wsX7_of (wsV RX7 117 RX3 yX3_placeOf wsX3_placeOf) := goodIn_app (goodIn_of _ (by decide +kernel)) ggX7_of_X3_placeOf
set_option maxRecDepth 20000 in
theorem ggX7_of_X1_leastX : GoodIn wsX7_of wsX1_leastX := goodIn_r _ [18, 19, 20, 17, 21, 22, 23, 24] (by decide +kernel) (by decide +kernel)
set_option maxRecDepth 20000 in
theorem gX7_of_X1_leastX : GoodIn wsX7_of (va_wsS RX7 120 yX1_leastX wsX1_leastX) := goodIn_app (goodIn_of _ (by decide +kernel)) ggX7_of_X1_leastX
set_option maxRecDepth 20000 in
theorem ggX7_of_X1_leastY : GoodIn wsX7_of wsX1_leastY := goodIn_r _ [27, 19, 20, 17, 21, 22, 23, 24] (by decide +kernel) (by decide +kernel)
set_option maxRecDepth 20000 in
theorem gX7_of_X1_leastY : GoodIn wsX7_of (va_wsS RX7 123 yX1_leastY wsX1_leastY) := goodIn_app (goodIn_of _ (by decide +kernel)) ggX7_of_X1_leastY
set_option maxRecDepth 20000 in
theorem ggX7_of_X5_leafWith : GoodIn wsX7_of wsX5_leafWith := goodIn_r _ [32, 33, 34, 35, 31, 36, 37, 38, 17, 39, 40, 41, 42, 43, 44, 45, 46, 47, 48, 49, 50, 51, 52, 53, 54, 6, 55, 56, 57, 58, 59, 60, 61, 71, 72, 73, 74, 75, 76, 77, 78] (by decide +kernel) (by decide +kernel)
set_option maxRecDepth 20000 in
theorem gX7_of_X5_leafWith : GoodIn wsX7_of (wsV RX7 126 RX5 yX5_leafWith wsX5_leafWith) := goodIn_app (goodIn_of _ (by decide +kernel)) ggX7_of_X5_leafWith
set_option maxRecDepth 20000 in
theorem ggX7_of_X3_pointsBefore : GoodIn wsX7_of wsX3_pointsBefore := goodIn_r _ [65, 8, 66, 10, 11, 6, 12, 13, 14, 4, 5, 7, 73, 74, 75, 76, 77, 78] (by decide +kernel) (by decide +kernel)
set_option maxRecDepth 20000 in
theorem gX7_of_X3_pointsBefore : GoodIn wsX7_of (wsV RX7 129 RX3 yX3_pointsBefore wsX3_pointsBefore) := goodIn_app (goodIn_of _ (by decide +kernel)) ggX7_of_X3_pointsBefore
theorem dX7_of_0 : decode cX7_of 0 = .ok (.aload_n 0, 1) := by decide +kernel
theorem dX7_of_1 : decode cX7_of 1 = .ok (.getfield 10, 3) := by decide +kernel
theorem dX7_of_4 : decode cX7_of 4 = .ok (.getfield 37, 3) := by decide +kernel
theorem dX7_of_7 : decode cX7_of 7 = .ok (.astore_n 3, 1) := by decide +kernel
theorem dX7_of_8 : decode cX7_of 8 = .ok (.aload_n 3, 1) := by decide +kernel
theorem dX7_of_9 : decode cX7_of 9 = .ok (.iload_n 1, 1) := by decide +kernel
theorem dX7_of_10 : decode cX7_of 10 = .ok (.invokevirtual 76, 3) := by decide +kernel
theorem dX7_of_13 : decode cX7_of 13 = .ok (.ifCond .ne 5, 3) := by decide +kernel
theorem dX7_of_16 : decode cX7_of 16 = .ok (.iconst (-1), 1) := by decide +kernel
theorem dX7_of_17 : decode cX7_of 17 = .ok (.ireturn, 1) := by decide +kernel
theorem dX7_of_18 : decode cX7_of 18 = .ok (.aload_n 3, 1) := by decide +kernel
theorem dX7_of_19 : decode cX7_of 19 = .ok (.iload_n 1, 1) := by decide +kernel
theorem dX7_of_20 : decode cX7_of 20 = .ok (.invokevirtual 117, 3) := by decide +kernel
theorem dX7_of_23 : decode cX7_of 23 = .ok (.istore 4, 2) := by decide +kernel
theorem dX7_of_25 : decode cX7_of 25 = .ok (.iload_n 2, 1) := by decide +kernel
theorem dX7_of_26 : decode cX7_of 26 = .ok (.tableswitch 63 0 3 #[30, 38, 46, 56], 30) := by decide +kernel
theorem dX7_of_56 : decode cX7_of 56 = .ok (.iload 4, 2) := by decide +kernel
theorem dX7_of_58 : decode cX7_of 58 = .ok (.bipush 6, 2) := by decide +kernel
theorem dX7_of_60 : decode cX7_of 60 = .ok (.invokestatic 120, 3) := by decide +kernel
theorem dX7_of_63 : decode cX7_of 63 = .ok (.ireturn, 1) := by decide +kernel
theorem dX7_of_64 : decode cX7_of 64 = .ok (.iload 4, 2) := by decide +kernel
theorem dX7_of_66 : decode cX7_of 66 = .ok (.bipush 6, 2) := by decide +kernel
theorem dX7_of_68 : decode cX7_of 68 = .ok (.invokestatic 123, 3) := by decide +kernel
theorem dX7_of_71 : decode cX7_of 71 = .ok (.ireturn, 1) := by decide +kernel
theorem dX7_of_72 : decode cX7_of 72 = .ok (.aload_n 0, 1) := by decide +kernel
theorem dX7_of_73 : decode cX7_of 73 = .ok (.getfield 10, 3) := by decide +kernel
theorem dX7_of_76 : decode cX7_of 76 = .ok (.iload 4, 2) := by decide +kernel
theorem dX7_of_78 : decode cX7_of 78 = .ok (.invokevirtual 126, 3) := by decide +kernel
theorem dX7_of_81 : decode cX7_of 81 = .ok (.ireturn, 1) := by decide +kernel
theorem dX7_of_82 : decode cX7_of 82 = .ok (.aload_n 3, 1) := by decide +kernel
theorem dX7_of_83 : decode cX7_of 83 = .ok (.iload 4, 2) := by decide +kernel
theorem dX7_of_85 : decode cX7_of 85 = .ok (.invokevirtual 129, 3) := by decide +kernel
theorem dX7_of_88 : decode cX7_of 88 = .ok (.ireturn, 1) := by decide +kernel
theorem dX7_of_89 : decode cX7_of 89 = .ok (.bipush (-2), 2) := by decide +kernel
theorem dX7_of_91 : decode cX7_of 91 = .ok (.ireturn, 1) := by decide +kernel
set_option maxRecDepth 20000 in
theorem ggX7_leafAt_X1_isPlace : GoodIn wsX7_leafAt wsX1_isPlace := goodIn_r _ [5] (by decide +kernel) (by decide +kernel)
set_option maxRecDepth 20000 in
theorem gX7_leafAt_X1_isPlace : GoodIn wsX7_leafAt (va_wsS RX7 54 yX1_isPlace wsX1_isPlace) := goodIn_app (goodIn_of _ (by decide +kernel)) ggX7_leafAt_X1_isPlace
set_option maxRecDepth 20000 in
theorem ggX7_leafAt_X1_placeAt : GoodIn wsX7_leafAt wsX1_placeAt := goodIn_r _ [8] (by decide +kernel) (by decide +kernel)
set_option maxRecDepth 20000 in
theorem gX7_leafAt_X1_placeAt : GoodIn wsX7_leafAt (va_wsS RX7 60 yX1_placeAt wsX1_placeAt) := goodIn_app (goodIn_of _ (by decide +kernel)) ggX7_leafAt_X1_placeAt
set_option maxRecDepth 20000 in
theorem ggX7_leafAt_X5_leafWith : GoodIn wsX7_leafAt wsX5_leafWith := goodIn_r _ [13, 14, 15, 16, 12, 17, 18, 19, 4, 20, 21, 22, 23, 24, 25, 26, 27, 28, 29, 30, 31, 32, 33, 34, 35, 36, 37, 38, 39, 40, 41, 42, 43, 48, 49, 50, 51, 52, 53, 54, 55] (by decide +kernel) (by decide +kernel)
set_option maxRecDepth 20000 in
theorem gX7_leafAt_X5_leafWith : GoodIn wsX7_leafAt (wsV RX7 126 RX5 yX5_leafWith wsX5_leafWith) := goodIn_app (goodIn_of _ (by decide +kernel)) ggX7_leafAt_X5_leafWith
theorem dX7_leafAt_0 : decode cX7_leafAt 0 = .ok (.iload_n 1, 1) := by decide +kernel
theorem dX7_leafAt_1 : decode cX7_leafAt 1 = .ok (.iload_n 2, 1) := by decide +kernel
theorem dX7_leafAt_2 : decode cX7_leafAt 2 = .ok (.invokestatic 54, 3) := by decide +kernel
theorem dX7_leafAt_5 : decode cX7_leafAt 5 = .ok (.ifCond .ne 5, 3) := by decide +kernel
theorem dX7_leafAt_8 : decode cX7_leafAt 8 = .ok (.iconst (-1), 1) := by decide +kernel
theorem dX7_leafAt_9 : decode cX7_leafAt 9 = .ok (.ireturn, 1) := by decide +kernel
theorem dX7_leafAt_10 : decode cX7_leafAt 10 = .ok (.aload_n 0, 1) := by decide +kernel
theorem dX7_leafAt_11 : decode cX7_leafAt 11 = .ok (.getfield 10, 3) := by decide +kernel
theorem dX7_leafAt_14 : decode cX7_leafAt 14 = .ok (.iload_n 1, 1) := by decide +kernel
theorem dX7_leafAt_15 : decode cX7_leafAt 15 = .ok (.iload_n 2, 1) := by decide +kernel
theorem dX7_leafAt_16 : decode cX7_leafAt 16 = .ok (.invokestatic 60, 3) := by decide +kernel
theorem dX7_leafAt_19 : decode cX7_leafAt 19 = .ok (.invokevirtual 126, 3) := by decide +kernel
theorem dX7_leafAt_22 : decode cX7_leafAt 22 = .ok (.ireturn, 1) := by decide +kernel
set_option maxRecDepth 20000 in
theorem ggX7_tile_X1_depthOf : GoodIn wsX7_tile wsX1_depthOf := goodIn_r _ [6] (by decide +kernel) (by decide +kernel)
set_option maxRecDepth 20000 in
theorem gX7_tile_X1_depthOf : GoodIn wsX7_tile (va_wsS RX7 90 yX1_depthOf wsX1_depthOf) := goodIn_app (goodIn_of _ (by decide +kernel)) ggX7_tile_X1_depthOf
set_option maxRecDepth 20000 in
theorem ggX7_tile_X1_leastX : GoodIn wsX7_tile wsX1_leastX := goodIn_r _ [9, 10, 11, 5, 12, 13, 14, 15] (by decide +kernel) (by decide +kernel)
set_option maxRecDepth 20000 in
theorem gX7_tile_X1_leastX : GoodIn wsX7_tile (va_wsS RX7 120 yX1_leastX wsX1_leastX) := goodIn_app (goodIn_of _ (by decide +kernel)) ggX7_tile_X1_leastX
set_option maxRecDepth 20000 in
theorem ggX7_tile_X1_leastY : GoodIn wsX7_tile wsX1_leastY := goodIn_r _ [18, 10, 11, 5, 12, 13, 14, 15] (by decide +kernel) (by decide +kernel)
set_option maxRecDepth 20000 in
theorem gX7_tile_X1_leastY : GoodIn wsX7_tile (va_wsS RX7 123 yX1_leastY wsX1_leastY) := goodIn_app (goodIn_of _ (by decide +kernel)) ggX7_tile_X1_leastY
set_option maxRecDepth 20000 in
theorem ggX7_tile_X1_sizeAt : GoodIn wsX7_tile wsX1_sizeAt := goodIn_r _ [21] (by decide +kernel) (by decide +kernel)
set_option maxRecDepth 20000 in
theorem gX7_tile_X1_sizeAt : GoodIn wsX7_tile (va_wsS RX7 132 yX1_sizeAt wsX1_sizeAt) := goodIn_app (goodIn_of _ (by decide +kernel)) ggX7_tile_X1_sizeAt
set_option maxRecDepth 20000 in
theorem ggX7_tile_X5_pointsIn : GoodIn wsX7_tile wsX5_pointsIn := goodIn_r _ [26, 27, 67, 68] (by decide +kernel) (by decide +kernel)
set_option maxRecDepth 20000 in
theorem gX7_tile_X5_pointsIn : GoodIn wsX7_tile (wsV RX7 135 RX5 yX5_pointsIn wsX5_pointsIn) := goodIn_app (goodIn_of _ (by decide +kernel)) ggX7_tile_X5_pointsIn
set_option maxRecDepth 20000 in
theorem ggX7_tile_X5_kindOf : GoodIn wsX7_tile wsX5_kindOf := goodIn_r _ [31, 32, 33, 34, 25, 35, 36, 37, 5, 38, 39, 40, 41, 42, 43, 44, 45, 46, 23, 24, 26, 27, 47, 48, 49, 50, 51, 52, 53, 54, 55, 56, 57, 67, 68, 69, 70, 71, 72, 73, 74] (by decide +kernel) (by decide +kernel)
set_option maxRecDepth 20000 in
theorem gX7_tile_X5_kindOf : GoodIn wsX7_tile (wsV RX7 138 RX5 yX5_kindOf wsX5_kindOf) := goodIn_app (goodIn_of _ (by decide +kernel)) ggX7_tile_X5_kindOf
set_option maxRecDepth 20000 in
theorem ggX7_tile_X3_isOrdered : GoodIn wsX7_tile wsX3_isOrdered := goodIn_r _ [51, 52, 53, 54, 50, 55, 56, 57, 69, 70, 71, 72, 73, 74] (by decide +kernel) (by decide +kernel)
set_option maxRecDepth 20000 in
theorem gX7_tile_X3_isOrdered : GoodIn wsX7_tile (wsV RX7 93 RX3 yX3_isOrdered wsX3_isOrdered) := goodIn_app (goodIn_of _ (by decide +kernel)) ggX7_tile_X3_isOrdered
set_option maxRecDepth 20000 in
theorem ggX7_tile_X5_isThere : GoodIn wsX7_tile wsX5_isThere := goodIn_r _ [35, 36, 37, 5, 38, 39, 40, 41, 25, 42, 43, 44, 45, 46, 23, 24, 26, 27, 47, 48, 49, 50, 51, 52, 53, 54, 55, 56, 57, 67, 68, 69, 70, 71, 72, 73, 74] (by decide +kernel) (by decide +kernel)
set_option maxRecDepth 20000 in
theorem gX7_tile_X5_isThere : GoodIn wsX7_tile (wsV RX7 141 RX5 yX5_isThere wsX5_isThere) := goodIn_app (goodIn_of _ (by decide +kernel)) ggX7_tile_X5_isThere
set_option maxRecDepth 20000 in
theorem ggX7_tile_X5_leavesIn : GoodIn wsX7_tile wsX5_leavesIn := goodIn_r _ [61, 39, 40, 41, 25, 42, 43, 44, 45, 46, 23, 24, 26, 27, 47, 48, 49, 50, 51, 52, 53, 54, 55, 56, 57, 62, 60, 67, 68, 69, 70, 71, 72, 73, 74] (by decide +kernel) (by decide +kernel)
set_option maxRecDepth 20000 in
theorem gX7_tile_X5_leavesIn_n144 : GoodIn wsX7_tile (wsX5_leavesIn) := ggX7_tile_X5_leavesIn
theorem dX7_tile_0 : decode cX7_tile 0 = .ok (.iload_n 1, 1) := by decide +kernel
theorem dX7_tile_1 : decode cX7_tile 1 = .ok (.invokestatic 90, 3) := by decide +kernel
theorem dX7_tile_4 : decode cX7_tile 4 = .ok (.istore_n 3, 1) := by decide +kernel
theorem dX7_tile_5 : decode cX7_tile 5 = .ok (.iload_n 3, 1) := by decide +kernel
theorem dX7_tile_6 : decode cX7_tile 6 = .ok (.bipush (-6), 2) := by decide +kernel
theorem dX7_tile_8 : decode cX7_tile 8 = .ok (.if_icmp .ne 5, 3) := by decide +kernel
theorem dX7_tile_11 : decode cX7_tile 11 = .ok (.iconst (-1), 1) := by decide +kernel
theorem dX7_tile_12 : decode cX7_tile 12 = .ok (.ireturn, 1) := by decide +kernel
theorem dX7_tile_13 : decode cX7_tile 13 = .ok (.iload_n 2, 1) := by decide +kernel
theorem dX7_tile_14 : decode cX7_tile 14 = .ok (.tableswitch 130 0 7 #[46, 52, 58, 63, 65, 74, 84, 104], 46) := by decide +kernel
theorem dX7_tile_60 : decode cX7_tile 60 = .ok (.iload_n 1, 1) := by decide +kernel
theorem dX7_tile_61 : decode cX7_tile 61 = .ok (.iload_n 3, 1) := by decide +kernel
theorem dX7_tile_62 : decode cX7_tile 62 = .ok (.invokestatic 120, 3) := by decide +kernel
theorem dX7_tile_65 : decode cX7_tile 65 = .ok (.ireturn, 1) := by decide +kernel
theorem dX7_tile_66 : decode cX7_tile 66 = .ok (.iload_n 1, 1) := by decide +kernel
theorem dX7_tile_67 : decode cX7_tile 67 = .ok (.iload_n 3, 1) := by decide +kernel
theorem dX7_tile_68 : decode cX7_tile 68 = .ok (.invokestatic 123, 3) := by decide +kernel
theorem dX7_tile_71 : decode cX7_tile 71 = .ok (.ireturn, 1) := by decide +kernel
theorem dX7_tile_72 : decode cX7_tile 72 = .ok (.iload_n 3, 1) := by decide +kernel
theorem dX7_tile_73 : decode cX7_tile 73 = .ok (.invokestatic 132, 3) := by decide +kernel
theorem dX7_tile_76 : decode cX7_tile 76 = .ok (.ireturn, 1) := by decide +kernel
theorem dX7_tile_77 : decode cX7_tile 77 = .ok (.iload_n 3, 1) := by decide +kernel
theorem dX7_tile_78 : decode cX7_tile 78 = .ok (.ireturn, 1) := by decide +kernel
theorem dX7_tile_79 : decode cX7_tile 79 = .ok (.aload_n 0, 1) := by decide +kernel
theorem dX7_tile_80 : decode cX7_tile 80 = .ok (.getfield 10, 3) := by decide +kernel
theorem dX7_tile_83 : decode cX7_tile 83 = .ok (.iload_n 1, 1) := by decide +kernel
theorem dX7_tile_84 : decode cX7_tile 84 = .ok (.invokevirtual 135, 3) := by decide +kernel
theorem dX7_tile_87 : decode cX7_tile 87 = .ok (.ireturn, 1) := by decide +kernel
theorem dX7_tile_88 : decode cX7_tile 88 = .ok (.aload_n 0, 1) := by decide +kernel
theorem dX7_tile_89 : decode cX7_tile 89 = .ok (.getfield 10, 3) := by decide +kernel
theorem dX7_tile_92 : decode cX7_tile 92 = .ok (.iload_n 1, 1) := by decide +kernel
theorem dX7_tile_93 : decode cX7_tile 93 = .ok (.iload_n 3, 1) := by decide +kernel
theorem dX7_tile_94 : decode cX7_tile 94 = .ok (.invokevirtual 138, 3) := by decide +kernel
theorem dX7_tile_97 : decode cX7_tile 97 = .ok (.ireturn, 1) := by decide +kernel
theorem dX7_tile_98 : decode cX7_tile 98 = .ok (.aload_n 0, 1) := by decide +kernel
theorem dX7_tile_99 : decode cX7_tile 99 = .ok (.getfield 10, 3) := by decide +kernel
theorem dX7_tile_102 : decode cX7_tile 102 = .ok (.getfield 37, 3) := by decide +kernel
theorem dX7_tile_105 : decode cX7_tile 105 = .ok (.iload_n 1, 1) := by decide +kernel
theorem dX7_tile_106 : decode cX7_tile 106 = .ok (.invokevirtual 93, 3) := by decide +kernel
theorem dX7_tile_109 : decode cX7_tile 109 = .ok (.ifCond .eq 7, 3) := by decide +kernel
theorem dX7_tile_112 : decode cX7_tile 112 = .ok (.iconst 1, 1) := by decide +kernel
theorem dX7_tile_113 : decode cX7_tile 113 = .ok (.goto 4, 3) := by decide +kernel
theorem dX7_tile_116 : decode cX7_tile 116 = .ok (.iconst 0, 1) := by decide +kernel
theorem dX7_tile_117 : decode cX7_tile 117 = .ok (.ireturn, 1) := by decide +kernel
theorem dX7_tile_118 : decode cX7_tile 118 = .ok (.aload_n 0, 1) := by decide +kernel
theorem dX7_tile_119 : decode cX7_tile 119 = .ok (.getfield 10, 3) := by decide +kernel
theorem dX7_tile_122 : decode cX7_tile 122 = .ok (.iload_n 1, 1) := by decide +kernel
theorem dX7_tile_123 : decode cX7_tile 123 = .ok (.iload_n 3, 1) := by decide +kernel
theorem dX7_tile_124 : decode cX7_tile 124 = .ok (.invokevirtual 141, 3) := by decide +kernel
theorem dX7_tile_127 : decode cX7_tile 127 = .ok (.ifCond .eq 15, 3) := by decide +kernel
theorem dX7_tile_130 : decode cX7_tile 130 = .ok (.aload_n 0, 1) := by decide +kernel
theorem dX7_tile_131 : decode cX7_tile 131 = .ok (.getfield 10, 3) := by decide +kernel
theorem dX7_tile_134 : decode cX7_tile 134 = .ok (.iload_n 1, 1) := by decide +kernel
theorem dX7_tile_135 : decode cX7_tile 135 = .ok (.iload_n 3, 1) := by decide +kernel
theorem dX7_tile_136 : decode cX7_tile 136 = .ok (.invokestatic 144, 3) := by decide +kernel
theorem dX7_tile_139 : decode cX7_tile 139 = .ok (.goto 4, 3) := by decide +kernel
theorem dX7_tile_142 : decode cX7_tile 142 = .ok (.iconst 0, 1) := by decide +kernel
theorem dX7_tile_143 : decode cX7_tile 143 = .ok (.ireturn, 1) := by decide +kernel
theorem dX7_tile_144 : decode cX7_tile 144 = .ok (.bipush (-2), 2) := by decide +kernel
theorem dX7_tile_146 : decode cX7_tile 146 = .ok (.ireturn, 1) := by decide +kernel
set_option maxRecDepth 20000 in
theorem ggX7_letter_X1_depthOf : GoodIn wsX7_letter wsX1_depthOf := goodIn_r _ [4] (by decide +kernel) (by decide +kernel)
set_option maxRecDepth 20000 in
theorem gX7_letter_X1_depthOf : GoodIn wsX7_letter (va_wsS RX7 90 yX1_depthOf wsX1_depthOf) := goodIn_app (goodIn_of _ (by decide +kernel)) ggX7_letter_X1_depthOf
set_option maxRecDepth 20000 in
theorem ggX7_letter_X1_upTo : GoodIn wsX7_letter wsX1_upTo := goodIn_r _ [7] (by decide +kernel) (by decide +kernel)
set_option maxRecDepth 20000 in
theorem gX7_letter_X1_upTo : GoodIn wsX7_letter (va_wsS RX7 148 yX1_upTo wsX1_upTo) := goodIn_app (goodIn_of _ (by decide +kernel)) ggX7_letter_X1_upTo
theorem dX7_letter_0 : decode cX7_letter 0 = .ok (.iload_n 1, 1) := by decide +kernel
theorem dX7_letter_1 : decode cX7_letter 1 = .ok (.invokestatic 90, 3) := by decide +kernel
theorem dX7_letter_4 : decode cX7_letter 4 = .ok (.istore_n 3, 1) := by decide +kernel
theorem dX7_letter_5 : decode cX7_letter 5 = .ok (.iload_n 3, 1) := by decide +kernel
theorem dX7_letter_6 : decode cX7_letter 6 = .ok (.bipush (-6), 2) := by decide +kernel
theorem dX7_letter_8 : decode cX7_letter 8 = .ok (.if_icmp .eq 12, 3) := by decide +kernel
theorem dX7_letter_11 : decode cX7_letter 11 = .ok (.iload_n 2, 1) := by decide +kernel
theorem dX7_letter_12 : decode cX7_letter 12 = .ok (.ifCond .lt 8, 3) := by decide +kernel
theorem dX7_letter_15 : decode cX7_letter 15 = .ok (.iload_n 2, 1) := by decide +kernel
theorem dX7_letter_16 : decode cX7_letter 16 = .ok (.iload_n 3, 1) := by decide +kernel
theorem dX7_letter_17 : decode cX7_letter 17 = .ok (.if_icmp .lt 5, 3) := by decide +kernel
theorem dX7_letter_20 : decode cX7_letter 20 = .ok (.iconst (-1), 1) := by decide +kernel
theorem dX7_letter_21 : decode cX7_letter 21 = .ok (.ireturn, 1) := by decide +kernel
theorem dX7_letter_22 : decode cX7_letter 22 = .ok (.iload_n 1, 1) := by decide +kernel
theorem dX7_letter_23 : decode cX7_letter 23 = .ok (.iload_n 3, 1) := by decide +kernel
theorem dX7_letter_24 : decode cX7_letter 24 = .ok (.iload_n 2, 1) := by decide +kernel
theorem dX7_letter_25 : decode cX7_letter 25 = .ok (.iconst 1, 1) := by decide +kernel
theorem dX7_letter_26 : decode cX7_letter 26 = .ok (.iadd, 1) := by decide +kernel
theorem dX7_letter_27 : decode cX7_letter 27 = .ok (.invokestatic 148, 3) := by decide +kernel
theorem dX7_letter_30 : decode cX7_letter 30 = .ok (.iconst 4, 1) := by decide +kernel
theorem dX7_letter_31 : decode cX7_letter 31 = .ok (.irem, 1) := by decide +kernel
theorem dX7_letter_32 : decode cX7_letter 32 = .ok (.ireturn, 1) := by decide +kernel
set_option maxRecDepth 20000 in
theorem ggX7_beside_X1_depthOf : GoodIn wsX7_beside wsX1_depthOf := goodIn_r _ [5] (by decide +kernel) (by decide +kernel)
set_option maxRecDepth 20000 in
theorem gX7_beside_X1_depthOf : GoodIn wsX7_beside (va_wsS RX7 90 yX1_depthOf wsX1_depthOf) := goodIn_app (goodIn_of _ (by decide +kernel)) ggX7_beside_X1_depthOf
set_option maxRecDepth 20000 in
theorem ggX7_beside_X1_nextTo : GoodIn wsX7_beside wsX1_nextTo := goodIn_r _ [8, 9, 10, 11, 12, 4, 13, 14, 15, 16, 17, 18, 19, 20, 21, 22, 23, 24, 25, 26, 27, 28, 29, 30, 31, 32, 33, 34] (by decide +kernel) (by decide +kernel)
set_option maxRecDepth 20000 in
theorem gX7_beside_X1_nextTo : GoodIn wsX7_beside (va_wsS RX7 152 yX1_nextTo wsX1_nextTo) := goodIn_app (goodIn_of _ (by decide +kernel)) ggX7_beside_X1_nextTo
set_option maxRecDepth 20000 in
theorem ggX7_beside_X5_smallestAround : GoodIn wsX7_beside wsX5_smallestAround := goodIn_r _ [39, 40, 41, 42, 43, 44, 18, 4, 19, 45, 46, 47, 38, 48, 49, 33, 34, 50, 51, 52, 53, 54, 55, 56, 57, 58, 59, 60, 61, 62, 63, 64, 65, 66, 67, 68, 69, 70, 71, 72, 77, 78, 79, 80, 81, 82, 83, 84] (by decide +kernel) (by decide +kernel)
set_option maxRecDepth 20000 in
theorem gX7_beside_X5_smallestAround : GoodIn wsX7_beside (wsV RX7 155 RX5 yX5_smallestAround wsX5_smallestAround) := goodIn_app (goodIn_of _ (by decide +kernel)) ggX7_beside_X5_smallestAround
theorem dX7_beside_0 : decode cX7_beside 0 = .ok (.iload_n 1, 1) := by decide +kernel
theorem dX7_beside_1 : decode cX7_beside 1 = .ok (.invokestatic 90, 3) := by decide +kernel
theorem dX7_beside_4 : decode cX7_beside 4 = .ok (.istore 4, 2) := by decide +kernel
theorem dX7_beside_6 : decode cX7_beside 6 = .ok (.iload 4, 2) := by decide +kernel
theorem dX7_beside_8 : decode cX7_beside 8 = .ok (.bipush (-6), 2) := by decide +kernel
theorem dX7_beside_10 : decode cX7_beside 10 = .ok (.if_icmp .ne 5, 3) := by decide +kernel
theorem dX7_beside_13 : decode cX7_beside 13 = .ok (.iconst (-1), 1) := by decide +kernel
theorem dX7_beside_14 : decode cX7_beside 14 = .ok (.ireturn, 1) := by decide +kernel
theorem dX7_beside_15 : decode cX7_beside 15 = .ok (.iload_n 2, 1) := by decide +kernel
theorem dX7_beside_16 : decode cX7_beside 16 = .ok (.ifCond .lt 18, 3) := by decide +kernel
theorem dX7_beside_19 : decode cX7_beside 19 = .ok (.iload_n 2, 1) := by decide +kernel
theorem dX7_beside_20 : decode cX7_beside 20 = .ok (.bipush 8, 2) := by decide +kernel
theorem dX7_beside_22 : decode cX7_beside 22 = .ok (.if_icmp .ge 12, 3) := by decide +kernel
theorem dX7_beside_25 : decode cX7_beside 25 = .ok (.iload_n 3, 1) := by decide +kernel
theorem dX7_beside_26 : decode cX7_beside 26 = .ok (.ifCond .lt 8, 3) := by decide +kernel
theorem dX7_beside_29 : decode cX7_beside 29 = .ok (.iload_n 3, 1) := by decide +kernel
theorem dX7_beside_30 : decode cX7_beside 30 = .ok (.iconst 1, 1) := by decide +kernel
theorem dX7_beside_31 : decode cX7_beside 31 = .ok (.if_icmp .le 6, 3) := by decide +kernel
theorem dX7_beside_34 : decode cX7_beside 34 = .ok (.bipush (-2), 2) := by decide +kernel
theorem dX7_beside_36 : decode cX7_beside 36 = .ok (.ireturn, 1) := by decide +kernel
theorem dX7_beside_37 : decode cX7_beside 37 = .ok (.iload_n 1, 1) := by decide +kernel
theorem dX7_beside_38 : decode cX7_beside 38 = .ok (.iload 4, 2) := by decide +kernel
theorem dX7_beside_40 : decode cX7_beside 40 = .ok (.iload_n 2, 1) := by decide +kernel
theorem dX7_beside_41 : decode cX7_beside 41 = .ok (.invokestatic 152, 3) := by decide +kernel
theorem dX7_beside_44 : decode cX7_beside 44 = .ok (.istore 5, 2) := by decide +kernel
theorem dX7_beside_46 : decode cX7_beside 46 = .ok (.iload 5, 2) := by decide +kernel
theorem dX7_beside_48 : decode cX7_beside 48 = .ok (.bipush (-6), 2) := by decide +kernel
theorem dX7_beside_50 : decode cX7_beside 50 = .ok (.if_icmp .eq 7, 3) := by decide +kernel
theorem dX7_beside_53 : decode cX7_beside 53 = .ok (.iload_n 3, 1) := by decide +kernel
theorem dX7_beside_54 : decode cX7_beside 54 = .ok (.ifCond .ne 6, 3) := by decide +kernel
theorem dX7_beside_57 : decode cX7_beside 57 = .ok (.iload 5, 2) := by decide +kernel
theorem dX7_beside_59 : decode cX7_beside 59 = .ok (.ireturn, 1) := by decide +kernel
theorem dX7_beside_60 : decode cX7_beside 60 = .ok (.aload_n 0, 1) := by decide +kernel
theorem dX7_beside_61 : decode cX7_beside 61 = .ok (.getfield 10, 3) := by decide +kernel
theorem dX7_beside_64 : decode cX7_beside 64 = .ok (.iload 5, 2) := by decide +kernel
theorem dX7_beside_66 : decode cX7_beside 66 = .ok (.iload 4, 2) := by decide +kernel
theorem dX7_beside_68 : decode cX7_beside 68 = .ok (.invokevirtual 155, 3) := by decide +kernel
theorem dX7_beside_71 : decode cX7_beside 71 = .ok (.ireturn, 1) := by decide +kernel
set_option maxRecDepth 20000 in
theorem ggX7_neighbours_X1_depthOf : GoodIn wsX7_neighbours wsX1_depthOf := goodIn_r _ [5] (by decide +kernel) (by decide +kernel)
set_option maxRecDepth 20000 in
theorem gX7_neighbours_X1_depthOf : GoodIn wsX7_neighbours (va_wsS RX7 90 yX1_depthOf wsX1_depthOf) := goodIn_app (goodIn_of _ (by decide +kernel)) ggX7_neighbours_X1_depthOf
set_option maxRecDepth 20000 in
theorem ggX7_neighbours_X5_kindOf : GoodIn wsX7_neighbours wsX5_kindOf := goodIn_r _ [10, 11, 12, 13, 9, 14, 15, 16, 4, 17, 18, 19, 20, 21, 22, 23, 24, 25, 26, 27, 28, 29, 30, 31, 32, 33, 34, 35, 36, 37, 38, 39, 40, 81, 82, 83, 84, 85, 86, 87, 88] (by decide +kernel) (by decide +kernel)
set_option maxRecDepth 20000 in
theorem gX7_neighbours_X5_kindOf : GoodIn wsX7_neighbours (wsV RX7 138 RX5 yX5_kindOf wsX5_kindOf) := goodIn_app (goodIn_of _ (by decide +kernel)) ggX7_neighbours_X5_kindOf
set_option maxRecDepth 20000 in
theorem ggX7_neighbours_X5_neighboursOf : GoodIn wsX7_neighbours wsX5_neighboursOf := goodIn_r _ [44, 45, 46, 4, 47, 48, 49, 50, 51, 52, 53, 54, 55, 56, 57, 58, 59, 60, 61, 62, 63, 64, 65, 66, 67, 68, 69, 70, 71, 16, 17, 11, 12, 13, 9, 14, 15, 18, 19, 20, 21, 22, 23, 24, 25, 26, 27, 28, 29, 30, 31, 32, 33, 34, 35, 36, 37, 38, 39, 40, 72, 73, 74, 75, 76, 81, 82, 83, 84, 85, 86, 87, 88] (by decide +kernel) (by decide +kernel)
set_option maxRecDepth 20000 in
theorem gX7_neighbours_X5_neighboursOf : GoodIn wsX7_neighbours (wsV RX7 158 RX5 yX5_neighboursOf wsX5_neighboursOf) := goodIn_app (goodIn_of _ (by decide +kernel)) ggX7_neighbours_X5_neighboursOf
theorem dX7_neighbours_0 : decode cX7_neighbours 0 = .ok (.iload_n 1, 1) := by decide +kernel
theorem dX7_neighbours_1 : decode cX7_neighbours 1 = .ok (.invokestatic 90, 3) := by decide +kernel
theorem dX7_neighbours_4 : decode cX7_neighbours 4 = .ok (.istore_n 2, 1) := by decide +kernel
theorem dX7_neighbours_5 : decode cX7_neighbours 5 = .ok (.iload_n 2, 1) := by decide +kernel
theorem dX7_neighbours_6 : decode cX7_neighbours 6 = .ok (.bipush (-6), 2) := by decide +kernel
theorem dX7_neighbours_8 : decode cX7_neighbours 8 = .ok (.if_icmp .ne 5, 3) := by decide +kernel
theorem dX7_neighbours_11 : decode cX7_neighbours 11 = .ok (.iconst (-1), 1) := by decide +kernel
theorem dX7_neighbours_12 : decode cX7_neighbours 12 = .ok (.ireturn, 1) := by decide +kernel
theorem dX7_neighbours_13 : decode cX7_neighbours 13 = .ok (.aload_n 0, 1) := by decide +kernel
theorem dX7_neighbours_14 : decode cX7_neighbours 14 = .ok (.getfield 10, 3) := by decide +kernel
theorem dX7_neighbours_17 : decode cX7_neighbours 17 = .ok (.iload_n 1, 1) := by decide +kernel
theorem dX7_neighbours_18 : decode cX7_neighbours 18 = .ok (.iload_n 2, 1) := by decide +kernel
theorem dX7_neighbours_19 : decode cX7_neighbours 19 = .ok (.invokevirtual 138, 3) := by decide +kernel
theorem dX7_neighbours_22 : decode cX7_neighbours 22 = .ok (.iconst 1, 1) := by decide +kernel
theorem dX7_neighbours_23 : decode cX7_neighbours 23 = .ok (.if_icmp .eq 6, 3) := by decide +kernel
theorem dX7_neighbours_26 : decode cX7_neighbours 26 = .ok (.bipush (-5), 2) := by decide +kernel
theorem dX7_neighbours_28 : decode cX7_neighbours 28 = .ok (.ireturn, 1) := by decide +kernel
theorem dX7_neighbours_29 : decode cX7_neighbours 29 = .ok (.aload_n 0, 1) := by decide +kernel
theorem dX7_neighbours_30 : decode cX7_neighbours 30 = .ok (.getfield 10, 3) := by decide +kernel
theorem dX7_neighbours_33 : decode cX7_neighbours 33 = .ok (.iload_n 1, 1) := by decide +kernel
theorem dX7_neighbours_34 : decode cX7_neighbours 34 = .ok (.iload_n 2, 1) := by decide +kernel
theorem dX7_neighbours_35 : decode cX7_neighbours 35 = .ok (.invokevirtual 158, 3) := by decide +kernel
theorem dX7_neighbours_38 : decode cX7_neighbours 38 = .ok (.ireturn, 1) := by decide +kernel
set_option maxRecDepth 20000 in
theorem ggX7_count_X5_leaves : GoodIn wsX7_count wsX5_leaves := goodIn_r _ [15, 16, 17, 14, 18, 19, 20, 21, 22, 23, 24, 25, 26, 27, 28, 29, 30, 31, 32, 33, 34, 35, 36, 37, 38, 39, 40, 41, 104, 105, 106, 107, 108, 109, 110, 111] (by decide +kernel) (by decide +kernel)
set_option maxRecDepth 20000 in
theorem gX7_count_X5_leaves : GoodIn wsX7_count (wsV RX7 72 RX5 yX5_leaves wsX5_leaves) := goodIn_app (goodIn_of _ (by decide +kernel)) ggX7_count_X5_leaves
set_option maxRecDepth 20000 in
theorem ggX7_count_X5_tiles : GoodIn wsX7_count wsX5_tiles := goodIn_r _ [45, 46, 12, 13, 14, 15, 16, 17, 18, 19, 20, 21, 22, 23, 24, 25, 26, 27, 28, 29, 30, 31, 32, 33, 34, 35, 36, 37, 38, 39, 40, 41, 104, 105, 106, 107, 108, 109, 110, 111] (by decide +kernel) (by decide +kernel)
set_option maxRecDepth 20000 in
theorem gX7_count_X5_tiles : GoodIn wsX7_count (wsV RX7 164 RX5 yX5_tiles wsX5_tiles) := goodIn_app (goodIn_of _ (by decide +kernel)) ggX7_count_X5_tiles
set_option maxRecDepth 20000 in
theorem ggX7_count_X5_deepestIn : GoodIn wsX7_count wsX5_deepestIn := goodIn_r _ [48, 49, 50, 51, 52, 19, 20, 21, 14, 22, 23, 24, 25, 26, 27, 28, 29, 30, 31, 32, 33, 34, 35, 36, 37, 38, 39, 40, 41, 53, 47, 104, 105, 106, 107, 108, 109, 110, 111] (by decide +kernel) (by decide +kernel)
set_option maxRecDepth 20000 in
theorem gX7_count_X5_deepestIn_n167 : GoodIn wsX7_count (wsX5_deepestIn) := ggX7_count_X5_deepestIn
set_option maxRecDepth 20000 in
theorem ggX7_count_X5_emptyLeavesIn : GoodIn wsX7_count wsX5_emptyLeavesIn := goodIn_r _ [55, 19, 20, 21, 14, 22, 23, 24, 25, 26, 27, 28, 29, 30, 31, 32, 33, 34, 35, 36, 37, 38, 39, 40, 41, 56, 54, 104, 105, 106, 107, 108, 109, 110, 111] (by decide +kernel) (by decide +kernel)
set_option maxRecDepth 20000 in
theorem gX7_count_X5_emptyLeavesIn_n170 : GoodIn wsX7_count (wsX5_emptyLeavesIn) := ggX7_count_X5_emptyLeavesIn
set_option maxRecDepth 20000 in
theorem ggX7_count_X5_unevennessIn : GoodIn wsX7_count wsX5_unevennessIn := goodIn_r _ [58, 49, 50, 51, 52, 19, 20, 21, 14, 22, 23, 24, 25, 26, 27, 28, 29, 30, 31, 32, 33, 34, 35, 36, 37, 38, 39, 40, 41, 59, 60, 61, 62, 63, 64, 65, 66, 67, 68, 69, 70, 71, 72, 73, 74, 75, 76, 77, 78, 79, 80, 81, 82, 83, 84, 85, 86, 87, 88, 89, 90, 91, 92, 93, 94, 95, 96, 97, 98, 99, 57, 104, 105, 106, 107, 108, 109, 110, 111] (by decide +kernel) (by decide +kernel)
set_option maxRecDepth 20000 in
theorem gX7_count_X5_unevennessIn_n173 : GoodIn wsX7_count (wsX5_unevennessIn) := ggX7_count_X5_unevennessIn
theorem dX7_count_0 : decode cX7_count 0 = .ok (.iload_n 1, 1) := by decide +kernel
theorem dX7_count_1 : decode cX7_count 1 = .ok (.tableswitch 165 0 10 #[59, 70, 78, 86, 96, 106, 117, 127, 138, 149, 157], 59) := by decide +kernel
theorem dX7_count_60 : decode cX7_count 60 = .ok (.aload_n 0, 1) := by decide +kernel
theorem dX7_count_61 : decode cX7_count 61 = .ok (.getfield 10, 3) := by decide +kernel
theorem dX7_count_64 : decode cX7_count 64 = .ok (.getfield 37, 3) := by decide +kernel
theorem dX7_count_67 : decode cX7_count 67 = .ok (.getfield 161, 3) := by decide +kernel
theorem dX7_count_70 : decode cX7_count 70 = .ok (.ireturn, 1) := by decide +kernel
theorem dX7_count_71 : decode cX7_count 71 = .ok (.aload_n 0, 1) := by decide +kernel
theorem dX7_count_72 : decode cX7_count 72 = .ok (.getfield 10, 3) := by decide +kernel
theorem dX7_count_75 : decode cX7_count 75 = .ok (.invokevirtual 72, 3) := by decide +kernel
theorem dX7_count_78 : decode cX7_count 78 = .ok (.ireturn, 1) := by decide +kernel
theorem dX7_count_79 : decode cX7_count 79 = .ok (.aload_n 0, 1) := by decide +kernel
theorem dX7_count_80 : decode cX7_count 80 = .ok (.getfield 10, 3) := by decide +kernel
theorem dX7_count_83 : decode cX7_count 83 = .ok (.invokevirtual 164, 3) := by decide +kernel
theorem dX7_count_86 : decode cX7_count 86 = .ok (.ireturn, 1) := by decide +kernel
theorem dX7_count_87 : decode cX7_count 87 = .ok (.aload_n 0, 1) := by decide +kernel
theorem dX7_count_88 : decode cX7_count 88 = .ok (.getfield 10, 3) := by decide +kernel
theorem dX7_count_91 : decode cX7_count 91 = .ok (.iconst 1, 1) := by decide +kernel
theorem dX7_count_92 : decode cX7_count 92 = .ok (.iconst 0, 1) := by decide +kernel
theorem dX7_count_93 : decode cX7_count 93 = .ok (.invokestatic 167, 3) := by decide +kernel
theorem dX7_count_96 : decode cX7_count 96 = .ok (.ireturn, 1) := by decide +kernel
theorem dX7_count_97 : decode cX7_count 97 = .ok (.aload_n 0, 1) := by decide +kernel
theorem dX7_count_98 : decode cX7_count 98 = .ok (.getfield 10, 3) := by decide +kernel
theorem dX7_count_101 : decode cX7_count 101 = .ok (.iconst 1, 1) := by decide +kernel
theorem dX7_count_102 : decode cX7_count 102 = .ok (.iconst 0, 1) := by decide +kernel
theorem dX7_count_103 : decode cX7_count 103 = .ok (.invokestatic 170, 3) := by decide +kernel
theorem dX7_count_106 : decode cX7_count 106 = .ok (.ireturn, 1) := by decide +kernel
theorem dX7_count_107 : decode cX7_count 107 = .ok (.aload_n 0, 1) := by decide +kernel
theorem dX7_count_108 : decode cX7_count 108 = .ok (.getfield 10, 3) := by decide +kernel
theorem dX7_count_111 : decode cX7_count 111 = .ok (.getfield 37, 3) := by decide +kernel
theorem dX7_count_114 : decode cX7_count 114 = .ok (.getfield 96, 3) := by decide +kernel
theorem dX7_count_117 : decode cX7_count 117 = .ok (.ireturn, 1) := by decide +kernel
theorem dX7_count_118 : decode cX7_count 118 = .ok (.aload_n 0, 1) := by decide +kernel
theorem dX7_count_119 : decode cX7_count 119 = .ok (.getfield 10, 3) := by decide +kernel
theorem dX7_count_122 : decode cX7_count 122 = .ok (.iconst 1, 1) := by decide +kernel
theorem dX7_count_123 : decode cX7_count 123 = .ok (.iconst 0, 1) := by decide +kernel
theorem dX7_count_124 : decode cX7_count 124 = .ok (.invokestatic 173, 3) := by decide +kernel
theorem dX7_count_127 : decode cX7_count 127 = .ok (.ireturn, 1) := by decide +kernel
theorem dX7_count_128 : decode cX7_count 128 = .ok (.aload_n 0, 1) := by decide +kernel
theorem dX7_count_129 : decode cX7_count 129 = .ok (.getfield 10, 3) := by decide +kernel
theorem dX7_count_132 : decode cX7_count 132 = .ok (.getfield 37, 3) := by decide +kernel
theorem dX7_count_135 : decode cX7_count 135 = .ok (.getfield 45, 3) := by decide +kernel
theorem dX7_count_138 : decode cX7_count 138 = .ok (.ireturn, 1) := by decide +kernel
theorem dX7_count_139 : decode cX7_count 139 = .ok (.aload_n 0, 1) := by decide +kernel
theorem dX7_count_140 : decode cX7_count 140 = .ok (.getfield 10, 3) := by decide +kernel
theorem dX7_count_143 : decode cX7_count 143 = .ok (.getfield 37, 3) := by decide +kernel
theorem dX7_count_146 : decode cX7_count 146 = .ok (.getfield 51, 3) := by decide +kernel
theorem dX7_count_149 : decode cX7_count 149 = .ok (.ireturn, 1) := by decide +kernel
theorem dX7_count_150 : decode cX7_count 150 = .ok (.aload_n 0, 1) := by decide +kernel
theorem dX7_count_151 : decode cX7_count 151 = .ok (.getfield 33, 3) := by decide +kernel
theorem dX7_count_154 : decode cX7_count 154 = .ok (.getfield 176, 3) := by decide +kernel
theorem dX7_count_157 : decode cX7_count 157 = .ok (.ireturn, 1) := by decide +kernel
theorem dX7_count_158 : decode cX7_count 158 = .ok (.aload_n 0, 1) := by decide +kernel
theorem dX7_count_159 : decode cX7_count 159 = .ok (.getfield 19, 3) := by decide +kernel
theorem dX7_count_162 : decode cX7_count 162 = .ok (.getfield 179, 3) := by decide +kernel
theorem dX7_count_165 : decode cX7_count 165 = .ok (.ireturn, 1) := by decide +kernel
theorem dX7_count_166 : decode cX7_count 166 = .ok (.bipush (-2), 2) := by decide +kernel
theorem dX7_count_168 : decode cX7_count 168 = .ok (.ireturn, 1) := by decide +kernel
set_option maxRecDepth 20000 in
theorem ggX7_window_X1_isPlace : GoodIn wsX7_window wsX1_isPlace := goodIn_r _ [9] (by decide +kernel) (by decide +kernel)
set_option maxRecDepth 20000 in
theorem gX7_window_X1_isPlace : GoodIn wsX7_window (va_wsS RX7 54 yX1_isPlace wsX1_isPlace) := goodIn_app (goodIn_of _ (by decide +kernel)) ggX7_window_X1_isPlace
set_option maxRecDepth 20000 in
theorem ggX7_window_X6_init : GoodIn wsX7_window wsX6_init := goodIn_r _ [12, 13, 14, 15, 16, 17, 18, 19, 102, 103, 104, 105] (by decide +kernel) (by decide +kernel)
set_option maxRecDepth 20000 in
theorem gX7_window_X6_init : GoodIn wsX7_window (wsX6_init) := ggX7_window_X6_init
set_option maxRecDepth 20000 in
theorem ggX7_window_X3_pointsInside : GoodIn wsX7_window wsX3_pointsInside := goodIn_r _ [24, 25, 26, 27, 28, 23, 29, 30, 31, 32, 33, 34, 35, 36, 37, 3, 38, 18, 16, 19, 17, 39, 40, 8, 41, 42, 43, 44, 45, 46, 47, 48, 49, 50, 51, 52, 53, 112, 113, 114, 115, 116, 117, 102, 103, 104, 105] (by decide +kernel) (by decide +kernel)
set_option maxRecDepth 20000 in
theorem gX7_window_X3_pointsInside : GoodIn wsX7_window (wsV RX7 187 RX3 yX3_pointsInside wsX3_pointsInside) := goodIn_app (goodIn_of _ (by decide +kernel)) ggX7_window_X3_pointsInside
set_option maxRecDepth 20000 in
theorem ggX7_window_X5_leavesMeeting : GoodIn wsX7_window wsX5_leavesMeeting := goodIn_r _ [56, 57, 36, 37, 3, 38, 18, 16, 19, 17, 39, 40, 8, 41, 42, 43, 44, 45, 46, 47, 48, 49, 50, 51, 52, 53, 58, 59, 60, 55, 61, 62, 63, 64, 65, 66, 67, 68, 69, 70, 71, 72, 23, 73, 74, 75, 76, 77, 78, 79, 80, 54, 102, 103, 104, 105, 110, 111, 112, 113, 114, 115, 116, 117] (by decide +kernel) (by decide +kernel)
set_option maxRecDepth 20000 in
theorem gX7_window_X5_leavesMeeting_n191 : GoodIn wsX7_window (wsX5_leavesMeeting) := ggX7_window_X5_leavesMeeting
set_option maxRecDepth 20000 in
theorem ggX7_window_X5_tilesMeeting : GoodIn wsX7_window wsX5_tilesMeeting := goodIn_r _ [82, 57, 36, 37, 3, 38, 18, 16, 19, 17, 39, 40, 8, 41, 42, 43, 44, 45, 46, 47, 48, 49, 50, 51, 52, 53, 58, 59, 60, 55, 61, 62, 63, 64, 65, 66, 67, 68, 69, 70, 71, 72, 23, 73, 74, 75, 76, 77, 78, 79, 83, 81, 102, 103, 104, 105, 110, 111, 112, 113, 114, 115, 116, 117] (by decide +kernel) (by decide +kernel)
set_option maxRecDepth 20000 in
theorem gX7_window_X5_tilesMeeting_n195 : GoodIn wsX7_window (wsX5_tilesMeeting) := ggX7_window_X5_tilesMeeting
set_option maxRecDepth 20000 in
theorem ggX7_window_X5_smallestWith : GoodIn wsX7_window wsX5_smallestWith := goodIn_r _ [87, 88, 89, 90, 91, 92, 93, 8, 94, 95, 96, 97, 55, 98, 99, 100, 101, 58, 59, 60, 61, 62, 63, 64, 65, 66, 67, 68, 69, 70, 71, 72, 23, 73, 74, 75, 76, 77, 78, 79, 102, 103, 104, 105, 110, 111, 112, 113, 114, 115, 116, 117] (by decide +kernel) (by decide +kernel)
set_option maxRecDepth 20000 in
theorem gX7_window_X5_smallestWith : GoodIn wsX7_window (wsV RX7 198 RX5 yX5_smallestWith wsX5_smallestWith) := goodIn_app (goodIn_of _ (by decide +kernel)) ggX7_window_X5_smallestWith
theorem dX7_window_0 : decode cX7_window 0 = .ok (.iload_n 1, 1) := by decide +kernel
theorem dX7_window_1 : decode cX7_window 1 = .ok (.iload_n 2, 1) := by decide +kernel
theorem dX7_window_2 : decode cX7_window 2 = .ok (.invokestatic 54, 3) := by decide +kernel
theorem dX7_window_5 : decode cX7_window 5 = .ok (.ifCond .eq 12, 3) := by decide +kernel
theorem dX7_window_8 : decode cX7_window 8 = .ok (.iload_n 3, 1) := by decide +kernel
theorem dX7_window_9 : decode cX7_window 9 = .ok (.iload 4, 2) := by decide +kernel
theorem dX7_window_11 : decode cX7_window 11 = .ok (.invokestatic 54, 3) := by decide +kernel
theorem dX7_window_14 : decode cX7_window 14 = .ok (.ifCond .ne 5, 3) := by decide +kernel
theorem dX7_window_17 : decode cX7_window 17 = .ok (.iconst (-1), 1) := by decide +kernel
theorem dX7_window_18 : decode cX7_window 18 = .ok (.ireturn, 1) := by decide +kernel
theorem dX7_window_19 : decode cX7_window 19 = .ok (.iload_n 3, 1) := by decide +kernel
theorem dX7_window_20 : decode cX7_window 20 = .ok (.iload_n 1, 1) := by decide +kernel
theorem dX7_window_21 : decode cX7_window 21 = .ok (.if_icmp .lt 9, 3) := by decide +kernel
theorem dX7_window_24 : decode cX7_window 24 = .ok (.iload 4, 2) := by decide +kernel
theorem dX7_window_26 : decode cX7_window 26 = .ok (.iload_n 2, 1) := by decide +kernel
theorem dX7_window_27 : decode cX7_window 27 = .ok (.if_icmp .ge 6, 3) := by decide +kernel
theorem dX7_window_30 : decode cX7_window 30 = .ok (.bipush (-2), 2) := by decide +kernel
theorem dX7_window_32 : decode cX7_window 32 = .ok (.ireturn, 1) := by decide +kernel
theorem dX7_window_33 : decode cX7_window 33 = .ok (.new 182, 3) := by decide +kernel
theorem dX7_window_36 : decode cX7_window 36 = .ok (.dup, 1) := by decide +kernel
theorem dX7_window_37 : decode cX7_window 37 = .ok (.iload_n 1, 1) := by decide +kernel
theorem dX7_window_38 : decode cX7_window 38 = .ok (.iload_n 2, 1) := by decide +kernel
theorem dX7_window_39 : decode cX7_window 39 = .ok (.iload_n 3, 1) := by decide +kernel
theorem dX7_window_40 : decode cX7_window 40 = .ok (.iload 4, 2) := by decide +kernel
theorem dX7_window_42 : decode cX7_window 42 = .ok (.invokespecial 184, 3) := by decide +kernel
theorem dX7_window_45 : decode cX7_window 45 = .ok (.astore 6, 2) := by decide +kernel
theorem dX7_window_47 : decode cX7_window 47 = .ok (.iload 5, 2) := by decide +kernel
theorem dX7_window_49 : decode cX7_window 49 = .ok (.tableswitch 78 0 3 #[31, 44, 56, 68], 31) := by decide +kernel
theorem dX7_window_80 : decode cX7_window 80 = .ok (.aload_n 0, 1) := by decide +kernel
theorem dX7_window_81 : decode cX7_window 81 = .ok (.getfield 10, 3) := by decide +kernel
theorem dX7_window_84 : decode cX7_window 84 = .ok (.getfield 37, 3) := by decide +kernel
theorem dX7_window_87 : decode cX7_window 87 = .ok (.aload 6, 2) := by decide +kernel
theorem dX7_window_89 : decode cX7_window 89 = .ok (.invokevirtual 187, 3) := by decide +kernel
theorem dX7_window_92 : decode cX7_window 92 = .ok (.ireturn, 1) := by decide +kernel
theorem dX7_window_93 : decode cX7_window 93 = .ok (.aload_n 0, 1) := by decide +kernel
theorem dX7_window_94 : decode cX7_window 94 = .ok (.getfield 10, 3) := by decide +kernel
theorem dX7_window_97 : decode cX7_window 97 = .ok (.aload 6, 2) := by decide +kernel
theorem dX7_window_99 : decode cX7_window 99 = .ok (.iconst 1, 1) := by decide +kernel
theorem dX7_window_100 : decode cX7_window 100 = .ok (.iconst 0, 1) := by decide +kernel
theorem dX7_window_101 : decode cX7_window 101 = .ok (.invokestatic 191, 3) := by decide +kernel
theorem dX7_window_104 : decode cX7_window 104 = .ok (.ireturn, 1) := by decide +kernel
theorem dX7_window_105 : decode cX7_window 105 = .ok (.aload_n 0, 1) := by decide +kernel
theorem dX7_window_106 : decode cX7_window 106 = .ok (.getfield 10, 3) := by decide +kernel
theorem dX7_window_109 : decode cX7_window 109 = .ok (.aload 6, 2) := by decide +kernel
theorem dX7_window_111 : decode cX7_window 111 = .ok (.iconst 1, 1) := by decide +kernel
theorem dX7_window_112 : decode cX7_window 112 = .ok (.iconst 0, 1) := by decide +kernel
theorem dX7_window_113 : decode cX7_window 113 = .ok (.invokestatic 195, 3) := by decide +kernel
theorem dX7_window_116 : decode cX7_window 116 = .ok (.ireturn, 1) := by decide +kernel
theorem dX7_window_117 : decode cX7_window 117 = .ok (.aload_n 0, 1) := by decide +kernel
theorem dX7_window_118 : decode cX7_window 118 = .ok (.getfield 10, 3) := by decide +kernel
theorem dX7_window_121 : decode cX7_window 121 = .ok (.aload 6, 2) := by decide +kernel
theorem dX7_window_123 : decode cX7_window 123 = .ok (.invokevirtual 198, 3) := by decide +kernel
theorem dX7_window_126 : decode cX7_window 126 = .ok (.ireturn, 1) := by decide +kernel
theorem dX7_window_127 : decode cX7_window 127 = .ok (.bipush (-2), 2) := by decide +kernel
theorem dX7_window_129 : decode cX7_window 129 = .ok (.ireturn, 1) := by decide +kernel
set_option maxRecDepth 20000 in
theorem ggX7_nearest_X1_isPlace : GoodIn wsX7_nearest wsX1_isPlace := goodIn_r _ [7] (by decide +kernel) (by decide +kernel)
set_option maxRecDepth 20000 in
theorem gX7_nearest_X1_isPlace : GoodIn wsX7_nearest (va_wsS RX7 54 yX1_isPlace wsX1_isPlace) := goodIn_app (goodIn_of _ (by decide +kernel)) ggX7_nearest_X1_isPlace
set_option maxRecDepth 20000 in
theorem ggX7_nearest_X3_placeOf : GoodIn wsX7_nearest wsX3_placeOf := goodIn_r _ [12, 13, 14, 15, 16, 11, 17, 18, 40, 41, 42, 43, 44, 45] (by decide +kernel) (by decide +kernel)
set_option maxRecDepth 20000 in
theorem gX7_nearest_X3_placeOf : GoodIn wsX7_nearest (wsV RX7 117 RX3 yX3_placeOf wsX3_placeOf) := goodIn_app (goodIn_of _ (by decide +kernel)) ggX7_nearest_X3_placeOf
set_option maxRecDepth 20000 in
theorem ggX7_nearest_X1_squaresBetween : GoodIn wsX7_nearest wsX1_squaresBetween := goodIn_r _ [21, 22, 23, 6, 24, 25, 26, 27, 28, 29, 30, 31, 32, 33] (by decide +kernel) (by decide +kernel)
set_option maxRecDepth 20000 in
theorem gX7_nearest_X1_squaresBetween : GoodIn wsX7_nearest (va_wsS RX7 201 yX1_squaresBetween wsX1_squaresBetween) := goodIn_app (goodIn_of _ (by decide +kernel)) ggX7_nearest_X1_squaresBetween
theorem dX7_nearest_0 : decode cX7_nearest 0 = .ok (.iload_n 1, 1) := by decide +kernel
theorem dX7_nearest_1 : decode cX7_nearest 1 = .ok (.iload_n 2, 1) := by decide +kernel
theorem dX7_nearest_2 : decode cX7_nearest 2 = .ok (.invokestatic 54, 3) := by decide +kernel
theorem dX7_nearest_5 : decode cX7_nearest 5 = .ok (.ifCond .ne 5, 3) := by decide +kernel
theorem dX7_nearest_8 : decode cX7_nearest 8 = .ok (.iconst (-1), 1) := by decide +kernel
theorem dX7_nearest_9 : decode cX7_nearest 9 = .ok (.ireturn, 1) := by decide +kernel
theorem dX7_nearest_10 : decode cX7_nearest 10 = .ok (.iload_n 3, 1) := by decide +kernel
theorem dX7_nearest_11 : decode cX7_nearest 11 = .ok (.ifCond .eq 11, 3) := by decide +kernel
theorem dX7_nearest_14 : decode cX7_nearest 14 = .ok (.iload_n 3, 1) := by decide +kernel
theorem dX7_nearest_15 : decode cX7_nearest 15 = .ok (.iconst 1, 1) := by decide +kernel
theorem dX7_nearest_16 : decode cX7_nearest 16 = .ok (.if_icmp .eq 6, 3) := by decide +kernel
theorem dX7_nearest_19 : decode cX7_nearest 19 = .ok (.bipush (-2), 2) := by decide +kernel
theorem dX7_nearest_21 : decode cX7_nearest 21 = .ok (.ireturn, 1) := by decide +kernel
theorem dX7_nearest_22 : decode cX7_nearest 22 = .ok (.aload_n 0, 1) := by decide +kernel
theorem dX7_nearest_23 : decode cX7_nearest 23 = .ok (.getfield 10, 3) := by decide +kernel
theorem dX7_nearest_26 : decode cX7_nearest 26 = .ok (.getfield 37, 3) := by decide +kernel
theorem dX7_nearest_29 : decode cX7_nearest 29 = .ok (.astore 4, 2) := by decide +kernel
theorem dX7_nearest_31 : decode cX7_nearest 31 = .ok (.bipush (-6), 2) := by decide +kernel
theorem dX7_nearest_33 : decode cX7_nearest 33 = .ok (.istore 5, 2) := by decide +kernel
theorem dX7_nearest_35 : decode cX7_nearest 35 = .ok (.bipush (-6), 2) := by decide +kernel
theorem dX7_nearest_37 : decode cX7_nearest 37 = .ok (.istore 6, 2) := by decide +kernel
theorem dX7_nearest_39 : decode cX7_nearest 39 = .ok (.iconst 0, 1) := by decide +kernel
theorem dX7_nearest_40 : decode cX7_nearest 40 = .ok (.istore 7, 2) := by decide +kernel
theorem dX7_nearest_42 : decode cX7_nearest 42 = .ok (.iload 7, 2) := by decide +kernel
theorem dX7_nearest_44 : decode cX7_nearest 44 = .ok (.aload 4, 2) := by decide +kernel
theorem dX7_nearest_46 : decode cX7_nearest 46 = .ok (.getfield 161, 3) := by decide +kernel
theorem dX7_nearest_49 : decode cX7_nearest 49 = .ok (.if_icmp .ge 45, 3) := by decide +kernel
theorem dX7_nearest_52 : decode cX7_nearest 52 = .ok (.aload 4, 2) := by decide +kernel
theorem dX7_nearest_54 : decode cX7_nearest 54 = .ok (.iload 7, 2) := by decide +kernel
theorem dX7_nearest_56 : decode cX7_nearest 56 = .ok (.invokevirtual 117, 3) := by decide +kernel
theorem dX7_nearest_59 : decode cX7_nearest 59 = .ok (.iload_n 1, 1) := by decide +kernel
theorem dX7_nearest_60 : decode cX7_nearest 60 = .ok (.iload_n 2, 1) := by decide +kernel
theorem dX7_nearest_61 : decode cX7_nearest 61 = .ok (.invokestatic 201, 3) := by decide +kernel
theorem dX7_nearest_64 : decode cX7_nearest 64 = .ok (.istore 8, 2) := by decide +kernel
theorem dX7_nearest_66 : decode cX7_nearest 66 = .ok (.iload 5, 2) := by decide +kernel
theorem dX7_nearest_68 : decode cX7_nearest 68 = .ok (.bipush (-6), 2) := by decide +kernel
theorem dX7_nearest_70 : decode cX7_nearest 70 = .ok (.if_icmp .eq 10, 3) := by decide +kernel
theorem dX7_nearest_73 : decode cX7_nearest 73 = .ok (.iload 8, 2) := by decide +kernel
theorem dX7_nearest_75 : decode cX7_nearest 75 = .ok (.iload 6, 2) := by decide +kernel
theorem dX7_nearest_77 : decode cX7_nearest 77 = .ok (.if_icmp .ge 11, 3) := by decide +kernel
theorem dX7_nearest_80 : decode cX7_nearest 80 = .ok (.iload 7, 2) := by decide +kernel
theorem dX7_nearest_82 : decode cX7_nearest 82 = .ok (.istore 5, 2) := by decide +kernel
theorem dX7_nearest_84 : decode cX7_nearest 84 = .ok (.iload 8, 2) := by decide +kernel
theorem dX7_nearest_86 : decode cX7_nearest 86 = .ok (.istore 6, 2) := by decide +kernel
theorem dX7_nearest_88 : decode cX7_nearest 88 = .ok (.iinc 7 1, 3) := by decide +kernel
theorem dX7_nearest_91 : decode cX7_nearest 91 = .ok (.goto (-49), 3) := by decide +kernel
theorem dX7_nearest_94 : decode cX7_nearest 94 = .ok (.iload_n 3, 1) := by decide +kernel
theorem dX7_nearest_95 : decode cX7_nearest 95 = .ok (.ifCond .ne 8, 3) := by decide +kernel
theorem dX7_nearest_98 : decode cX7_nearest 98 = .ok (.iload 5, 2) := by decide +kernel
theorem dX7_nearest_100 : decode cX7_nearest 100 = .ok (.goto 5, 3) := by decide +kernel
theorem dX7_nearest_103 : decode cX7_nearest 103 = .ok (.iload 6, 2) := by decide +kernel
theorem dX7_nearest_105 : decode cX7_nearest 105 = .ok (.ireturn, 1) := by decide +kernel
set_option maxRecDepth 20000 in
theorem ggX7_ifPut_X1_isPlace : GoodIn wsX7_ifPut wsX1_isPlace := goodIn_r _ [6] (by decide +kernel) (by decide +kernel)
set_option maxRecDepth 20000 in
theorem gX7_ifPut_X1_isPlace : GoodIn wsX7_ifPut (va_wsS RX7 54 yX1_isPlace wsX1_isPlace) := goodIn_app (goodIn_of _ (by decide +kernel)) ggX7_ifPut_X1_isPlace
set_option maxRecDepth 20000 in
theorem ggX7_ifPut_X1_placeAt : GoodIn wsX7_ifPut wsX1_placeAt := goodIn_r _ [9] (by decide +kernel) (by decide +kernel)
set_option maxRecDepth 20000 in
theorem gX7_ifPut_X1_placeAt : GoodIn wsX7_ifPut (va_wsS RX7 60 yX1_placeAt wsX1_placeAt) := goodIn_app (goodIn_of _ (by decide +kernel)) ggX7_ifPut_X1_placeAt
set_option maxRecDepth 20000 in
theorem ggX7_ifPut_X3_errorOfPointAt : GoodIn wsX7_ifPut wsX3_errorOfPointAt := goodIn_r _ [14, 15, 16, 17, 18, 13, 19, 20, 21, 22, 23, 24, 25, 26, 27, 28, 84, 85, 86, 87, 88, 89] (by decide +kernel) (by decide +kernel)
set_option maxRecDepth 20000 in
theorem gX7_ifPut_X3_errorOfPointAt : GoodIn wsX7_ifPut (wsV RX7 64 RX3 yX3_errorOfPointAt wsX3_errorOfPointAt) := goodIn_app (goodIn_of _ (by decide +kernel)) ggX7_ifPut_X3_errorOfPointAt
set_option maxRecDepth 20000 in
theorem ggX7_ifPut_X5_leavesIfPut : GoodIn wsX7_ifPut wsX5_leavesIfPut := goodIn_r _ [33, 34, 35, 36, 32, 37, 38, 39, 40, 5, 41, 42, 43, 44, 45, 46, 47, 48, 49, 50, 51, 52, 53, 54, 55, 56, 57, 58, 59, 60, 61, 62, 13, 63, 64, 65, 66, 67, 68, 69, 82, 83, 84, 85, 86, 87, 88, 89] (by decide +kernel) (by decide +kernel)
set_option maxRecDepth 20000 in
theorem gX7_ifPut_X5_leavesIfPut : GoodIn wsX7_ifPut (wsV RX7 204 RX5 yX5_leavesIfPut wsX5_leavesIfPut) := goodIn_app (goodIn_of _ (by decide +kernel)) ggX7_ifPut_X5_leavesIfPut
set_option maxRecDepth 20000 in
theorem ggX7_ifPut_X5_depthIfPut : GoodIn wsX7_ifPut wsX5_depthIfPut := goodIn_r _ [73, 34, 35, 36, 32, 37, 38, 39, 40, 5, 41, 74, 75, 76, 77, 49, 50, 51, 52, 53, 54, 55, 56, 57, 58, 59, 60, 61, 62, 13, 63, 64, 65, 66, 67, 68, 69, 82, 83, 84, 85, 86, 87, 88, 89] (by decide +kernel) (by decide +kernel)
set_option maxRecDepth 20000 in
theorem gX7_ifPut_X5_depthIfPut : GoodIn wsX7_ifPut (wsV RX7 207 RX5 yX5_depthIfPut wsX5_depthIfPut) := goodIn_app (goodIn_of _ (by decide +kernel)) ggX7_ifPut_X5_depthIfPut
theorem dX7_ifPut_0 : decode cX7_ifPut 0 = .ok (.iload_n 1, 1) := by decide +kernel
theorem dX7_ifPut_1 : decode cX7_ifPut 1 = .ok (.iload_n 2, 1) := by decide +kernel
theorem dX7_ifPut_2 : decode cX7_ifPut 2 = .ok (.invokestatic 54, 3) := by decide +kernel
theorem dX7_ifPut_5 : decode cX7_ifPut 5 = .ok (.ifCond .ne 5, 3) := by decide +kernel
theorem dX7_ifPut_8 : decode cX7_ifPut 8 = .ok (.iconst (-1), 1) := by decide +kernel
theorem dX7_ifPut_9 : decode cX7_ifPut 9 = .ok (.ireturn, 1) := by decide +kernel
theorem dX7_ifPut_10 : decode cX7_ifPut 10 = .ok (.iload_n 3, 1) := by decide +kernel
theorem dX7_ifPut_11 : decode cX7_ifPut 11 = .ok (.ifCond .eq 11, 3) := by decide +kernel
theorem dX7_ifPut_14 : decode cX7_ifPut 14 = .ok (.iload_n 3, 1) := by decide +kernel
theorem dX7_ifPut_15 : decode cX7_ifPut 15 = .ok (.iconst 1, 1) := by decide +kernel
theorem dX7_ifPut_16 : decode cX7_ifPut 16 = .ok (.if_icmp .eq 6, 3) := by decide +kernel
theorem dX7_ifPut_19 : decode cX7_ifPut 19 = .ok (.bipush (-2), 2) := by decide +kernel
theorem dX7_ifPut_21 : decode cX7_ifPut 21 = .ok (.ireturn, 1) := by decide +kernel
theorem dX7_ifPut_22 : decode cX7_ifPut 22 = .ok (.iload_n 1, 1) := by decide +kernel
theorem dX7_ifPut_23 : decode cX7_ifPut 23 = .ok (.iload_n 2, 1) := by decide +kernel
theorem dX7_ifPut_24 : decode cX7_ifPut 24 = .ok (.invokestatic 60, 3) := by decide +kernel
theorem dX7_ifPut_27 : decode cX7_ifPut 27 = .ok (.istore 4, 2) := by decide +kernel
theorem dX7_ifPut_29 : decode cX7_ifPut 29 = .ok (.aload_n 0, 1) := by decide +kernel
theorem dX7_ifPut_30 : decode cX7_ifPut 30 = .ok (.getfield 10, 3) := by decide +kernel
theorem dX7_ifPut_33 : decode cX7_ifPut 33 = .ok (.getfield 37, 3) := by decide +kernel
theorem dX7_ifPut_36 : decode cX7_ifPut 36 = .ok (.iload 4, 2) := by decide +kernel
theorem dX7_ifPut_38 : decode cX7_ifPut 38 = .ok (.invokevirtual 64, 3) := by decide +kernel
theorem dX7_ifPut_41 : decode cX7_ifPut 41 = .ok (.istore 5, 2) := by decide +kernel
theorem dX7_ifPut_43 : decode cX7_ifPut 43 = .ok (.iload 5, 2) := by decide +kernel
theorem dX7_ifPut_45 : decode cX7_ifPut 45 = .ok (.ifCond .eq 6, 3) := by decide +kernel
theorem dX7_ifPut_48 : decode cX7_ifPut 48 = .ok (.iload 5, 2) := by decide +kernel
theorem dX7_ifPut_50 : decode cX7_ifPut 50 = .ok (.ireturn, 1) := by decide +kernel
theorem dX7_ifPut_51 : decode cX7_ifPut 51 = .ok (.iload_n 3, 1) := by decide +kernel
theorem dX7_ifPut_52 : decode cX7_ifPut 52 = .ok (.ifCond .ne 15, 3) := by decide +kernel
theorem dX7_ifPut_55 : decode cX7_ifPut 55 = .ok (.aload_n 0, 1) := by decide +kernel
theorem dX7_ifPut_56 : decode cX7_ifPut 56 = .ok (.getfield 10, 3) := by decide +kernel
theorem dX7_ifPut_59 : decode cX7_ifPut 59 = .ok (.iload 4, 2) := by decide +kernel
theorem dX7_ifPut_61 : decode cX7_ifPut 61 = .ok (.invokevirtual 204, 3) := by decide +kernel
theorem dX7_ifPut_64 : decode cX7_ifPut 64 = .ok (.goto 12, 3) := by decide +kernel
theorem dX7_ifPut_67 : decode cX7_ifPut 67 = .ok (.aload_n 0, 1) := by decide +kernel
theorem dX7_ifPut_68 : decode cX7_ifPut 68 = .ok (.getfield 10, 3) := by decide +kernel
theorem dX7_ifPut_71 : decode cX7_ifPut 71 = .ok (.iload 4, 2) := by decide +kernel
theorem dX7_ifPut_73 : decode cX7_ifPut 73 = .ok (.invokevirtual 207, 3) := by decide +kernel
theorem dX7_ifPut_76 : decode cX7_ifPut 76 = .ok (.ireturn, 1) := by decide +kernel
set_option maxRecDepth 20000 in
theorem ggX7_leastFull_X5_leastFullFor : GoodIn wsX7_leastFull wsX5_leastFullFor := goodIn_r _ [6, 7, 8, 9, 10, 11, 5, 12, 13, 14, 15, 16, 17, 18, 19, 20, 21, 22, 23, 24, 25, 26, 27, 28, 29, 30, 31, 32, 33, 34, 35, 36, 41, 42, 43, 44, 45, 46, 47, 48] (by decide +kernel) (by decide +kernel)
set_option maxRecDepth 20000 in
theorem gX7_leastFull_X5_leastFullFor : GoodIn wsX7_leastFull (wsV RX7 210 RX5 yX5_leastFullFor wsX5_leastFullFor) := goodIn_app (goodIn_of _ (by decide +kernel)) ggX7_leastFull_X5_leastFullFor
theorem dX7_leastFull_0 : decode cX7_leastFull 0 = .ok (.iload_n 1, 1) := by decide +kernel
theorem dX7_leastFull_1 : decode cX7_leastFull 1 = .ok (.iconst 1, 1) := by decide +kernel
theorem dX7_leastFull_2 : decode cX7_leastFull 2 = .ok (.if_icmp .lt 10, 3) := by decide +kernel
theorem dX7_leastFull_5 : decode cX7_leastFull 5 = .ok (.iload_n 1, 1) := by decide +kernel
theorem dX7_leastFull_6 : decode cX7_leastFull 6 = .ok (.sipush 4096, 3) := by decide +kernel
theorem dX7_leastFull_9 : decode cX7_leastFull 9 = .ok (.if_icmp .le 6, 3) := by decide +kernel
theorem dX7_leastFull_12 : decode cX7_leastFull 12 = .ok (.bipush (-2), 2) := by decide +kernel
theorem dX7_leastFull_14 : decode cX7_leastFull 14 = .ok (.ireturn, 1) := by decide +kernel
theorem dX7_leastFull_15 : decode cX7_leastFull 15 = .ok (.aload_n 0, 1) := by decide +kernel
theorem dX7_leastFull_16 : decode cX7_leastFull 16 = .ok (.getfield 10, 3) := by decide +kernel
theorem dX7_leastFull_19 : decode cX7_leastFull 19 = .ok (.iload_n 1, 1) := by decide +kernel
theorem dX7_leastFull_20 : decode cX7_leastFull 20 = .ok (.invokevirtual 210, 3) := by decide +kernel
theorem dX7_leastFull_23 : decode cX7_leastFull 23 = .ok (.ireturn, 1) := by decide +kernel
set_option maxRecDepth 20000 in
theorem ggX7_put_X2_charactersIn : GoodIn wsX7_put wsX2_charactersIn := goodIn_r _ [6, 7, 8, 5, 9] (by decide +kernel) (by decide +kernel)
set_option maxRecDepth 20000 in
theorem gX7_put_X2_charactersIn : GoodIn wsX7_put (va_wsS RX7 213 yX2_charactersIn wsX2_charactersIn) := goodIn_app (goodIn_of _ (by decide +kernel)) ggX7_put_X2_charactersIn
set_option maxRecDepth 20000 in
theorem ggX7_put_X2_append : GoodIn wsX7_put wsX2_append := goodIn_r _ [13, 14, 15, 7, 8, 5, 9, 20, 21, 22] (by decide +kernel) (by decide +kernel)
set_option maxRecDepth 20000 in
theorem gX7_put_X2_append : GoodIn wsX7_put (wsV RX7 217 RX2 yX2_append wsX2_append) := goodIn_app (goodIn_of _ (by decide +kernel)) ggX7_put_X2_append
theorem dX7_put_0 : decode cX7_put 0 = .ok (.lload_n 1, 1) := by decide +kernel
theorem dX7_put_1 : decode cX7_put 1 = .ok (.invokestatic 213, 3) := by decide +kernel
theorem dX7_put_4 : decode cX7_put 4 = .ok (.istore_n 3, 1) := by decide +kernel
theorem dX7_put_5 : decode cX7_put 5 = .ok (.iload_n 3, 1) := by decide +kernel
theorem dX7_put_6 : decode cX7_put 6 = .ok (.bipush (-6), 2) := by decide +kernel
theorem dX7_put_8 : decode cX7_put 8 = .ok (.if_icmp .ne 6, 3) := by decide +kernel
theorem dX7_put_11 : decode cX7_put 11 = .ok (.bipush (-2), 2) := by decide +kernel
theorem dX7_put_13 : decode cX7_put 13 = .ok (.ireturn, 1) := by decide +kernel
theorem dX7_put_14 : decode cX7_put 14 = .ok (.aload_n 0, 1) := by decide +kernel
theorem dX7_put_15 : decode cX7_put 15 = .ok (.getfield 33, 3) := by decide +kernel
theorem dX7_put_18 : decode cX7_put 18 = .ok (.getfield 176, 3) := by decide +kernel
theorem dX7_put_21 : decode cX7_put 21 = .ok (.iload_n 3, 1) := by decide +kernel
theorem dX7_put_22 : decode cX7_put 22 = .ok (.iadd, 1) := by decide +kernel
theorem dX7_put_23 : decode cX7_put 23 = .ok (.bipush 80, 2) := by decide +kernel
theorem dX7_put_25 : decode cX7_put 25 = .ok (.if_icmp .le 6, 3) := by decide +kernel
theorem dX7_put_28 : decode cX7_put 28 = .ok (.bipush (-4), 2) := by decide +kernel
theorem dX7_put_30 : decode cX7_put 30 = .ok (.ireturn, 1) := by decide +kernel
theorem dX7_put_31 : decode cX7_put 31 = .ok (.aload_n 0, 1) := by decide +kernel
theorem dX7_put_32 : decode cX7_put 32 = .ok (.getfield 33, 3) := by decide +kernel
theorem dX7_put_35 : decode cX7_put 35 = .ok (.lload_n 1, 1) := by decide +kernel
theorem dX7_put_36 : decode cX7_put 36 = .ok (.iload_n 3, 1) := by decide +kernel
theorem dX7_put_37 : decode cX7_put 37 = .ok (.invokevirtual 217, 3) := by decide +kernel
theorem dX7_put_40 : decode cX7_put 40 = .ok (.aload_n 0, 1) := by decide +kernel
theorem dX7_put_41 : decode cX7_put 41 = .ok (.getfield 33, 3) := by decide +kernel
theorem dX7_put_44 : decode cX7_put 44 = .ok (.getfield 176, 3) := by decide +kernel
theorem dX7_put_47 : decode cX7_put 47 = .ok (.ireturn, 1) := by decide +kernel
set_option maxRecDepth 20000 in
theorem ggX7_wipe_X2_empty : GoodIn wsX7_wipe wsX2_empty := goodIn_r _ [7, 8, 13, 14, 15] (by decide +kernel) (by decide +kernel)
set_option maxRecDepth 20000 in
theorem gX7_wipe_X2_empty : GoodIn wsX7_wipe (wsV RX7 114 RX2 yX2_empty wsX2_empty) := goodIn_app (goodIn_of _ (by decide +kernel)) ggX7_wipe_X2_empty
theorem dX7_wipe_0 : decode cX7_wipe 0 = .ok (.aload_n 0, 1) := by decide +kernel
theorem dX7_wipe_1 : decode cX7_wipe 1 = .ok (.getfield 33, 3) := by decide +kernel
theorem dX7_wipe_4 : decode cX7_wipe 4 = .ok (.getfield 176, 3) := by decide +kernel
theorem dX7_wipe_7 : decode cX7_wipe 7 = .ok (.istore_n 1, 1) := by decide +kernel
theorem dX7_wipe_8 : decode cX7_wipe 8 = .ok (.aload_n 0, 1) := by decide +kernel
theorem dX7_wipe_9 : decode cX7_wipe 9 = .ok (.getfield 33, 3) := by decide +kernel
theorem dX7_wipe_12 : decode cX7_wipe 12 = .ok (.invokevirtual 114, 3) := by decide +kernel
theorem dX7_wipe_15 : decode cX7_wipe 15 = .ok (.iload_n 1, 1) := by decide +kernel
theorem dX7_wipe_16 : decode cX7_wipe 16 = .ok (.ireturn, 1) := by decide +kernel
set_option maxRecDepth 20000 in
theorem ggX7_fault_X2_firstFault : GoodIn wsX7_fault wsX2_firstFault := goodIn_r _ [6, 7, 8, 9, 10, 5, 11, 12, 13, 14, 15, 16, 17, 18, 23, 24, 25] (by decide +kernel) (by decide +kernel)
set_option maxRecDepth 20000 in
theorem gX7_fault_X2_firstFault : GoodIn wsX7_fault (wsV RX7 105 RX2 yX2_firstFault wsX2_firstFault) := goodIn_app (goodIn_of _ (by decide +kernel)) ggX7_fault_X2_firstFault
theorem dX7_fault_0 : decode cX7_fault 0 = .ok (.aload_n 0, 1) := by decide +kernel
theorem dX7_fault_1 : decode cX7_fault 1 = .ok (.getfield 33, 3) := by decide +kernel
theorem dX7_fault_4 : decode cX7_fault 4 = .ok (.invokevirtual 105, 3) := by decide +kernel
theorem dX7_fault_7 : decode cX7_fault 7 = .ok (.ireturn, 1) := by decide +kernel
set_option maxRecDepth 20000 in
theorem ggX7_undo_X0_takeLatest : GoodIn wsX7_undo wsX0_takeLatest := goodIn_r _ [8, 9, 10, 11, 12, 13, 14, 62, 63] (by decide +kernel) (by decide +kernel)
set_option maxRecDepth 20000 in
theorem gX7_undo_X0_takeLatest : GoodIn wsX7_undo (wsV RX7 221 RX0 yX0_takeLatest wsX0_takeLatest) := goodIn_app (goodIn_of _ (by decide +kernel)) ggX7_undo_X0_takeLatest
set_option maxRecDepth 20000 in
theorem ggX7_undo_X5_show : GoodIn wsX7_undo wsX5_show := goodIn_r _ [19, 20, 21, 22, 23, 18, 24, 25, 26, 27, 28, 29, 30, 31, 32, 33, 34, 35, 36, 37, 38, 39, 40, 41, 42, 43, 44, 45, 46, 47, 48, 49, 50, 51, 52, 53, 54, 55, 56, 57, 64, 65, 66, 67, 68, 69, 70, 71] (by decide +kernel) (by decide +kernel)
set_option maxRecDepth 20000 in
theorem gX7_undo_X5_show : GoodIn wsX7_undo (wsV RX7 225 RX5 yX5_show wsX5_show) := goodIn_app (goodIn_of _ (by decide +kernel)) ggX7_undo_X5_show
theorem dX7_undo_0 : decode cX7_undo 0 = .ok (.aload_n 0, 1) := by decide +kernel
theorem dX7_undo_1 : decode cX7_undo 1 = .ok (.getfield 19, 3) := by decide +kernel
theorem dX7_undo_4 : decode cX7_undo 4 = .ok (.getfield 179, 3) := by decide +kernel
theorem dX7_undo_7 : decode cX7_undo 7 = .ok (.ifCond .ne 6, 3) := by decide +kernel
theorem dX7_undo_10 : decode cX7_undo 10 = .ok (.bipush (-5), 2) := by decide +kernel
theorem dX7_undo_12 : decode cX7_undo 12 = .ok (.ireturn, 1) := by decide +kernel
theorem dX7_undo_13 : decode cX7_undo 13 = .ok (.aload_n 0, 1) := by decide +kernel
theorem dX7_undo_14 : decode cX7_undo 14 = .ok (.getfield 10, 3) := by decide +kernel
theorem dX7_undo_17 : decode cX7_undo 17 = .ok (.aload_n 0, 1) := by decide +kernel
theorem dX7_undo_18 : decode cX7_undo 18 = .ok (.getfield 19, 3) := by decide +kernel
theorem dX7_undo_21 : decode cX7_undo 21 = .ok (.invokevirtual 221, 3) := by decide +kernel
theorem dX7_undo_24 : decode cX7_undo 24 = .ok (.invokevirtual 225, 3) := by decide +kernel
theorem dX7_undo_27 : decode cX7_undo 27 = .ok (.aload_n 0, 1) := by decide +kernel
theorem dX7_undo_28 : decode cX7_undo 28 = .ok (.getfield 19, 3) := by decide +kernel
theorem dX7_undo_31 : decode cX7_undo 31 = .ok (.getfield 179, 3) := by decide +kernel
theorem dX7_undo_34 : decode cX7_undo 34 = .ok (.ireturn, 1) := by decide +kernel
set_option maxRecDepth 20000 in
theorem ggX7_save_X4_isSlot : GoodIn wsX7_save wsX4_isSlot := goodIn_r _ [8] (by decide +kernel) (by decide +kernel)
set_option maxRecDepth 20000 in
theorem gX7_save_X4_isSlot : GoodIn wsX7_save (va_wsS RX7 228 yX4_isSlot wsX4_isSlot) := goodIn_app (goodIn_of _ (by decide +kernel)) ggX7_save_X4_isSlot
set_option maxRecDepth 20000 in
theorem ggX7_save_X4_fill : GoodIn wsX7_save wsX4_fill := goodIn_r _ [12, 13, 14, 15, 6, 7, 8, 16, 17, 18, 19, 20, 21, 22, 23, 24, 25, 26, 27, 28, 29, 30, 43, 44, 37, 38, 39, 40, 41, 42] (by decide +kernel) (by decide +kernel)
set_option maxRecDepth 20000 in
theorem gX7_save_X4_fill : GoodIn wsX7_save (wsV RX7 231 RX4 yX4_fill wsX4_fill) := goodIn_app (goodIn_of _ (by decide +kernel)) ggX7_save_X4_fill
theorem dX7_save_0 : decode cX7_save 0 = .ok (.iload_n 1, 1) := by decide +kernel
theorem dX7_save_1 : decode cX7_save 1 = .ok (.invokestatic 228, 3) := by decide +kernel
theorem dX7_save_4 : decode cX7_save 4 = .ok (.ifCond .ne 6, 3) := by decide +kernel
theorem dX7_save_7 : decode cX7_save 7 = .ok (.bipush (-2), 2) := by decide +kernel
theorem dX7_save_9 : decode cX7_save 9 = .ok (.ireturn, 1) := by decide +kernel
theorem dX7_save_10 : decode cX7_save 10 = .ok (.aload_n 0, 1) := by decide +kernel
theorem dX7_save_11 : decode cX7_save 11 = .ok (.getfield 26, 3) := by decide +kernel
theorem dX7_save_14 : decode cX7_save 14 = .ok (.iload_n 1, 1) := by decide +kernel
theorem dX7_save_15 : decode cX7_save 15 = .ok (.aload_n 0, 1) := by decide +kernel
theorem dX7_save_16 : decode cX7_save 16 = .ok (.getfield 10, 3) := by decide +kernel
theorem dX7_save_19 : decode cX7_save 19 = .ok (.getfield 37, 3) := by decide +kernel
theorem dX7_save_22 : decode cX7_save 22 = .ok (.invokevirtual 231, 3) := by decide +kernel
theorem dX7_save_25 : decode cX7_save 25 = .ok (.aload_n 0, 1) := by decide +kernel
theorem dX7_save_26 : decode cX7_save 26 = .ok (.getfield 10, 3) := by decide +kernel
theorem dX7_save_29 : decode cX7_save 29 = .ok (.getfield 37, 3) := by decide +kernel
theorem dX7_save_32 : decode cX7_save 32 = .ok (.getfield 161, 3) := by decide +kernel
theorem dX7_save_35 : decode cX7_save 35 = .ok (.ireturn, 1) := by decide +kernel
set_option maxRecDepth 20000 in
theorem ggX7_restore_X4_isSlot : GoodIn wsX7_restore wsX4_isSlot := goodIn_r _ [9] (by decide +kernel) (by decide +kernel)
set_option maxRecDepth 20000 in
theorem gX7_restore_X4_isSlot : GoodIn wsX7_restore (va_wsS RX7 228 yX4_isSlot wsX4_isSlot) := goodIn_app (goodIn_of _ (by decide +kernel)) ggX7_restore_X4_isSlot
set_option maxRecDepth 20000 in
theorem ggX7_restore_X4_isFilled : GoodIn wsX7_restore wsX4_isFilled := goodIn_r _ [13, 14, 15, 7, 8, 9, 88, 89] (by decide +kernel) (by decide +kernel)
set_option maxRecDepth 20000 in
theorem gX7_restore_X4_isFilled : GoodIn wsX7_restore (wsV RX7 235 RX4 yX4_isFilled wsX4_isFilled) := goodIn_app (goodIn_of _ (by decide +kernel)) ggX7_restore_X4_isFilled
set_option maxRecDepth 20000 in
theorem ggX7_restore_X0_remember : GoodIn wsX7_restore wsX0_remember := goodIn_r _ [20, 21, 22, 23, 24, 25, 19, 26, 27, 28, 29, 30, 31, 32, 33, 34, 35, 36, 37, 38, 39, 40, 41, 90, 91, 82, 83, 84, 85, 86, 87] (by decide +kernel) (by decide +kernel)
set_option maxRecDepth 20000 in
theorem gX7_restore_X0_remember : GoodIn wsX7_restore (wsV RX7 41 RX0 yX0_remember wsX0_remember) := goodIn_app (goodIn_of _ (by decide +kernel)) ggX7_restore_X0_remember
set_option maxRecDepth 20000 in
theorem ggX7_restore_X4_planIn : GoodIn wsX7_restore wsX4_planIn := goodIn_r _ [45, 46, 15, 7, 8, 9, 88, 89] (by decide +kernel) (by decide +kernel)
set_option maxRecDepth 20000 in
theorem gX7_restore_X4_planIn : GoodIn wsX7_restore (wsV RX7 238 RX4 yX4_planIn wsX4_planIn) := goodIn_app (goodIn_of _ (by decide +kernel)) ggX7_restore_X4_planIn
set_option maxRecDepth 20000 in
theorem ggX7_restore_X5_show : GoodIn wsX7_restore wsX5_show := goodIn_r _ [51, 52, 53, 54, 55, 50, 56, 57, 58, 59, 60, 30, 61, 32, 62, 63, 64, 65, 38, 66, 67, 68, 69, 70, 71, 72, 73, 74, 75, 28, 29, 31, 33, 34, 35, 36, 37, 39, 40, 41, 80, 81, 82, 83, 84, 85, 86, 87] (by decide +kernel) (by decide +kernel)
set_option maxRecDepth 20000 in
theorem gX7_restore_X5_show : GoodIn wsX7_restore (wsV RX7 225 RX5 yX5_show wsX5_show) := goodIn_app (goodIn_of _ (by decide +kernel)) ggX7_restore_X5_show
theorem dX7_restore_0 : decode cX7_restore 0 = .ok (.iload_n 1, 1) := by decide +kernel
theorem dX7_restore_1 : decode cX7_restore 1 = .ok (.invokestatic 228, 3) := by decide +kernel
theorem dX7_restore_4 : decode cX7_restore 4 = .ok (.ifCond .ne 6, 3) := by decide +kernel
theorem dX7_restore_7 : decode cX7_restore 7 = .ok (.bipush (-2), 2) := by decide +kernel
theorem dX7_restore_9 : decode cX7_restore 9 = .ok (.ireturn, 1) := by decide +kernel
theorem dX7_restore_10 : decode cX7_restore 10 = .ok (.aload_n 0, 1) := by decide +kernel
theorem dX7_restore_11 : decode cX7_restore 11 = .ok (.getfield 26, 3) := by decide +kernel
theorem dX7_restore_14 : decode cX7_restore 14 = .ok (.iload_n 1, 1) := by decide +kernel
theorem dX7_restore_15 : decode cX7_restore 15 = .ok (.invokevirtual 235, 3) := by decide +kernel
theorem dX7_restore_18 : decode cX7_restore 18 = .ok (.ifCond .ne 6, 3) := by decide +kernel
theorem dX7_restore_21 : decode cX7_restore 21 = .ok (.bipush (-5), 2) := by decide +kernel
theorem dX7_restore_23 : decode cX7_restore 23 = .ok (.ireturn, 1) := by decide +kernel
theorem dX7_restore_24 : decode cX7_restore 24 = .ok (.aload_n 0, 1) := by decide +kernel
theorem dX7_restore_25 : decode cX7_restore 25 = .ok (.getfield 19, 3) := by decide +kernel
theorem dX7_restore_28 : decode cX7_restore 28 = .ok (.aload_n 0, 1) := by decide +kernel
theorem dX7_restore_29 : decode cX7_restore 29 = .ok (.getfield 10, 3) := by decide +kernel
theorem dX7_restore_32 : decode cX7_restore 32 = .ok (.getfield 37, 3) := by decide +kernel
theorem dX7_restore_35 : decode cX7_restore 35 = .ok (.invokevirtual 41, 3) := by decide +kernel
theorem dX7_restore_38 : decode cX7_restore 38 = .ok (.aload_n 0, 1) := by decide +kernel
theorem dX7_restore_39 : decode cX7_restore 39 = .ok (.getfield 10, 3) := by decide +kernel
theorem dX7_restore_42 : decode cX7_restore 42 = .ok (.aload_n 0, 1) := by decide +kernel
theorem dX7_restore_43 : decode cX7_restore 43 = .ok (.getfield 26, 3) := by decide +kernel
theorem dX7_restore_46 : decode cX7_restore 46 = .ok (.iload_n 1, 1) := by decide +kernel
theorem dX7_restore_47 : decode cX7_restore 47 = .ok (.invokevirtual 238, 3) := by decide +kernel
theorem dX7_restore_50 : decode cX7_restore 50 = .ok (.invokevirtual 225, 3) := by decide +kernel
theorem dX7_restore_53 : decode cX7_restore 53 = .ok (.aload_n 0, 1) := by decide +kernel
theorem dX7_restore_54 : decode cX7_restore 54 = .ok (.getfield 10, 3) := by decide +kernel
theorem dX7_restore_57 : decode cX7_restore 57 = .ok (.getfield 37, 3) := by decide +kernel
theorem dX7_restore_60 : decode cX7_restore 60 = .ok (.getfield 161, 3) := by decide +kernel
theorem dX7_restore_63 : decode cX7_restore 63 = .ok (.ireturn, 1) := by decide +kernel
theorem dJ9_max_7cf53_0 : decode cJ9_max_7cf53 0 = .ok (.iload_n 0, 1) := by decide +kernel
theorem dJ9_max_7cf53_1 : decode cJ9_max_7cf53 1 = .ok (.iload_n 1, 1) := by decide +kernel
theorem dJ9_max_7cf53_2 : decode cJ9_max_7cf53 2 = .ok (.if_icmp .lt 7, 3) := by decide +kernel
theorem dJ9_max_7cf53_5 : decode cJ9_max_7cf53 5 = .ok (.iload_n 0, 1) := by decide +kernel
theorem dJ9_max_7cf53_6 : decode cJ9_max_7cf53 6 = .ok (.goto 4, 3) := by decide +kernel
theorem dJ9_max_7cf53_9 : decode cJ9_max_7cf53 9 = .ok (.iload_n 1, 1) := by decide +kernel
theorem dJ9_max_7cf53_10 : decode cJ9_max_7cf53 10 = .ok (.ireturn, 1) := by decide +kernel
theorem dJ9_min_7cf53_0 : decode cJ9_min_7cf53 0 = .ok (.iload_n 0, 1) := by decide +kernel
theorem dJ9_min_7cf53_1 : decode cJ9_min_7cf53 1 = .ok (.iload_n 1, 1) := by decide +kernel
theorem dJ9_min_7cf53_2 : decode cJ9_min_7cf53 2 = .ok (.if_icmp .gt 7, 3) := by decide +kernel
theorem dJ9_min_7cf53_5 : decode cJ9_min_7cf53 5 = .ok (.iload_n 0, 1) := by decide +kernel
theorem dJ9_min_7cf53_6 : decode cJ9_min_7cf53 6 = .ok (.goto 4, 3) := by decide +kernel
theorem dJ9_min_7cf53_9 : decode cJ9_min_7cf53 9 = .ok (.iload_n 1, 1) := by decide +kernel
theorem dJ9_min_7cf53_10 : decode cJ9_min_7cf53 10 = .ok (.ireturn, 1) := by decide +kernel
