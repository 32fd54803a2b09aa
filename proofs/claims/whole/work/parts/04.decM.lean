theorem dX8_init_0 : decode cX8_init 0 = .ok (.aload_n 0, 1) := by decide +kernel
theorem dX8_init_1 : decode cX8_init 1 = .ok (.invokespecial 1, 3) := by decide +kernel
theorem dX8_init_4 : decode cX8_init 4 = .ok (.aload_n 0, 1) := by decide +kernel
theorem dX8_init_5 : decode cX8_init 5 = .ok (.bipush 116, 2) := by decide +kernel
theorem dX8_init_7 : decode cX8_init 7 = .ok (.newarray .int, 2) := by decide +kernel
theorem dX8_init_9 : decode cX8_init 9 = .ok (.putfield 7, 3) := by decide +kernel
theorem dX8_init_12 : decode cX8_init 12 = .ok (.aload_n 0, 1) := by decide +kernel
theorem dX8_init_13 : decode cX8_init 13 = .ok (.bipush 116, 2) := by decide +kernel
theorem dX8_init_15 : decode cX8_init 15 = .ok (.newarray .int, 2) := by decide +kernel
theorem dX8_init_17 : decode cX8_init 17 = .ok (.putfield 13, 3) := by decide +kernel
theorem dX8_init_20 : decode cX8_init 20 = .ok (.aload_n 0, 1) := by decide +kernel
theorem dX8_init_21 : decode cX8_init 21 = .ok (.sipush 696, 3) := by decide +kernel
theorem dX8_init_24 : decode cX8_init 24 = .ok (.newarray .int, 2) := by decide +kernel
theorem dX8_init_26 : decode cX8_init 26 = .ok (.putfield 16, 3) := by decide +kernel
theorem dX8_init_29 : decode cX8_init 29 = .ok (.aload_n 0, 1) := by decide +kernel
theorem dX8_init_30 : decode cX8_init 30 = .ok (.sipush 232, 3) := by decide +kernel
theorem dX8_init_33 : decode cX8_init 33 = .ok (.newarray .int, 2) := by decide +kernel
theorem dX8_init_35 : decode cX8_init 35 = .ok (.putfield 19, 3) := by decide +kernel
theorem dX8_init_38 : decode cX8_init 38 = .ok (.aload_n 0, 1) := by decide +kernel
theorem dX8_init_39 : decode cX8_init 39 = .ok (.iconst 2, 1) := by decide +kernel
theorem dX8_init_40 : decode cX8_init 40 = .ok (.newarray .boolean, 2) := by decide +kernel
theorem dX8_init_42 : decode cX8_init 42 = .ok (.putfield 22, 3) := by decide +kernel
theorem dX8_init_45 : decode cX8_init 45 = .ok (.aload_n 0, 1) := by decide +kernel
theorem dX8_init_46 : decode cX8_init 46 = .ok (.bipush 80, 2) := by decide +kernel
theorem dX8_init_48 : decode cX8_init 48 = .ok (.newarray .int, 2) := by decide +kernel
theorem dX8_init_50 : decode cX8_init 50 = .ok (.putfield 26, 3) := by decide +kernel
theorem dX8_init_53 : decode cX8_init 53 = .ok (.aload_n 0, 1) := by decide +kernel
theorem dX8_init_54 : decode cX8_init 54 = .ok (.bipush 7, 2) := by decide +kernel
theorem dX8_init_56 : decode cX8_init 56 = .ok (.newarray .int, 2) := by decide +kernel
theorem dX8_init_58 : decode cX8_init 58 = .ok (.putfield 29, 3) := by decide +kernel
theorem dX8_init_61 : decode cX8_init 61 = .ok (.aload_n 0, 1) := by decide +kernel
theorem dX8_init_62 : decode cX8_init 62 = .ok (.bipush 44, 2) := by decide +kernel
theorem dX8_init_64 : decode cX8_init 64 = .ok (.newarray .int, 2) := by decide +kernel
theorem dX8_init_66 : decode cX8_init 66 = .ok (.putfield 32, 3) := by decide +kernel
theorem dX8_init_69 : decode cX8_init 69 = .ok (.aload_n 0, 1) := by decide +kernel
theorem dX8_init_70 : decode cX8_init 70 = .ok (.getfield 7, 3) := by decide +kernel
theorem dX8_init_73 : decode cX8_init 73 = .ok (.iconst 1, 1) := by decide +kernel
theorem dX8_init_74 : decode cX8_init 74 = .ok (.iconst 2, 1) := by decide +kernel
theorem dX8_init_75 : decode cX8_init 75 = .ok (.iastore, 1) := by decide +kernel
theorem dX8_init_76 : decode cX8_init 76 = .ok (.aload_n 0, 1) := by decide +kernel
theorem dX8_init_77 : decode cX8_init 77 = .ok (.getfield 7, 3) := by decide +kernel
theorem dX8_init_80 : decode cX8_init 80 = .ok (.iconst 2, 1) := by decide +kernel
theorem dX8_init_81 : decode cX8_init 81 = .ok (.bipush 6, 2) := by decide +kernel
theorem dX8_init_83 : decode cX8_init 83 = .ok (.iastore, 1) := by decide +kernel
theorem dX8_init_84 : decode cX8_init 84 = .ok (.return_, 1) := by decide +kernel
theorem dX8_in_0 : decode cX8_in 0 = .ok (.iload_n 0, 1) := by decide +kernel
theorem dX8_in_1 : decode cX8_in 1 = .ok (.iload_n 1, 1) := by decide +kernel
theorem dX8_in_2 : decode cX8_in 2 = .ok (.if_icmp .lt 12, 3) := by decide +kernel
theorem dX8_in_5 : decode cX8_in 5 = .ok (.iload_n 0, 1) := by decide +kernel
theorem dX8_in_6 : decode cX8_in 6 = .ok (.iload_n 2, 1) := by decide +kernel
theorem dX8_in_7 : decode cX8_in 7 = .ok (.if_icmp .gt 7, 3) := by decide +kernel
theorem dX8_in_10 : decode cX8_in 10 = .ok (.iconst 1, 1) := by decide +kernel
theorem dX8_in_11 : decode cX8_in 11 = .ok (.goto 4, 3) := by decide +kernel
theorem dX8_in_14 : decode cX8_in 14 = .ok (.iconst 0, 1) := by decide +kernel
theorem dX8_in_15 : decode cX8_in 15 = .ok (.ireturn, 1) := by decide +kernel
theorem dX8_lays_0 : decode cX8_lays 0 = .ok (.iconst 0, 1) := by decide +kernel
theorem dX8_lays_1 : decode cX8_lays 1 = .ok (.istore 4, 2) := by decide +kernel
theorem dX8_lays_3 : decode cX8_lays 3 = .ok (.iload 4, 2) := by decide +kernel
theorem dX8_lays_5 : decode cX8_lays 5 = .ok (.bipush 116, 2) := by decide +kernel
theorem dX8_lays_7 : decode cX8_lays 7 = .ok (.if_icmp .ge 21, 3) := by decide +kernel
theorem dX8_lays_10 : decode cX8_lays 10 = .ok (.aload_n 2, 1) := by decide +kernel
theorem dX8_lays_11 : decode cX8_lays 11 = .ok (.iload_n 3, 1) := by decide +kernel
theorem dX8_lays_12 : decode cX8_lays 12 = .ok (.iload 4, 2) := by decide +kernel
theorem dX8_lays_14 : decode cX8_lays 14 = .ok (.iadd, 1) := by decide +kernel
theorem dX8_lays_15 : decode cX8_lays 15 = .ok (.aload_n 0, 1) := by decide +kernel
theorem dX8_lays_16 : decode cX8_lays 16 = .ok (.iload_n 1, 1) := by decide +kernel
theorem dX8_lays_17 : decode cX8_lays 17 = .ok (.iload 4, 2) := by decide +kernel
theorem dX8_lays_19 : decode cX8_lays 19 = .ok (.iadd, 1) := by decide +kernel
theorem dX8_lays_20 : decode cX8_lays 20 = .ok (.iaload, 1) := by decide +kernel
theorem dX8_lays_21 : decode cX8_lays 21 = .ok (.iastore, 1) := by decide +kernel
theorem dX8_lays_22 : decode cX8_lays 22 = .ok (.iinc 4 1, 3) := by decide +kernel
theorem dX8_lays_25 : decode cX8_lays 25 = .ok (.goto (-22), 3) := by decide +kernel
theorem dX8_lays_28 : decode cX8_lays 28 = .ok (.return_, 1) := by decide +kernel
set_option maxRecDepth 20000 in
theorem ggX8_records_X8_lays : GoodIn wsX8_records wsX8_lays := goodIn_r _ [7] (by decide +kernel) (by decide +kernel)
set_option maxRecDepth 20000 in
theorem gX8_records_X8_lays : GoodIn wsX8_records (va_wsS RX8 39 yX8_lays wsX8_lays) := goodIn_app (goodIn_of _ (by decide +kernel)) ggX8_records_X8_lays
theorem dX8_records_0 : decode cX8_records 0 = .ok (.aload_n 0, 1) := by decide +kernel
theorem dX8_records_1 : decode cX8_records 1 = .ok (.getfield 35, 3) := by decide +kernel
theorem dX8_records_4 : decode cX8_records 4 = .ok (.bipush 6, 2) := by decide +kernel
theorem dX8_records_6 : decode cX8_records 6 = .ok (.if_icmp .ne 43, 3) := by decide +kernel
theorem dX8_records_9 : decode cX8_records 9 = .ok (.iconst 0, 1) := by decide +kernel
theorem dX8_records_10 : decode cX8_records 10 = .ok (.istore_n 1, 1) := by decide +kernel
theorem dX8_records_11 : decode cX8_records 11 = .ok (.iload_n 1, 1) := by decide +kernel
theorem dX8_records_12 : decode cX8_records 12 = .ok (.sipush 580, 3) := by decide +kernel
theorem dX8_records_15 : decode cX8_records 15 = .ok (.if_icmp .ge 24, 3) := by decide +kernel
theorem dX8_records_18 : decode cX8_records 18 = .ok (.aload_n 0, 1) := by decide +kernel
theorem dX8_records_19 : decode cX8_records 19 = .ok (.getfield 16, 3) := by decide +kernel
theorem dX8_records_22 : decode cX8_records 22 = .ok (.iload_n 1, 1) := by decide +kernel
theorem dX8_records_23 : decode cX8_records 23 = .ok (.aload_n 0, 1) := by decide +kernel
theorem dX8_records_24 : decode cX8_records 24 = .ok (.getfield 16, 3) := by decide +kernel
theorem dX8_records_27 : decode cX8_records 27 = .ok (.iload_n 1, 1) := by decide +kernel
theorem dX8_records_28 : decode cX8_records 28 = .ok (.bipush 116, 2) := by decide +kernel
theorem dX8_records_30 : decode cX8_records 30 = .ok (.iadd, 1) := by decide +kernel
theorem dX8_records_31 : decode cX8_records 31 = .ok (.iaload, 1) := by decide +kernel
theorem dX8_records_32 : decode cX8_records 32 = .ok (.iastore, 1) := by decide +kernel
theorem dX8_records_33 : decode cX8_records 33 = .ok (.iinc 1 1, 3) := by decide +kernel
theorem dX8_records_36 : decode cX8_records 36 = .ok (.goto (-25), 3) := by decide +kernel
theorem dX8_records_39 : decode cX8_records 39 = .ok (.aload_n 0, 1) := by decide +kernel
theorem dX8_records_40 : decode cX8_records 40 = .ok (.dup, 1) := by decide +kernel
theorem dX8_records_41 : decode cX8_records 41 = .ok (.getfield 35, 3) := by decide +kernel
theorem dX8_records_44 : decode cX8_records 44 = .ok (.iconst 1, 1) := by decide +kernel
theorem dX8_records_45 : decode cX8_records 45 = .ok (.isub, 1) := by decide +kernel
theorem dX8_records_46 : decode cX8_records 46 = .ok (.putfield 35, 3) := by decide +kernel
theorem dX8_records_49 : decode cX8_records 49 = .ok (.aload_n 0, 1) := by decide +kernel
theorem dX8_records_50 : decode cX8_records 50 = .ok (.getfield 7, 3) := by decide +kernel
theorem dX8_records_53 : decode cX8_records 53 = .ok (.iconst 0, 1) := by decide +kernel
theorem dX8_records_54 : decode cX8_records 54 = .ok (.aload_n 0, 1) := by decide +kernel
theorem dX8_records_55 : decode cX8_records 55 = .ok (.getfield 16, 3) := by decide +kernel
theorem dX8_records_58 : decode cX8_records 58 = .ok (.bipush 116, 2) := by decide +kernel
theorem dX8_records_60 : decode cX8_records 60 = .ok (.aload_n 0, 1) := by decide +kernel
theorem dX8_records_61 : decode cX8_records 61 = .ok (.getfield 35, 3) := by decide +kernel
theorem dX8_records_64 : decode cX8_records 64 = .ok (.imul, 1) := by decide +kernel
theorem dX8_records_65 : decode cX8_records 65 = .ok (.invokestatic 39, 3) := by decide +kernel
theorem dX8_records_68 : decode cX8_records 68 = .ok (.aload_n 0, 1) := by decide +kernel
theorem dX8_records_69 : decode cX8_records 69 = .ok (.dup, 1) := by decide +kernel
theorem dX8_records_70 : decode cX8_records 70 = .ok (.getfield 35, 3) := by decide +kernel
theorem dX8_records_73 : decode cX8_records 73 = .ok (.iconst 1, 1) := by decide +kernel
theorem dX8_records_74 : decode cX8_records 74 = .ok (.iadd, 1) := by decide +kernel
theorem dX8_records_75 : decode cX8_records 75 = .ok (.putfield 35, 3) := by decide +kernel
theorem dX8_records_78 : decode cX8_records 78 = .ok (.return_, 1) := by decide +kernel
set_option maxRecDepth 20000 in
theorem ggX8_isPlace_X8_in : GoodIn wsX8_isPlace wsX8_in := goodIn_r _ [4] (by decide +kernel) (by decide +kernel)
set_option maxRecDepth 20000 in
theorem gX8_isPlace_X8_in : GoodIn wsX8_isPlace (va_wsS RX8 43 yX8_in wsX8_in) := goodIn_app (goodIn_of _ (by decide +kernel)) ggX8_isPlace_X8_in
theorem dX8_isPlace_0 : decode cX8_isPlace 0 = .ok (.iload_n 0, 1) := by decide +kernel
theorem dX8_isPlace_1 : decode cX8_isPlace 1 = .ok (.iconst 0, 1) := by decide +kernel
theorem dX8_isPlace_2 : decode cX8_isPlace 2 = .ok (.bipush 63, 2) := by decide +kernel
theorem dX8_isPlace_4 : decode cX8_isPlace 4 = .ok (.invokestatic 43, 3) := by decide +kernel
theorem dX8_isPlace_7 : decode cX8_isPlace 7 = .ok (.ifCond .eq 17, 3) := by decide +kernel
theorem dX8_isPlace_10 : decode cX8_isPlace 10 = .ok (.iload_n 1, 1) := by decide +kernel
theorem dX8_isPlace_11 : decode cX8_isPlace 11 = .ok (.iconst 0, 1) := by decide +kernel
theorem dX8_isPlace_12 : decode cX8_isPlace 12 = .ok (.bipush 63, 2) := by decide +kernel
theorem dX8_isPlace_14 : decode cX8_isPlace 14 = .ok (.invokestatic 43, 3) := by decide +kernel
theorem dX8_isPlace_17 : decode cX8_isPlace 17 = .ok (.ifCond .eq 7, 3) := by decide +kernel
theorem dX8_isPlace_20 : decode cX8_isPlace 20 = .ok (.iconst 1, 1) := by decide +kernel
theorem dX8_isPlace_21 : decode cX8_isPlace 21 = .ok (.goto 4, 3) := by decide +kernel
theorem dX8_isPlace_24 : decode cX8_isPlace 24 = .ok (.iconst 0, 1) := by decide +kernel
theorem dX8_isPlace_25 : decode cX8_isPlace 25 = .ok (.ireturn, 1) := by decide +kernel
theorem dX8_pathOf_0 : decode cX8_pathOf 0 = .ok (.iconst 0, 1) := by decide +kernel
theorem dX8_pathOf_1 : decode cX8_pathOf 1 = .ok (.istore_n 2, 1) := by decide +kernel
theorem dX8_pathOf_2 : decode cX8_pathOf 2 = .ok (.iconst 5, 1) := by decide +kernel
theorem dX8_pathOf_3 : decode cX8_pathOf 3 = .ok (.istore_n 3, 1) := by decide +kernel
theorem dX8_pathOf_4 : decode cX8_pathOf 4 = .ok (.iload_n 3, 1) := by decide +kernel
theorem dX8_pathOf_5 : decode cX8_pathOf 5 = .ok (.ifCond .lt 27, 3) := by decide +kernel
theorem dX8_pathOf_8 : decode cX8_pathOf 8 = .ok (.iconst 4, 1) := by decide +kernel
theorem dX8_pathOf_9 : decode cX8_pathOf 9 = .ok (.iload_n 2, 1) := by decide +kernel
theorem dX8_pathOf_10 : decode cX8_pathOf 10 = .ok (.imul, 1) := by decide +kernel
theorem dX8_pathOf_11 : decode cX8_pathOf 11 = .ok (.iconst 2, 1) := by decide +kernel
theorem dX8_pathOf_12 : decode cX8_pathOf 12 = .ok (.iload_n 1, 1) := by decide +kernel
theorem dX8_pathOf_13 : decode cX8_pathOf 13 = .ok (.iload_n 3, 1) := by decide +kernel
theorem dX8_pathOf_14 : decode cX8_pathOf 14 = .ok (.ishr, 1) := by decide +kernel
theorem dX8_pathOf_15 : decode cX8_pathOf 15 = .ok (.iconst 1, 1) := by decide +kernel
theorem dX8_pathOf_16 : decode cX8_pathOf 16 = .ok (.iand, 1) := by decide +kernel
theorem dX8_pathOf_17 : decode cX8_pathOf 17 = .ok (.imul, 1) := by decide +kernel
theorem dX8_pathOf_18 : decode cX8_pathOf 18 = .ok (.iadd, 1) := by decide +kernel
theorem dX8_pathOf_19 : decode cX8_pathOf 19 = .ok (.iload_n 0, 1) := by decide +kernel
theorem dX8_pathOf_20 : decode cX8_pathOf 20 = .ok (.iload_n 3, 1) := by decide +kernel
theorem dX8_pathOf_21 : decode cX8_pathOf 21 = .ok (.ishr, 1) := by decide +kernel
theorem dX8_pathOf_22 : decode cX8_pathOf 22 = .ok (.iconst 1, 1) := by decide +kernel
theorem dX8_pathOf_23 : decode cX8_pathOf 23 = .ok (.iand, 1) := by decide +kernel
theorem dX8_pathOf_24 : decode cX8_pathOf 24 = .ok (.iadd, 1) := by decide +kernel
theorem dX8_pathOf_25 : decode cX8_pathOf 25 = .ok (.istore_n 2, 1) := by decide +kernel
theorem dX8_pathOf_26 : decode cX8_pathOf 26 = .ok (.iinc 3 (-1), 3) := by decide +kernel
theorem dX8_pathOf_29 : decode cX8_pathOf 29 = .ok (.goto (-25), 3) := by decide +kernel
theorem dX8_pathOf_32 : decode cX8_pathOf 32 = .ok (.iload_n 2, 1) := by decide +kernel
theorem dX8_pathOf_33 : decode cX8_pathOf 33 = .ok (.ireturn, 1) := by decide +kernel
theorem dX8_coordinate_0 : decode cX8_coordinate 0 = .ok (.iconst 0, 1) := by decide +kernel
theorem dX8_coordinate_1 : decode cX8_coordinate 1 = .ok (.istore_n 2, 1) := by decide +kernel
theorem dX8_coordinate_2 : decode cX8_coordinate 2 = .ok (.iconst 5, 1) := by decide +kernel
theorem dX8_coordinate_3 : decode cX8_coordinate 3 = .ok (.istore_n 3, 1) := by decide +kernel
theorem dX8_coordinate_4 : decode cX8_coordinate 4 = .ok (.iload_n 3, 1) := by decide +kernel
theorem dX8_coordinate_5 : decode cX8_coordinate 5 = .ok (.ifCond .lt 23, 3) := by decide +kernel
theorem dX8_coordinate_8 : decode cX8_coordinate 8 = .ok (.iconst 2, 1) := by decide +kernel
theorem dX8_coordinate_9 : decode cX8_coordinate 9 = .ok (.iload_n 2, 1) := by decide +kernel
theorem dX8_coordinate_10 : decode cX8_coordinate 10 = .ok (.imul, 1) := by decide +kernel
theorem dX8_coordinate_11 : decode cX8_coordinate 11 = .ok (.iload_n 0, 1) := by decide +kernel
theorem dX8_coordinate_12 : decode cX8_coordinate 12 = .ok (.iconst 2, 1) := by decide +kernel
theorem dX8_coordinate_13 : decode cX8_coordinate 13 = .ok (.iload_n 3, 1) := by decide +kernel
theorem dX8_coordinate_14 : decode cX8_coordinate 14 = .ok (.imul, 1) := by decide +kernel
theorem dX8_coordinate_15 : decode cX8_coordinate 15 = .ok (.iload_n 1, 1) := by decide +kernel
theorem dX8_coordinate_16 : decode cX8_coordinate 16 = .ok (.iadd, 1) := by decide +kernel
theorem dX8_coordinate_17 : decode cX8_coordinate 17 = .ok (.ishr, 1) := by decide +kernel
theorem dX8_coordinate_18 : decode cX8_coordinate 18 = .ok (.iconst 1, 1) := by decide +kernel
theorem dX8_coordinate_19 : decode cX8_coordinate 19 = .ok (.iand, 1) := by decide +kernel
theorem dX8_coordinate_20 : decode cX8_coordinate 20 = .ok (.iadd, 1) := by decide +kernel
theorem dX8_coordinate_21 : decode cX8_coordinate 21 = .ok (.istore_n 2, 1) := by decide +kernel
theorem dX8_coordinate_22 : decode cX8_coordinate 22 = .ok (.iinc 3 (-1), 3) := by decide +kernel
theorem dX8_coordinate_25 : decode cX8_coordinate 25 = .ok (.goto (-21), 3) := by decide +kernel
theorem dX8_coordinate_28 : decode cX8_coordinate 28 = .ok (.iload_n 2, 1) := by decide +kernel
theorem dX8_coordinate_29 : decode cX8_coordinate 29 = .ok (.ireturn, 1) := by decide +kernel
theorem dX8_depthOf_0 : decode cX8_depthOf 0 = .ok (.iconst 0, 1) := by decide +kernel
theorem dX8_depthOf_1 : decode cX8_depthOf 1 = .ok (.istore_n 1, 1) := by decide +kernel
theorem dX8_depthOf_2 : decode cX8_depthOf 2 = .ok (.iload_n 1, 1) := by decide +kernel
theorem dX8_depthOf_3 : decode cX8_depthOf 3 = .ok (.bipush 6, 2) := by decide +kernel
theorem dX8_depthOf_5 : decode cX8_depthOf 5 = .ok (.if_icmp .gt 20, 3) := by decide +kernel
theorem dX8_depthOf_8 : decode cX8_depthOf 8 = .ok (.iload_n 0, 1) := by decide +kernel
theorem dX8_depthOf_9 : decode cX8_depthOf 9 = .ok (.iconst 2, 1) := by decide +kernel
theorem dX8_depthOf_10 : decode cX8_depthOf 10 = .ok (.iload_n 1, 1) := by decide +kernel
theorem dX8_depthOf_11 : decode cX8_depthOf 11 = .ok (.imul, 1) := by decide +kernel
theorem dX8_depthOf_12 : decode cX8_depthOf 12 = .ok (.ishr, 1) := by decide +kernel
theorem dX8_depthOf_13 : decode cX8_depthOf 13 = .ok (.iconst 1, 1) := by decide +kernel
theorem dX8_depthOf_14 : decode cX8_depthOf 14 = .ok (.if_icmp .ne 5, 3) := by decide +kernel
theorem dX8_depthOf_17 : decode cX8_depthOf 17 = .ok (.iload_n 1, 1) := by decide +kernel
theorem dX8_depthOf_18 : decode cX8_depthOf 18 = .ok (.ireturn, 1) := by decide +kernel
theorem dX8_depthOf_19 : decode cX8_depthOf 19 = .ok (.iinc 1 1, 3) := by decide +kernel
theorem dX8_depthOf_22 : decode cX8_depthOf 22 = .ok (.goto (-20), 3) := by decide +kernel
theorem dX8_depthOf_25 : decode cX8_depthOf 25 = .ok (.bipush (-6), 2) := by decide +kernel
theorem dX8_depthOf_27 : decode cX8_depthOf 27 = .ok (.ireturn, 1) := by decide +kernel
set_option maxRecDepth 20000 in
theorem ggX8_isNumber_X8_depthOf : GoodIn wsX8_isNumber wsX8_depthOf := goodIn_r _ [4] (by decide +kernel) (by decide +kernel)
set_option maxRecDepth 20000 in
theorem gX8_isNumber_X8_depthOf : GoodIn wsX8_isNumber (va_wsS RX8 47 yX8_depthOf wsX8_depthOf) := goodIn_app (goodIn_of _ (by decide +kernel)) ggX8_isNumber_X8_depthOf
theorem dX8_isNumber_0 : decode cX8_isNumber 0 = .ok (.iload_n 0, 1) := by decide +kernel
theorem dX8_isNumber_1 : decode cX8_isNumber 1 = .ok (.ifCond .le 16, 3) := by decide +kernel
theorem dX8_isNumber_4 : decode cX8_isNumber 4 = .ok (.iload_n 0, 1) := by decide +kernel
theorem dX8_isNumber_5 : decode cX8_isNumber 5 = .ok (.invokestatic 47, 3) := by decide +kernel
theorem dX8_isNumber_8 : decode cX8_isNumber 8 = .ok (.bipush (-6), 2) := by decide +kernel
theorem dX8_isNumber_10 : decode cX8_isNumber 10 = .ok (.if_icmp .eq 7, 3) := by decide +kernel
theorem dX8_isNumber_13 : decode cX8_isNumber 13 = .ok (.iconst 1, 1) := by decide +kernel
theorem dX8_isNumber_14 : decode cX8_isNumber 14 = .ok (.goto 4, 3) := by decide +kernel
theorem dX8_isNumber_17 : decode cX8_isNumber 17 = .ok (.iconst 0, 1) := by decide +kernel
theorem dX8_isNumber_18 : decode cX8_isNumber 18 = .ok (.ireturn, 1) := by decide +kernel
theorem dX8_tileOf_0 : decode cX8_tileOf 0 = .ok (.sipush 4096, 3) := by decide +kernel
theorem dX8_tileOf_3 : decode cX8_tileOf 3 = .ok (.iload_n 0, 1) := by decide +kernel
theorem dX8_tileOf_4 : decode cX8_tileOf 4 = .ok (.iadd, 1) := by decide +kernel
theorem dX8_tileOf_5 : decode cX8_tileOf 5 = .ok (.iconst 2, 1) := by decide +kernel
theorem dX8_tileOf_6 : decode cX8_tileOf 6 = .ok (.bipush 6, 2) := by decide +kernel
theorem dX8_tileOf_8 : decode cX8_tileOf 8 = .ok (.iload_n 1, 1) := by decide +kernel
theorem dX8_tileOf_9 : decode cX8_tileOf 9 = .ok (.isub, 1) := by decide +kernel
theorem dX8_tileOf_10 : decode cX8_tileOf 10 = .ok (.imul, 1) := by decide +kernel
theorem dX8_tileOf_11 : decode cX8_tileOf 11 = .ok (.ishr, 1) := by decide +kernel
theorem dX8_tileOf_12 : decode cX8_tileOf 12 = .ok (.ireturn, 1) := by decide +kernel
set_option maxRecDepth 20000 in
theorem ggX8_firstOf_X8_depthOf : GoodIn wsX8_firstOf wsX8_depthOf := goodIn_r _ [4] (by decide +kernel) (by decide +kernel)
set_option maxRecDepth 20000 in
theorem gX8_firstOf_X8_depthOf : GoodIn wsX8_firstOf (va_wsS RX8 47 yX8_depthOf wsX8_depthOf) := goodIn_app (goodIn_of _ (by decide +kernel)) ggX8_firstOf_X8_depthOf
theorem dX8_firstOf_0 : decode cX8_firstOf 0 = .ok (.iload_n 0, 1) := by decide +kernel
theorem dX8_firstOf_1 : decode cX8_firstOf 1 = .ok (.iconst 2, 1) := by decide +kernel
theorem dX8_firstOf_2 : decode cX8_firstOf 2 = .ok (.bipush 6, 2) := by decide +kernel
theorem dX8_firstOf_4 : decode cX8_firstOf 4 = .ok (.iload_n 0, 1) := by decide +kernel
theorem dX8_firstOf_5 : decode cX8_firstOf 5 = .ok (.invokestatic 47, 3) := by decide +kernel
theorem dX8_firstOf_8 : decode cX8_firstOf 8 = .ok (.isub, 1) := by decide +kernel
theorem dX8_firstOf_9 : decode cX8_firstOf 9 = .ok (.imul, 1) := by decide +kernel
theorem dX8_firstOf_10 : decode cX8_firstOf 10 = .ok (.ishl, 1) := by decide +kernel
theorem dX8_firstOf_11 : decode cX8_firstOf 11 = .ok (.sipush 4096, 3) := by decide +kernel
theorem dX8_firstOf_14 : decode cX8_firstOf 14 = .ok (.isub, 1) := by decide +kernel
theorem dX8_firstOf_15 : decode cX8_firstOf 15 = .ok (.ireturn, 1) := by decide +kernel
set_option maxRecDepth 20000 in
theorem ggX8_sizeOf_X8_depthOf : GoodIn wsX8_sizeOf wsX8_depthOf := goodIn_r _ [4] (by decide +kernel) (by decide +kernel)
set_option maxRecDepth 20000 in
theorem gX8_sizeOf_X8_depthOf : GoodIn wsX8_sizeOf (va_wsS RX8 47 yX8_depthOf wsX8_depthOf) := goodIn_app (goodIn_of _ (by decide +kernel)) ggX8_sizeOf_X8_depthOf
theorem dX8_sizeOf_0 : decode cX8_sizeOf 0 = .ok (.bipush 64, 2) := by decide +kernel
theorem dX8_sizeOf_2 : decode cX8_sizeOf 2 = .ok (.iload_n 0, 1) := by decide +kernel
theorem dX8_sizeOf_3 : decode cX8_sizeOf 3 = .ok (.invokestatic 47, 3) := by decide +kernel
theorem dX8_sizeOf_6 : decode cX8_sizeOf 6 = .ok (.ishr, 1) := by decide +kernel
theorem dX8_sizeOf_7 : decode cX8_sizeOf 7 = .ok (.ireturn, 1) := by decide +kernel
set_option maxRecDepth 20000 in
theorem ggX8_pathAt_X8_pathOf : GoodIn wsX8_pathAt wsX8_pathOf := goodIn_r _ [4] (by decide +kernel) (by decide +kernel)
set_option maxRecDepth 20000 in
theorem gX8_pathAt_X8_pathOf : GoodIn wsX8_pathAt (va_wsS RX8 51 yX8_pathOf wsX8_pathOf) := goodIn_app (goodIn_of _ (by decide +kernel)) ggX8_pathAt_X8_pathOf
theorem dX8_pathAt_0 : decode cX8_pathAt 0 = .ok (.aload_n 0, 1) := by decide +kernel
theorem dX8_pathAt_1 : decode cX8_pathAt 1 = .ok (.iconst 4, 1) := by decide +kernel
theorem dX8_pathAt_2 : decode cX8_pathAt 2 = .ok (.iconst 2, 1) := by decide +kernel
theorem dX8_pathAt_3 : decode cX8_pathAt 3 = .ok (.iload_n 1, 1) := by decide +kernel
theorem dX8_pathAt_4 : decode cX8_pathAt 4 = .ok (.imul, 1) := by decide +kernel
theorem dX8_pathAt_5 : decode cX8_pathAt 5 = .ok (.iadd, 1) := by decide +kernel
theorem dX8_pathAt_6 : decode cX8_pathAt 6 = .ok (.iaload, 1) := by decide +kernel
theorem dX8_pathAt_7 : decode cX8_pathAt 7 = .ok (.aload_n 0, 1) := by decide +kernel
theorem dX8_pathAt_8 : decode cX8_pathAt 8 = .ok (.iconst 4, 1) := by decide +kernel
theorem dX8_pathAt_9 : decode cX8_pathAt 9 = .ok (.iconst 2, 1) := by decide +kernel
theorem dX8_pathAt_10 : decode cX8_pathAt 10 = .ok (.iload_n 1, 1) := by decide +kernel
theorem dX8_pathAt_11 : decode cX8_pathAt 11 = .ok (.imul, 1) := by decide +kernel
theorem dX8_pathAt_12 : decode cX8_pathAt 12 = .ok (.iadd, 1) := by decide +kernel
theorem dX8_pathAt_13 : decode cX8_pathAt 13 = .ok (.iconst 1, 1) := by decide +kernel
theorem dX8_pathAt_14 : decode cX8_pathAt 14 = .ok (.iadd, 1) := by decide +kernel
theorem dX8_pathAt_15 : decode cX8_pathAt 15 = .ok (.iaload, 1) := by decide +kernel
theorem dX8_pathAt_16 : decode cX8_pathAt 16 = .ok (.invokestatic 51, 3) := by decide +kernel
theorem dX8_pathAt_19 : decode cX8_pathAt 19 = .ok (.ireturn, 1) := by decide +kernel
set_option maxRecDepth 20000 in
theorem ggX8_pointsIn_X8_depthOf : GoodIn wsX8_pointsIn wsX8_depthOf := goodIn_r _ [4] (by decide +kernel) (by decide +kernel)
set_option maxRecDepth 20000 in
theorem gX8_pointsIn_X8_depthOf : GoodIn wsX8_pointsIn (va_wsS RX8 47 yX8_depthOf wsX8_depthOf) := goodIn_app (goodIn_of _ (by decide +kernel)) ggX8_pointsIn_X8_depthOf
set_option maxRecDepth 20000 in
theorem ggX8_pointsIn_X8_pathAt : GoodIn wsX8_pointsIn wsX8_pathAt := goodIn_r _ [7, 8, 9, 3, 10] (by decide +kernel) (by decide +kernel)
set_option maxRecDepth 20000 in
theorem gX8_pointsIn_X8_pathAt : GoodIn wsX8_pointsIn (va_wsS RX8 55 yX8_pathAt wsX8_pathAt) := goodIn_app (goodIn_of _ (by decide +kernel)) ggX8_pointsIn_X8_pathAt
set_option maxRecDepth 20000 in
theorem ggX8_pointsIn_X8_tileOf : GoodIn wsX8_pointsIn wsX8_tileOf := goodIn_r _ [13] (by decide +kernel) (by decide +kernel)
set_option maxRecDepth 20000 in
theorem gX8_pointsIn_X8_tileOf : GoodIn wsX8_pointsIn (va_wsS RX8 59 yX8_tileOf wsX8_tileOf) := goodIn_app (goodIn_of _ (by decide +kernel)) ggX8_pointsIn_X8_tileOf
theorem dX8_pointsIn_0 : decode cX8_pointsIn 0 = .ok (.iload_n 1, 1) := by decide +kernel
theorem dX8_pointsIn_1 : decode cX8_pointsIn 1 = .ok (.invokestatic 47, 3) := by decide +kernel
theorem dX8_pointsIn_4 : decode cX8_pointsIn 4 = .ok (.istore_n 2, 1) := by decide +kernel
theorem dX8_pointsIn_5 : decode cX8_pointsIn 5 = .ok (.iconst 0, 1) := by decide +kernel
theorem dX8_pointsIn_6 : decode cX8_pointsIn 6 = .ok (.istore_n 3, 1) := by decide +kernel
theorem dX8_pointsIn_7 : decode cX8_pointsIn 7 = .ok (.iconst 0, 1) := by decide +kernel
theorem dX8_pointsIn_8 : decode cX8_pointsIn 8 = .ok (.istore 4, 2) := by decide +kernel
theorem dX8_pointsIn_10 : decode cX8_pointsIn 10 = .ok (.iload 4, 2) := by decide +kernel
theorem dX8_pointsIn_12 : decode cX8_pointsIn 12 = .ok (.aload_n 0, 1) := by decide +kernel
theorem dX8_pointsIn_13 : decode cX8_pointsIn 13 = .ok (.iconst 0, 1) := by decide +kernel
theorem dX8_pointsIn_14 : decode cX8_pointsIn 14 = .ok (.iaload, 1) := by decide +kernel
theorem dX8_pointsIn_15 : decode cX8_pointsIn 15 = .ok (.if_icmp .ge 31, 3) := by decide +kernel
theorem dX8_pointsIn_18 : decode cX8_pointsIn 18 = .ok (.iload_n 3, 1) := by decide +kernel
theorem dX8_pointsIn_19 : decode cX8_pointsIn 19 = .ok (.aload_n 0, 1) := by decide +kernel
theorem dX8_pointsIn_20 : decode cX8_pointsIn 20 = .ok (.iload 4, 2) := by decide +kernel
theorem dX8_pointsIn_22 : decode cX8_pointsIn 22 = .ok (.invokestatic 55, 3) := by decide +kernel
theorem dX8_pointsIn_25 : decode cX8_pointsIn 25 = .ok (.iload_n 2, 1) := by decide +kernel
theorem dX8_pointsIn_26 : decode cX8_pointsIn 26 = .ok (.invokestatic 59, 3) := by decide +kernel
theorem dX8_pointsIn_29 : decode cX8_pointsIn 29 = .ok (.iload_n 1, 1) := by decide +kernel
theorem dX8_pointsIn_30 : decode cX8_pointsIn 30 = .ok (.if_icmp .ne 7, 3) := by decide +kernel
theorem dX8_pointsIn_33 : decode cX8_pointsIn 33 = .ok (.iconst 1, 1) := by decide +kernel
theorem dX8_pointsIn_34 : decode cX8_pointsIn 34 = .ok (.goto 4, 3) := by decide +kernel
theorem dX8_pointsIn_37 : decode cX8_pointsIn 37 = .ok (.iconst 0, 1) := by decide +kernel
theorem dX8_pointsIn_38 : decode cX8_pointsIn 38 = .ok (.iadd, 1) := by decide +kernel
theorem dX8_pointsIn_39 : decode cX8_pointsIn 39 = .ok (.istore_n 3, 1) := by decide +kernel
theorem dX8_pointsIn_40 : decode cX8_pointsIn 40 = .ok (.iinc 4 1, 3) := by decide +kernel
theorem dX8_pointsIn_43 : decode cX8_pointsIn 43 = .ok (.goto (-33), 3) := by decide +kernel
theorem dX8_pointsIn_46 : decode cX8_pointsIn 46 = .ok (.iload_n 3, 1) := by decide +kernel
theorem dX8_pointsIn_47 : decode cX8_pointsIn 47 = .ok (.ireturn, 1) := by decide +kernel
theorem dX8_isOrdered_0 : decode cX8_isOrdered 0 = .ok (.iconst 0, 1) := by decide +kernel
theorem dX8_isOrdered_1 : decode cX8_isOrdered 1 = .ok (.istore_n 2, 1) := by decide +kernel
theorem dX8_isOrdered_2 : decode cX8_isOrdered 2 = .ok (.iconst 0, 1) := by decide +kernel
theorem dX8_isOrdered_3 : decode cX8_isOrdered 3 = .ok (.istore_n 3, 1) := by decide +kernel
theorem dX8_isOrdered_4 : decode cX8_isOrdered 4 = .ok (.iload_n 3, 1) := by decide +kernel
theorem dX8_isOrdered_5 : decode cX8_isOrdered 5 = .ok (.aload_n 0, 1) := by decide +kernel
theorem dX8_isOrdered_6 : decode cX8_isOrdered 6 = .ok (.iconst 3, 1) := by decide +kernel
theorem dX8_isOrdered_7 : decode cX8_isOrdered 7 = .ok (.iaload, 1) := by decide +kernel
theorem dX8_isOrdered_8 : decode cX8_isOrdered 8 = .ok (.if_icmp .ge 29, 3) := by decide +kernel
theorem dX8_isOrdered_11 : decode cX8_isOrdered 11 = .ok (.iload_n 2, 1) := by decide +kernel
theorem dX8_isOrdered_12 : decode cX8_isOrdered 12 = .ok (.ifCond .ne 13, 3) := by decide +kernel
theorem dX8_isOrdered_15 : decode cX8_isOrdered 15 = .ok (.aload_n 0, 1) := by decide +kernel
theorem dX8_isOrdered_16 : decode cX8_isOrdered 16 = .ok (.bipush 104, 2) := by decide +kernel
theorem dX8_isOrdered_18 : decode cX8_isOrdered 18 = .ok (.iload_n 3, 1) := by decide +kernel
theorem dX8_isOrdered_19 : decode cX8_isOrdered 19 = .ok (.iadd, 1) := by decide +kernel
theorem dX8_isOrdered_20 : decode cX8_isOrdered 20 = .ok (.iaload, 1) := by decide +kernel
theorem dX8_isOrdered_21 : decode cX8_isOrdered 21 = .ok (.iload_n 1, 1) := by decide +kernel
theorem dX8_isOrdered_22 : decode cX8_isOrdered 22 = .ok (.if_icmp .ne 7, 3) := by decide +kernel
theorem dX8_isOrdered_25 : decode cX8_isOrdered 25 = .ok (.iconst 1, 1) := by decide +kernel
theorem dX8_isOrdered_26 : decode cX8_isOrdered 26 = .ok (.goto 4, 3) := by decide +kernel
theorem dX8_isOrdered_29 : decode cX8_isOrdered 29 = .ok (.iconst 0, 1) := by decide +kernel
theorem dX8_isOrdered_30 : decode cX8_isOrdered 30 = .ok (.istore_n 2, 1) := by decide +kernel
theorem dX8_isOrdered_31 : decode cX8_isOrdered 31 = .ok (.iinc 3 1, 3) := by decide +kernel
theorem dX8_isOrdered_34 : decode cX8_isOrdered 34 = .ok (.goto (-30), 3) := by decide +kernel
theorem dX8_isOrdered_37 : decode cX8_isOrdered 37 = .ok (.iload_n 2, 1) := by decide +kernel
theorem dX8_isOrdered_38 : decode cX8_isOrdered 38 = .ok (.ireturn, 1) := by decide +kernel
set_option maxRecDepth 20000 in
theorem ggX8_isSplit_X8_depthOf : GoodIn wsX8_isSplit wsX8_depthOf := goodIn_r _ [4] (by decide +kernel) (by decide +kernel)
set_option maxRecDepth 20000 in
theorem gX8_isSplit_X8_depthOf : GoodIn wsX8_isSplit (va_wsS RX8 47 yX8_depthOf wsX8_depthOf) := goodIn_app (goodIn_of _ (by decide +kernel)) ggX8_isSplit_X8_depthOf
set_option maxRecDepth 20000 in
theorem ggX8_isSplit_X8_isOrdered : GoodIn wsX8_isSplit wsX8_isOrdered := goodIn_r _ [7] (by decide +kernel) (by decide +kernel)
set_option maxRecDepth 20000 in
theorem gX8_isSplit_X8_isOrdered : GoodIn wsX8_isSplit (va_wsS RX8 62 yX8_isOrdered wsX8_isOrdered) := goodIn_app (goodIn_of _ (by decide +kernel)) ggX8_isSplit_X8_isOrdered
set_option maxRecDepth 20000 in
theorem ggX8_isSplit_X8_pointsIn : GoodIn wsX8_isSplit wsX8_pointsIn := goodIn_r _ [10, 1, 2, 3, 4, 11, 12, 13, 14, 15, 16, 17, 18, 19] (by decide +kernel) (by decide +kernel)
set_option maxRecDepth 20000 in
theorem gX8_isSplit_X8_pointsIn : GoodIn wsX8_isSplit (va_wsS RX8 66 yX8_pointsIn wsX8_pointsIn) := goodIn_app (goodIn_of _ (by decide +kernel)) ggX8_isSplit_X8_pointsIn
theorem dX8_isSplit_0 : decode cX8_isSplit 0 = .ok (.iload_n 1, 1) := by decide +kernel
theorem dX8_isSplit_1 : decode cX8_isSplit 1 = .ok (.invokestatic 47, 3) := by decide +kernel
theorem dX8_isSplit_4 : decode cX8_isSplit 4 = .ok (.aload_n 0, 1) := by decide +kernel
theorem dX8_isSplit_5 : decode cX8_isSplit 5 = .ok (.iconst 2, 1) := by decide +kernel
theorem dX8_isSplit_6 : decode cX8_isSplit 6 = .ok (.iaload, 1) := by decide +kernel
theorem dX8_isSplit_7 : decode cX8_isSplit 7 = .ok (.if_icmp .ge 26, 3) := by decide +kernel
theorem dX8_isSplit_10 : decode cX8_isSplit 10 = .ok (.aload_n 0, 1) := by decide +kernel
theorem dX8_isSplit_11 : decode cX8_isSplit 11 = .ok (.iload_n 1, 1) := by decide +kernel
theorem dX8_isSplit_12 : decode cX8_isSplit 12 = .ok (.invokestatic 62, 3) := by decide +kernel
theorem dX8_isSplit_15 : decode cX8_isSplit 15 = .ok (.ifCond .ne 14, 3) := by decide +kernel
theorem dX8_isSplit_18 : decode cX8_isSplit 18 = .ok (.aload_n 0, 1) := by decide +kernel
theorem dX8_isSplit_19 : decode cX8_isSplit 19 = .ok (.iload_n 1, 1) := by decide +kernel
theorem dX8_isSplit_20 : decode cX8_isSplit 20 = .ok (.invokestatic 66, 3) := by decide +kernel
theorem dX8_isSplit_23 : decode cX8_isSplit 23 = .ok (.aload_n 0, 1) := by decide +kernel
theorem dX8_isSplit_24 : decode cX8_isSplit 24 = .ok (.iconst 1, 1) := by decide +kernel
theorem dX8_isSplit_25 : decode cX8_isSplit 25 = .ok (.iaload, 1) := by decide +kernel
theorem dX8_isSplit_26 : decode cX8_isSplit 26 = .ok (.if_icmp .le 7, 3) := by decide +kernel
theorem dX8_isSplit_29 : decode cX8_isSplit 29 = .ok (.iconst 1, 1) := by decide +kernel
theorem dX8_isSplit_30 : decode cX8_isSplit 30 = .ok (.goto 4, 3) := by decide +kernel
theorem dX8_isSplit_33 : decode cX8_isSplit 33 = .ok (.iconst 0, 1) := by decide +kernel
theorem dX8_isSplit_34 : decode cX8_isSplit 34 = .ok (.ireturn, 1) := by decide +kernel
set_option maxRecDepth 20000 in
theorem ggX8_leafOf_X8_tileOf : GoodIn wsX8_leafOf wsX8_tileOf := goodIn_r _ [4] (by decide +kernel) (by decide +kernel)
set_option maxRecDepth 20000 in
theorem gX8_leafOf_X8_tileOf : GoodIn wsX8_leafOf (va_wsS RX8 59 yX8_tileOf wsX8_tileOf) := goodIn_app (goodIn_of _ (by decide +kernel)) ggX8_leafOf_X8_tileOf
set_option maxRecDepth 20000 in
theorem ggX8_leafOf_X8_isSplit : GoodIn wsX8_leafOf wsX8_isSplit := goodIn_r _ [7, 8, 9, 3, 10, 11, 12, 13, 14, 15, 16, 17, 18, 19, 20, 21, 22, 1, 2, 4] (by decide +kernel) (by decide +kernel)
set_option maxRecDepth 20000 in
theorem gX8_leafOf_X8_isSplit : GoodIn wsX8_leafOf (va_wsS RX8 69 yX8_isSplit wsX8_isSplit) := goodIn_app (goodIn_of _ (by decide +kernel)) ggX8_leafOf_X8_isSplit
theorem dX8_leafOf_0 : decode cX8_leafOf 0 = .ok (.iconst 0, 1) := by decide +kernel
theorem dX8_leafOf_1 : decode cX8_leafOf 1 = .ok (.istore_n 2, 1) := by decide +kernel
theorem dX8_leafOf_2 : decode cX8_leafOf 2 = .ok (.aload_n 0, 1) := by decide +kernel
theorem dX8_leafOf_3 : decode cX8_leafOf 3 = .ok (.iload_n 1, 1) := by decide +kernel
theorem dX8_leafOf_4 : decode cX8_leafOf 4 = .ok (.iload_n 2, 1) := by decide +kernel
theorem dX8_leafOf_5 : decode cX8_leafOf 5 = .ok (.invokestatic 59, 3) := by decide +kernel
theorem dX8_leafOf_8 : decode cX8_leafOf 8 = .ok (.invokestatic 69, 3) := by decide +kernel
theorem dX8_leafOf_11 : decode cX8_leafOf 11 = .ok (.ifCond .eq 9, 3) := by decide +kernel
theorem dX8_leafOf_14 : decode cX8_leafOf 14 = .ok (.iinc 2 1, 3) := by decide +kernel
theorem dX8_leafOf_17 : decode cX8_leafOf 17 = .ok (.goto (-15), 3) := by decide +kernel
theorem dX8_leafOf_20 : decode cX8_leafOf 20 = .ok (.iload_n 1, 1) := by decide +kernel
theorem dX8_leafOf_21 : decode cX8_leafOf 21 = .ok (.iload_n 2, 1) := by decide +kernel
theorem dX8_leafOf_22 : decode cX8_leafOf 22 = .ok (.invokestatic 59, 3) := by decide +kernel
theorem dX8_leafOf_25 : decode cX8_leafOf 25 = .ok (.ireturn, 1) := by decide +kernel
set_option maxRecDepth 20000 in
theorem ggX8_isThere_X8_firstOf : GoodIn wsX8_isThere wsX8_firstOf := goodIn_r _ [4, 5, 6, 3, 7] (by decide +kernel) (by decide +kernel)
set_option maxRecDepth 20000 in
theorem gX8_isThere_X8_firstOf : GoodIn wsX8_isThere (va_wsS RX8 72 yX8_firstOf wsX8_firstOf) := goodIn_app (goodIn_of _ (by decide +kernel)) ggX8_isThere_X8_firstOf
set_option maxRecDepth 20000 in
theorem ggX8_isThere_X8_leafOf : GoodIn wsX8_isThere wsX8_leafOf := goodIn_r _ [10, 11, 12, 3, 13, 14, 15, 16, 5, 6, 7, 17, 18, 19, 20, 21, 22, 23, 24, 25, 26, 27, 28] (by decide +kernel) (by decide +kernel)
set_option maxRecDepth 20000 in
theorem gX8_isThere_X8_leafOf : GoodIn wsX8_isThere (va_wsS RX8 75 yX8_leafOf wsX8_leafOf) := goodIn_app (goodIn_of _ (by decide +kernel)) ggX8_isThere_X8_leafOf
set_option maxRecDepth 20000 in
theorem ggX8_isThere_X8_depthOf : GoodIn wsX8_isThere wsX8_depthOf := goodIn_r _ [7] (by decide +kernel) (by decide +kernel)
set_option maxRecDepth 20000 in
theorem gX8_isThere_X8_depthOf : GoodIn wsX8_isThere (va_wsS RX8 47 yX8_depthOf wsX8_depthOf) := goodIn_app (goodIn_of _ (by decide +kernel)) ggX8_isThere_X8_depthOf
theorem dX8_isThere_0 : decode cX8_isThere 0 = .ok (.aload_n 0, 1) := by decide +kernel
theorem dX8_isThere_1 : decode cX8_isThere 1 = .ok (.iload_n 1, 1) := by decide +kernel
theorem dX8_isThere_2 : decode cX8_isThere 2 = .ok (.invokestatic 72, 3) := by decide +kernel
theorem dX8_isThere_5 : decode cX8_isThere 5 = .ok (.invokestatic 75, 3) := by decide +kernel
theorem dX8_isThere_8 : decode cX8_isThere 8 = .ok (.invokestatic 47, 3) := by decide +kernel
theorem dX8_isThere_11 : decode cX8_isThere 11 = .ok (.iload_n 1, 1) := by decide +kernel
theorem dX8_isThere_12 : decode cX8_isThere 12 = .ok (.invokestatic 47, 3) := by decide +kernel
theorem dX8_isThere_15 : decode cX8_isThere 15 = .ok (.if_icmp .lt 7, 3) := by decide +kernel
theorem dX8_isThere_18 : decode cX8_isThere 18 = .ok (.iconst 1, 1) := by decide +kernel
theorem dX8_isThere_19 : decode cX8_isThere 19 = .ok (.goto 4, 3) := by decide +kernel
theorem dX8_isThere_22 : decode cX8_isThere 22 = .ok (.iconst 0, 1) := by decide +kernel
theorem dX8_isThere_23 : decode cX8_isThere 23 = .ok (.ireturn, 1) := by decide +kernel
set_option maxRecDepth 20000 in
theorem ggX8_pathsIn_X8_depthOf : GoodIn wsX8_pathsIn wsX8_depthOf := goodIn_r _ [4] (by decide +kernel) (by decide +kernel)
set_option maxRecDepth 20000 in
theorem gX8_pathsIn_X8_depthOf : GoodIn wsX8_pathsIn (va_wsS RX8 47 yX8_depthOf wsX8_depthOf) := goodIn_app (goodIn_of _ (by decide +kernel)) ggX8_pathsIn_X8_depthOf
theorem dX8_pathsIn_0 : decode cX8_pathsIn 0 = .ok (.sipush 4096, 3) := by decide +kernel
theorem dX8_pathsIn_3 : decode cX8_pathsIn 3 = .ok (.iconst 2, 1) := by decide +kernel
theorem dX8_pathsIn_4 : decode cX8_pathsIn 4 = .ok (.iload_n 0, 1) := by decide +kernel
theorem dX8_pathsIn_5 : decode cX8_pathsIn 5 = .ok (.invokestatic 47, 3) := by decide +kernel
theorem dX8_pathsIn_8 : decode cX8_pathsIn 8 = .ok (.imul, 1) := by decide +kernel
theorem dX8_pathsIn_9 : decode cX8_pathsIn 9 = .ok (.ishr, 1) := by decide +kernel
theorem dX8_pathsIn_10 : decode cX8_pathsIn 10 = .ok (.ireturn, 1) := by decide +kernel
set_option maxRecDepth 20000 in
theorem ggX8_leaves_X8_leafOf : GoodIn wsX8_leaves wsX8_leafOf := goodIn_r _ [4, 5, 6, 3, 7, 8, 9, 10, 11, 12, 13, 14, 15, 16, 17, 18, 19, 20, 21, 22, 23, 24, 25] (by decide +kernel) (by decide +kernel)
set_option maxRecDepth 20000 in
theorem gX8_leaves_X8_leafOf : GoodIn wsX8_leaves (va_wsS RX8 75 yX8_leafOf wsX8_leafOf) := goodIn_app (goodIn_of _ (by decide +kernel)) ggX8_leaves_X8_leafOf
set_option maxRecDepth 20000 in
theorem ggX8_leaves_X8_pathsIn : GoodIn wsX8_leaves wsX8_pathsIn := goodIn_r _ [28, 11, 12, 3, 13] (by decide +kernel) (by decide +kernel)
set_option maxRecDepth 20000 in
theorem gX8_leaves_X8_pathsIn : GoodIn wsX8_leaves (va_wsS RX8 78 yX8_pathsIn wsX8_pathsIn) := goodIn_app (goodIn_of _ (by decide +kernel)) ggX8_leaves_X8_pathsIn
theorem dX8_leaves_0 : decode cX8_leaves 0 = .ok (.iconst 0, 1) := by decide +kernel
theorem dX8_leaves_1 : decode cX8_leaves 1 = .ok (.istore_n 3, 1) := by decide +kernel
theorem dX8_leaves_2 : decode cX8_leaves 2 = .ok (.iload_n 1, 1) := by decide +kernel
theorem dX8_leaves_3 : decode cX8_leaves 3 = .ok (.istore 4, 2) := by decide +kernel
theorem dX8_leaves_5 : decode cX8_leaves 5 = .ok (.iload 4, 2) := by decide +kernel
theorem dX8_leaves_7 : decode cX8_leaves 7 = .ok (.iload_n 2, 1) := by decide +kernel
theorem dX8_leaves_8 : decode cX8_leaves 8 = .ok (.if_icmp .ge 23, 3) := by decide +kernel
theorem dX8_leaves_11 : decode cX8_leaves 11 = .ok (.iload 4, 2) := by decide +kernel
theorem dX8_leaves_13 : decode cX8_leaves 13 = .ok (.aload_n 0, 1) := by decide +kernel
theorem dX8_leaves_14 : decode cX8_leaves 14 = .ok (.iload 4, 2) := by decide +kernel
theorem dX8_leaves_16 : decode cX8_leaves 16 = .ok (.invokestatic 75, 3) := by decide +kernel
theorem dX8_leaves_19 : decode cX8_leaves 19 = .ok (.invokestatic 78, 3) := by decide +kernel
theorem dX8_leaves_22 : decode cX8_leaves 22 = .ok (.iadd, 1) := by decide +kernel
theorem dX8_leaves_23 : decode cX8_leaves 23 = .ok (.istore 4, 2) := by decide +kernel
theorem dX8_leaves_25 : decode cX8_leaves 25 = .ok (.iinc 3 1, 3) := by decide +kernel
theorem dX8_leaves_28 : decode cX8_leaves 28 = .ok (.goto (-23), 3) := by decide +kernel
theorem dX8_leaves_31 : decode cX8_leaves 31 = .ok (.iload_n 3, 1) := by decide +kernel
theorem dX8_leaves_32 : decode cX8_leaves 32 = .ok (.ireturn, 1) := by decide +kernel
set_option maxRecDepth 20000 in
theorem ggX8_allLeaves_X8_leaves : GoodIn wsX8_allLeaves wsX8_leaves := goodIn_r _ [4, 5, 6, 3, 7, 8, 9, 10, 11, 12, 13, 14, 15, 16, 17, 18, 19, 20, 21, 22, 23, 24, 25, 26, 27, 28, 29, 30, 31] (by decide +kernel) (by decide +kernel)
set_option maxRecDepth 20000 in
theorem gX8_allLeaves_X8_leaves : GoodIn wsX8_allLeaves (va_wsS RX8 81 yX8_leaves wsX8_leaves) := goodIn_app (goodIn_of _ (by decide +kernel)) ggX8_allLeaves_X8_leaves
theorem dX8_allLeaves_0 : decode cX8_allLeaves 0 = .ok (.aload_n 0, 1) := by decide +kernel
theorem dX8_allLeaves_1 : decode cX8_allLeaves 1 = .ok (.iconst 0, 1) := by decide +kernel
theorem dX8_allLeaves_2 : decode cX8_allLeaves 2 = .ok (.sipush 4096, 3) := by decide +kernel
theorem dX8_allLeaves_5 : decode cX8_allLeaves 5 = .ok (.invokestatic 81, 3) := by decide +kernel
theorem dX8_allLeaves_8 : decode cX8_allLeaves 8 = .ok (.ireturn, 1) := by decide +kernel
set_option maxRecDepth 20000 in
theorem ggX8_isPoint_X8_in : GoodIn wsX8_isPoint wsX8_in := goodIn_r _ [5] (by decide +kernel) (by decide +kernel)
set_option maxRecDepth 20000 in
theorem gX8_isPoint_X8_in : GoodIn wsX8_isPoint (va_wsS RX8 43 yX8_in wsX8_in) := goodIn_app (goodIn_of _ (by decide +kernel)) ggX8_isPoint_X8_in
theorem dX8_isPoint_0 : decode cX8_isPoint 0 = .ok (.iload_n 1, 1) := by decide +kernel
theorem dX8_isPoint_1 : decode cX8_isPoint 1 = .ok (.iconst 0, 1) := by decide +kernel
theorem dX8_isPoint_2 : decode cX8_isPoint 2 = .ok (.aload_n 0, 1) := by decide +kernel
theorem dX8_isPoint_3 : decode cX8_isPoint 3 = .ok (.getfield 7, 3) := by decide +kernel
theorem dX8_isPoint_6 : decode cX8_isPoint 6 = .ok (.iconst 0, 1) := by decide +kernel
theorem dX8_isPoint_7 : decode cX8_isPoint 7 = .ok (.iaload, 1) := by decide +kernel
theorem dX8_isPoint_8 : decode cX8_isPoint 8 = .ok (.iconst 1, 1) := by decide +kernel
theorem dX8_isPoint_9 : decode cX8_isPoint 9 = .ok (.isub, 1) := by decide +kernel
theorem dX8_isPoint_10 : decode cX8_isPoint 10 = .ok (.invokestatic 43, 3) := by decide +kernel
theorem dX8_isPoint_13 : decode cX8_isPoint 13 = .ok (.ireturn, 1) := by decide +kernel
theorem dX8_pointAt_0 : decode cX8_pointAt 0 = .ok (.bipush (-6), 2) := by decide +kernel
theorem dX8_pointAt_2 : decode cX8_pointAt 2 = .ok (.istore_n 3, 1) := by decide +kernel
theorem dX8_pointAt_3 : decode cX8_pointAt 3 = .ok (.iconst 0, 1) := by decide +kernel
theorem dX8_pointAt_4 : decode cX8_pointAt 4 = .ok (.istore 4, 2) := by decide +kernel
theorem dX8_pointAt_6 : decode cX8_pointAt 6 = .ok (.iload 4, 2) := by decide +kernel
theorem dX8_pointAt_8 : decode cX8_pointAt 8 = .ok (.aload_n 0, 1) := by decide +kernel
theorem dX8_pointAt_9 : decode cX8_pointAt 9 = .ok (.iconst 0, 1) := by decide +kernel
theorem dX8_pointAt_10 : decode cX8_pointAt 10 = .ok (.iaload, 1) := by decide +kernel
theorem dX8_pointAt_11 : decode cX8_pointAt 11 = .ok (.if_icmp .ge 42, 3) := by decide +kernel
theorem dX8_pointAt_14 : decode cX8_pointAt 14 = .ok (.aload_n 0, 1) := by decide +kernel
theorem dX8_pointAt_15 : decode cX8_pointAt 15 = .ok (.iconst 4, 1) := by decide +kernel
theorem dX8_pointAt_16 : decode cX8_pointAt 16 = .ok (.iconst 2, 1) := by decide +kernel
theorem dX8_pointAt_17 : decode cX8_pointAt 17 = .ok (.iload 4, 2) := by decide +kernel
theorem dX8_pointAt_19 : decode cX8_pointAt 19 = .ok (.imul, 1) := by decide +kernel
theorem dX8_pointAt_20 : decode cX8_pointAt 20 = .ok (.iadd, 1) := by decide +kernel
theorem dX8_pointAt_21 : decode cX8_pointAt 21 = .ok (.iaload, 1) := by decide +kernel
theorem dX8_pointAt_22 : decode cX8_pointAt 22 = .ok (.iload_n 1, 1) := by decide +kernel
theorem dX8_pointAt_23 : decode cX8_pointAt 23 = .ok (.if_icmp .ne 22, 3) := by decide +kernel
theorem dX8_pointAt_26 : decode cX8_pointAt 26 = .ok (.aload_n 0, 1) := by decide +kernel
theorem dX8_pointAt_27 : decode cX8_pointAt 27 = .ok (.iconst 4, 1) := by decide +kernel
theorem dX8_pointAt_28 : decode cX8_pointAt 28 = .ok (.iconst 2, 1) := by decide +kernel
theorem dX8_pointAt_29 : decode cX8_pointAt 29 = .ok (.iload 4, 2) := by decide +kernel
theorem dX8_pointAt_31 : decode cX8_pointAt 31 = .ok (.imul, 1) := by decide +kernel
theorem dX8_pointAt_32 : decode cX8_pointAt 32 = .ok (.iadd, 1) := by decide +kernel
theorem dX8_pointAt_33 : decode cX8_pointAt 33 = .ok (.iconst 1, 1) := by decide +kernel
theorem dX8_pointAt_34 : decode cX8_pointAt 34 = .ok (.iadd, 1) := by decide +kernel
theorem dX8_pointAt_35 : decode cX8_pointAt 35 = .ok (.iaload, 1) := by decide +kernel
theorem dX8_pointAt_36 : decode cX8_pointAt 36 = .ok (.iload_n 2, 1) := by decide +kernel
theorem dX8_pointAt_37 : decode cX8_pointAt 37 = .ok (.if_icmp .ne 8, 3) := by decide +kernel
theorem dX8_pointAt_40 : decode cX8_pointAt 40 = .ok (.iload 4, 2) := by decide +kernel
theorem dX8_pointAt_42 : decode cX8_pointAt 42 = .ok (.goto 4, 3) := by decide +kernel
theorem dX8_pointAt_45 : decode cX8_pointAt 45 = .ok (.iload_n 3, 1) := by decide +kernel
theorem dX8_pointAt_46 : decode cX8_pointAt 46 = .ok (.istore_n 3, 1) := by decide +kernel
theorem dX8_pointAt_47 : decode cX8_pointAt 47 = .ok (.iinc 4 1, 3) := by decide +kernel
theorem dX8_pointAt_50 : decode cX8_pointAt 50 = .ok (.goto (-44), 3) := by decide +kernel
theorem dX8_pointAt_53 : decode cX8_pointAt 53 = .ok (.iload_n 3, 1) := by decide +kernel
theorem dX8_pointAt_54 : decode cX8_pointAt 54 = .ok (.ireturn, 1) := by decide +kernel
theorem dX8_places_0 : decode cX8_places 0 = .ok (.aload_n 0, 1) := by decide +kernel
theorem dX8_places_1 : decode cX8_places 1 = .ok (.iconst 4, 1) := by decide +kernel
theorem dX8_places_2 : decode cX8_places 2 = .ok (.iconst 2, 1) := by decide +kernel
theorem dX8_places_3 : decode cX8_places 3 = .ok (.iload_n 1, 1) := by decide +kernel
theorem dX8_places_4 : decode cX8_places 4 = .ok (.imul, 1) := by decide +kernel
theorem dX8_places_5 : decode cX8_places 5 = .ok (.iadd, 1) := by decide +kernel
theorem dX8_places_6 : decode cX8_places 6 = .ok (.iload_n 2, 1) := by decide +kernel
theorem dX8_places_7 : decode cX8_places 7 = .ok (.iastore, 1) := by decide +kernel
theorem dX8_places_8 : decode cX8_places 8 = .ok (.aload_n 0, 1) := by decide +kernel
theorem dX8_places_9 : decode cX8_places 9 = .ok (.iconst 4, 1) := by decide +kernel
theorem dX8_places_10 : decode cX8_places 10 = .ok (.iconst 2, 1) := by decide +kernel
theorem dX8_places_11 : decode cX8_places 11 = .ok (.iload_n 1, 1) := by decide +kernel
theorem dX8_places_12 : decode cX8_places 12 = .ok (.imul, 1) := by decide +kernel
theorem dX8_places_13 : decode cX8_places 13 = .ok (.iadd, 1) := by decide +kernel
theorem dX8_places_14 : decode cX8_places 14 = .ok (.iconst 1, 1) := by decide +kernel
theorem dX8_places_15 : decode cX8_places 15 = .ok (.iadd, 1) := by decide +kernel
theorem dX8_places_16 : decode cX8_places 16 = .ok (.iload_n 3, 1) := by decide +kernel
theorem dX8_places_17 : decode cX8_places 17 = .ok (.iastore, 1) := by decide +kernel
theorem dX8_places_18 : decode cX8_places 18 = .ok (.return_, 1) := by decide +kernel
set_option maxRecDepth 20000 in
theorem ggX8_comes_X8_places : GoodIn wsX8_comes wsX8_places := goodIn_r _ [4] (by decide +kernel) (by decide +kernel)
set_option maxRecDepth 20000 in
theorem gX8_comes_X8_places : GoodIn wsX8_comes (va_wsS RX8 85 yX8_places wsX8_places) := goodIn_app (goodIn_of _ (by decide +kernel)) ggX8_comes_X8_places
theorem dX8_comes_0 : decode cX8_comes 0 = .ok (.aload_n 0, 1) := by decide +kernel
theorem dX8_comes_1 : decode cX8_comes 1 = .ok (.aload_n 0, 1) := by decide +kernel
theorem dX8_comes_2 : decode cX8_comes 2 = .ok (.iconst 0, 1) := by decide +kernel
theorem dX8_comes_3 : decode cX8_comes 3 = .ok (.iaload, 1) := by decide +kernel
theorem dX8_comes_4 : decode cX8_comes 4 = .ok (.iload_n 1, 1) := by decide +kernel
theorem dX8_comes_5 : decode cX8_comes 5 = .ok (.iload_n 2, 1) := by decide +kernel
theorem dX8_comes_6 : decode cX8_comes 6 = .ok (.invokestatic 85, 3) := by decide +kernel
theorem dX8_comes_9 : decode cX8_comes 9 = .ok (.aload_n 0, 1) := by decide +kernel
theorem dX8_comes_10 : decode cX8_comes 10 = .ok (.iconst 0, 1) := by decide +kernel
theorem dX8_comes_11 : decode cX8_comes 11 = .ok (.dup2, 1) := by decide +kernel
theorem dX8_comes_12 : decode cX8_comes 12 = .ok (.iaload, 1) := by decide +kernel
theorem dX8_comes_13 : decode cX8_comes 13 = .ok (.iconst 1, 1) := by decide +kernel
theorem dX8_comes_14 : decode cX8_comes 14 = .ok (.iadd, 1) := by decide +kernel
theorem dX8_comes_15 : decode cX8_comes 15 = .ok (.iastore, 1) := by decide +kernel
theorem dX8_comes_16 : decode cX8_comes 16 = .ok (.return_, 1) := by decide +kernel
set_option maxRecDepth 20000 in
theorem ggX8_pointError_X8_isPlace : GoodIn wsX8_pointError wsX8_isPlace := goodIn_r _ [5, 6, 7, 4, 8] (by decide +kernel) (by decide +kernel)
set_option maxRecDepth 20000 in
theorem gX8_pointError_X8_isPlace : GoodIn wsX8_pointError (va_wsS RX8 89 yX8_isPlace wsX8_isPlace) := goodIn_app (goodIn_of _ (by decide +kernel)) ggX8_pointError_X8_isPlace
set_option maxRecDepth 20000 in
theorem ggX8_pointError_X8_pointAt : GoodIn wsX8_pointError wsX8_pointAt := goodIn_r _ [11] (by decide +kernel) (by decide +kernel)
set_option maxRecDepth 20000 in
theorem gX8_pointError_X8_pointAt : GoodIn wsX8_pointError (va_wsS RX8 93 yX8_pointAt wsX8_pointAt) := goodIn_app (goodIn_of _ (by decide +kernel)) ggX8_pointError_X8_pointAt
theorem dX8_pointError_0 : decode cX8_pointError 0 = .ok (.iload_n 1, 1) := by decide +kernel
theorem dX8_pointError_1 : decode cX8_pointError 1 = .ok (.iload_n 2, 1) := by decide +kernel
theorem dX8_pointError_2 : decode cX8_pointError 2 = .ok (.invokestatic 89, 3) := by decide +kernel
theorem dX8_pointError_5 : decode cX8_pointError 5 = .ok (.ifCond .ne 5, 3) := by decide +kernel
theorem dX8_pointError_8 : decode cX8_pointError 8 = .ok (.iconst (-1), 1) := by decide +kernel
theorem dX8_pointError_9 : decode cX8_pointError 9 = .ok (.ireturn, 1) := by decide +kernel
theorem dX8_pointError_10 : decode cX8_pointError 10 = .ok (.aload_n 0, 1) := by decide +kernel
theorem dX8_pointError_11 : decode cX8_pointError 11 = .ok (.getfield 7, 3) := by decide +kernel
theorem dX8_pointError_14 : decode cX8_pointError 14 = .ok (.iload_n 1, 1) := by decide +kernel
theorem dX8_pointError_15 : decode cX8_pointError 15 = .ok (.iload_n 2, 1) := by decide +kernel
theorem dX8_pointError_16 : decode cX8_pointError 16 = .ok (.invokestatic 93, 3) := by decide +kernel
theorem dX8_pointError_19 : decode cX8_pointError 19 = .ok (.bipush (-6), 2) := by decide +kernel
theorem dX8_pointError_21 : decode cX8_pointError 21 = .ok (.if_icmp .eq 8, 3) := by decide +kernel
theorem dX8_pointError_24 : decode cX8_pointError 24 = .ok (.bipush (-5), 2) := by decide +kernel
theorem dX8_pointError_26 : decode cX8_pointError 26 = .ok (.goto 20, 3) := by decide +kernel
theorem dX8_pointError_29 : decode cX8_pointError 29 = .ok (.aload_n 0, 1) := by decide +kernel
theorem dX8_pointError_30 : decode cX8_pointError 30 = .ok (.getfield 7, 3) := by decide +kernel
theorem dX8_pointError_33 : decode cX8_pointError 33 = .ok (.iconst 0, 1) := by decide +kernel
theorem dX8_pointError_34 : decode cX8_pointError 34 = .ok (.iaload, 1) := by decide +kernel
theorem dX8_pointError_35 : decode cX8_pointError 35 = .ok (.bipush 50, 2) := by decide +kernel
theorem dX8_pointError_37 : decode cX8_pointError 37 = .ok (.if_icmp .ne 8, 3) := by decide +kernel
theorem dX8_pointError_40 : decode cX8_pointError 40 = .ok (.bipush (-4), 2) := by decide +kernel
theorem dX8_pointError_42 : decode cX8_pointError 42 = .ok (.goto 4, 3) := by decide +kernel
theorem dX8_pointError_45 : decode cX8_pointError 45 = .ok (.iconst 0, 1) := by decide +kernel
theorem dX8_pointError_46 : decode cX8_pointError 46 = .ok (.ireturn, 1) := by decide +kernel
set_option maxRecDepth 20000 in
theorem ggX8_set_X8_in : GoodIn wsX8_set wsX8_in := goodIn_r _ [5] (by decide +kernel) (by decide +kernel)
set_option maxRecDepth 20000 in
theorem gX8_set_X8_in : GoodIn wsX8_set (va_wsS RX8 43 yX8_in wsX8_in) := goodIn_app (goodIn_of _ (by decide +kernel)) ggX8_set_X8_in
set_option maxRecDepth 20000 in
theorem ggX8_set_X8_records : GoodIn wsX8_set wsX8_records := goodIn_r _ [9, 10, 11, 1, 12, 13, 4, 14, 15, 16, 17, 18, 19, 20, 21, 22, 23, 24, 25, 26, 27, 28] (by decide +kernel) (by decide +kernel)
set_option maxRecDepth 20000 in
theorem gX8_set_X8_records : GoodIn wsX8_set (wsV RX8 96 RX8 yX8_records wsX8_records) := goodIn_app (goodIn_of _ (by decide +kernel)) ggX8_set_X8_records
theorem dX8_set_0 : decode cX8_set 0 = .ok (.iload_n 1, 1) := by decide +kernel
theorem dX8_set_1 : decode cX8_set 1 = .ok (.iconst 0, 1) := by decide +kernel
theorem dX8_set_2 : decode cX8_set 2 = .ok (.iconst 1, 1) := by decide +kernel
theorem dX8_set_3 : decode cX8_set 3 = .ok (.invokestatic 43, 3) := by decide +kernel
theorem dX8_set_6 : decode cX8_set 6 = .ok (.ifCond .eq 22, 3) := by decide +kernel
theorem dX8_set_9 : decode cX8_set 9 = .ok (.iload_n 2, 1) := by decide +kernel
theorem dX8_set_10 : decode cX8_set 10 = .ok (.iconst 1, 1) := by decide +kernel
theorem dX8_set_11 : decode cX8_set 11 = .ok (.iload_n 1, 1) := by decide +kernel
theorem dX8_set_12 : decode cX8_set 12 = .ok (.ifCond .ne 8, 3) := by decide +kernel
theorem dX8_set_15 : decode cX8_set 15 = .ok (.bipush 8, 2) := by decide +kernel
theorem dX8_set_17 : decode cX8_set 17 = .ok (.goto 5, 3) := by decide +kernel
theorem dX8_set_20 : decode cX8_set 20 = .ok (.bipush 6, 2) := by decide +kernel
theorem dX8_set_22 : decode cX8_set 22 = .ok (.invokestatic 43, 3) := by decide +kernel
theorem dX8_set_25 : decode cX8_set 25 = .ok (.ifCond .ne 6, 3) := by decide +kernel
theorem dX8_set_28 : decode cX8_set 28 = .ok (.bipush (-2), 2) := by decide +kernel
theorem dX8_set_30 : decode cX8_set 30 = .ok (.ireturn, 1) := by decide +kernel
theorem dX8_set_31 : decode cX8_set 31 = .ok (.aload_n 0, 1) := by decide +kernel
theorem dX8_set_32 : decode cX8_set 32 = .ok (.invokevirtual 96, 3) := by decide +kernel
theorem dX8_set_35 : decode cX8_set 35 = .ok (.aload_n 0, 1) := by decide +kernel
theorem dX8_set_36 : decode cX8_set 36 = .ok (.getfield 7, 3) := by decide +kernel
theorem dX8_set_39 : decode cX8_set 39 = .ok (.iconst 1, 1) := by decide +kernel
theorem dX8_set_40 : decode cX8_set 40 = .ok (.iload_n 1, 1) := by decide +kernel
theorem dX8_set_41 : decode cX8_set 41 = .ok (.iadd, 1) := by decide +kernel
theorem dX8_set_42 : decode cX8_set 42 = .ok (.iaload, 1) := by decide +kernel
theorem dX8_set_43 : decode cX8_set 43 = .ok (.istore_n 3, 1) := by decide +kernel
theorem dX8_set_44 : decode cX8_set 44 = .ok (.aload_n 0, 1) := by decide +kernel
theorem dX8_set_45 : decode cX8_set 45 = .ok (.getfield 7, 3) := by decide +kernel
theorem dX8_set_48 : decode cX8_set 48 = .ok (.iconst 1, 1) := by decide +kernel
theorem dX8_set_49 : decode cX8_set 49 = .ok (.iload_n 1, 1) := by decide +kernel
theorem dX8_set_50 : decode cX8_set 50 = .ok (.iadd, 1) := by decide +kernel
theorem dX8_set_51 : decode cX8_set 51 = .ok (.iload_n 2, 1) := by decide +kernel
theorem dX8_set_52 : decode cX8_set 52 = .ok (.iastore, 1) := by decide +kernel
theorem dX8_set_53 : decode cX8_set 53 = .ok (.iload_n 3, 1) := by decide +kernel
theorem dX8_set_54 : decode cX8_set 54 = .ok (.ireturn, 1) := by decide +kernel
set_option maxRecDepth 20000 in
theorem ggX8_point_X8_pointError : GoodIn wsX8_point wsX8_pointError := goodIn_r _ [6, 1, 7, 8, 5, 9, 10, 11, 12, 13, 14, 15, 64, 65, 66, 67, 68, 69, 70, 71, 72, 73, 74, 75, 76, 77] (by decide +kernel) (by decide +kernel)
set_option maxRecDepth 20000 in
theorem gX8_point_X8_pointError : GoodIn wsX8_point (wsV RX8 99 RX8 yX8_pointError wsX8_pointError) := goodIn_app (goodIn_of _ (by decide +kernel)) ggX8_point_X8_pointError
set_option maxRecDepth 20000 in
theorem ggX8_point_X8_records : GoodIn wsX8_point wsX8_records := goodIn_r _ [19, 20, 21, 1, 22, 23, 5, 24, 64, 65, 66, 67, 68, 69, 70, 71, 72, 73, 74, 75, 76, 77] (by decide +kernel) (by decide +kernel)
set_option maxRecDepth 20000 in
theorem gX8_point_X8_records : GoodIn wsX8_point (wsV RX8 96 RX8 yX8_records wsX8_records) := goodIn_app (goodIn_of _ (by decide +kernel)) ggX8_point_X8_records
set_option maxRecDepth 20000 in
theorem ggX8_point_X8_comes : GoodIn wsX8_point wsX8_comes := goodIn_r _ [27, 28, 29, 5, 30] (by decide +kernel) (by decide +kernel)
set_option maxRecDepth 20000 in
theorem gX8_point_X8_comes : GoodIn wsX8_point (va_wsS RX8 102 yX8_comes wsX8_comes) := goodIn_app (goodIn_of _ (by decide +kernel)) ggX8_point_X8_comes
set_option maxRecDepth 20000 in
theorem ggX8_point_X8_allLeaves : GoodIn wsX8_point wsX8_allLeaves := goodIn_r _ [33, 34, 35, 5, 36, 37, 38, 39, 40, 41, 42, 43, 44, 45, 46, 47, 48, 49, 50, 51, 52, 53, 54, 55, 56, 57, 58, 59, 60, 61, 62, 63] (by decide +kernel) (by decide +kernel)
set_option maxRecDepth 20000 in
theorem gX8_point_X8_allLeaves : GoodIn wsX8_point (va_wsS RX8 106 yX8_allLeaves wsX8_allLeaves) := goodIn_app (goodIn_of _ (by decide +kernel)) ggX8_point_X8_allLeaves
theorem dX8_point_0 : decode cX8_point 0 = .ok (.aload_n 0, 1) := by decide +kernel
theorem dX8_point_1 : decode cX8_point 1 = .ok (.iload_n 1, 1) := by decide +kernel
theorem dX8_point_2 : decode cX8_point 2 = .ok (.iload_n 2, 1) := by decide +kernel
theorem dX8_point_3 : decode cX8_point 3 = .ok (.invokevirtual 99, 3) := by decide +kernel
theorem dX8_point_6 : decode cX8_point 6 = .ok (.istore_n 3, 1) := by decide +kernel
theorem dX8_point_7 : decode cX8_point 7 = .ok (.iload_n 3, 1) := by decide +kernel
theorem dX8_point_8 : decode cX8_point 8 = .ok (.ifCond .ge 5, 3) := by decide +kernel
theorem dX8_point_11 : decode cX8_point 11 = .ok (.iload_n 3, 1) := by decide +kernel
theorem dX8_point_12 : decode cX8_point 12 = .ok (.ireturn, 1) := by decide +kernel
theorem dX8_point_13 : decode cX8_point 13 = .ok (.aload_n 0, 1) := by decide +kernel
theorem dX8_point_14 : decode cX8_point 14 = .ok (.invokevirtual 96, 3) := by decide +kernel
theorem dX8_point_17 : decode cX8_point 17 = .ok (.aload_n 0, 1) := by decide +kernel
theorem dX8_point_18 : decode cX8_point 18 = .ok (.getfield 7, 3) := by decide +kernel
theorem dX8_point_21 : decode cX8_point 21 = .ok (.iload_n 1, 1) := by decide +kernel
theorem dX8_point_22 : decode cX8_point 22 = .ok (.iload_n 2, 1) := by decide +kernel
theorem dX8_point_23 : decode cX8_point 23 = .ok (.invokestatic 102, 3) := by decide +kernel
theorem dX8_point_26 : decode cX8_point 26 = .ok (.aload_n 0, 1) := by decide +kernel
theorem dX8_point_27 : decode cX8_point 27 = .ok (.getfield 7, 3) := by decide +kernel
theorem dX8_point_30 : decode cX8_point 30 = .ok (.invokestatic 106, 3) := by decide +kernel
theorem dX8_point_33 : decode cX8_point 33 = .ok (.ireturn, 1) := by decide +kernel
set_option maxRecDepth 20000 in
theorem ggX8_take_X8_isPoint : GoodIn wsX8_take wsX8_isPoint := goodIn_r _ [6, 1, 7, 8, 5, 9, 55, 56, 57, 58, 59, 60, 61, 62, 63, 64, 65, 66, 67, 68] (by decide +kernel) (by decide +kernel)
set_option maxRecDepth 20000 in
theorem gX8_take_X8_isPoint : GoodIn wsX8_take (wsV RX8 110 RX8 yX8_isPoint wsX8_isPoint) := goodIn_app (goodIn_of _ (by decide +kernel)) ggX8_take_X8_isPoint
set_option maxRecDepth 20000 in
theorem ggX8_take_X8_records : GoodIn wsX8_take wsX8_records := goodIn_r _ [13, 14, 15, 1, 16, 17, 5, 18, 55, 56, 57, 58, 59, 60, 61, 62, 63, 64, 65, 66, 67, 68] (by decide +kernel) (by decide +kernel)
set_option maxRecDepth 20000 in
theorem gX8_take_X8_records : GoodIn wsX8_take (wsV RX8 96 RX8 yX8_records wsX8_records) := goodIn_app (goodIn_of _ (by decide +kernel)) ggX8_take_X8_records
set_option maxRecDepth 20000 in
theorem ggX8_take_X8_places : GoodIn wsX8_take wsX8_places := goodIn_r _ [21] (by decide +kernel) (by decide +kernel)
set_option maxRecDepth 20000 in
theorem gX8_take_X8_places : GoodIn wsX8_take (va_wsS RX8 85 yX8_places wsX8_places) := goodIn_app (goodIn_of _ (by decide +kernel)) ggX8_take_X8_places
set_option maxRecDepth 20000 in
theorem ggX8_take_X8_allLeaves : GoodIn wsX8_take wsX8_allLeaves := goodIn_r _ [24, 25, 26, 5, 27, 28, 29, 30, 31, 32, 33, 34, 35, 36, 37, 38, 39, 40, 41, 42, 43, 44, 45, 46, 47, 48, 49, 50, 51, 52, 53, 54] (by decide +kernel) (by decide +kernel)
set_option maxRecDepth 20000 in
theorem gX8_take_X8_allLeaves : GoodIn wsX8_take (va_wsS RX8 106 yX8_allLeaves wsX8_allLeaves) := goodIn_app (goodIn_of _ (by decide +kernel)) ggX8_take_X8_allLeaves
theorem dX8_take_0 : decode cX8_take 0 = .ok (.aload_n 0, 1) := by decide +kernel
theorem dX8_take_1 : decode cX8_take 1 = .ok (.iload_n 1, 1) := by decide +kernel
theorem dX8_take_2 : decode cX8_take 2 = .ok (.invokevirtual 110, 3) := by decide +kernel
theorem dX8_take_5 : decode cX8_take 5 = .ok (.ifCond .ne 5, 3) := by decide +kernel
theorem dX8_take_8 : decode cX8_take 8 = .ok (.iconst (-1), 1) := by decide +kernel
theorem dX8_take_9 : decode cX8_take 9 = .ok (.ireturn, 1) := by decide +kernel
theorem dX8_take_10 : decode cX8_take 10 = .ok (.aload_n 0, 1) := by decide +kernel
theorem dX8_take_11 : decode cX8_take 11 = .ok (.invokevirtual 96, 3) := by decide +kernel
theorem dX8_take_14 : decode cX8_take 14 = .ok (.aload_n 0, 1) := by decide +kernel
theorem dX8_take_15 : decode cX8_take 15 = .ok (.getfield 7, 3) := by decide +kernel
theorem dX8_take_18 : decode cX8_take 18 = .ok (.iconst 0, 1) := by decide +kernel
theorem dX8_take_19 : decode cX8_take 19 = .ok (.dup2, 1) := by decide +kernel
theorem dX8_take_20 : decode cX8_take 20 = .ok (.iaload, 1) := by decide +kernel
theorem dX8_take_21 : decode cX8_take 21 = .ok (.iconst 1, 1) := by decide +kernel
theorem dX8_take_22 : decode cX8_take 22 = .ok (.isub, 1) := by decide +kernel
theorem dX8_take_23 : decode cX8_take 23 = .ok (.iastore, 1) := by decide +kernel
theorem dX8_take_24 : decode cX8_take 24 = .ok (.iconst 4, 1) := by decide +kernel
theorem dX8_take_25 : decode cX8_take 25 = .ok (.iconst 2, 1) := by decide +kernel
theorem dX8_take_26 : decode cX8_take 26 = .ok (.iload_n 1, 1) := by decide +kernel
theorem dX8_take_27 : decode cX8_take 27 = .ok (.imul, 1) := by decide +kernel
theorem dX8_take_28 : decode cX8_take 28 = .ok (.iadd, 1) := by decide +kernel
theorem dX8_take_29 : decode cX8_take 29 = .ok (.istore_n 2, 1) := by decide +kernel
theorem dX8_take_30 : decode cX8_take 30 = .ok (.iload_n 2, 1) := by decide +kernel
theorem dX8_take_31 : decode cX8_take 31 = .ok (.iconst 4, 1) := by decide +kernel
theorem dX8_take_32 : decode cX8_take 32 = .ok (.iconst 2, 1) := by decide +kernel
theorem dX8_take_33 : decode cX8_take 33 = .ok (.aload_n 0, 1) := by decide +kernel
theorem dX8_take_34 : decode cX8_take 34 = .ok (.getfield 7, 3) := by decide +kernel
theorem dX8_take_37 : decode cX8_take 37 = .ok (.iconst 0, 1) := by decide +kernel
theorem dX8_take_38 : decode cX8_take 38 = .ok (.iaload, 1) := by decide +kernel
theorem dX8_take_39 : decode cX8_take 39 = .ok (.imul, 1) := by decide +kernel
theorem dX8_take_40 : decode cX8_take 40 = .ok (.iadd, 1) := by decide +kernel
theorem dX8_take_41 : decode cX8_take 41 = .ok (.if_icmp .ge 23, 3) := by decide +kernel
theorem dX8_take_44 : decode cX8_take 44 = .ok (.aload_n 0, 1) := by decide +kernel
theorem dX8_take_45 : decode cX8_take 45 = .ok (.getfield 7, 3) := by decide +kernel
theorem dX8_take_48 : decode cX8_take 48 = .ok (.iload_n 2, 1) := by decide +kernel
theorem dX8_take_49 : decode cX8_take 49 = .ok (.aload_n 0, 1) := by decide +kernel
theorem dX8_take_50 : decode cX8_take 50 = .ok (.getfield 7, 3) := by decide +kernel
theorem dX8_take_53 : decode cX8_take 53 = .ok (.iload_n 2, 1) := by decide +kernel
theorem dX8_take_54 : decode cX8_take 54 = .ok (.iconst 2, 1) := by decide +kernel
theorem dX8_take_55 : decode cX8_take 55 = .ok (.iadd, 1) := by decide +kernel
theorem dX8_take_56 : decode cX8_take 56 = .ok (.iaload, 1) := by decide +kernel
theorem dX8_take_57 : decode cX8_take 57 = .ok (.iastore, 1) := by decide +kernel
theorem dX8_take_58 : decode cX8_take 58 = .ok (.iinc 2 1, 3) := by decide +kernel
theorem dX8_take_61 : decode cX8_take 61 = .ok (.goto (-31), 3) := by decide +kernel
theorem dX8_take_64 : decode cX8_take 64 = .ok (.aload_n 0, 1) := by decide +kernel
theorem dX8_take_65 : decode cX8_take 65 = .ok (.getfield 7, 3) := by decide +kernel
theorem dX8_take_68 : decode cX8_take 68 = .ok (.aload_n 0, 1) := by decide +kernel
theorem dX8_take_69 : decode cX8_take 69 = .ok (.getfield 7, 3) := by decide +kernel
theorem dX8_take_72 : decode cX8_take 72 = .ok (.iconst 0, 1) := by decide +kernel
theorem dX8_take_73 : decode cX8_take 73 = .ok (.iaload, 1) := by decide +kernel
theorem dX8_take_74 : decode cX8_take 74 = .ok (.iconst 0, 1) := by decide +kernel
theorem dX8_take_75 : decode cX8_take 75 = .ok (.iconst 0, 1) := by decide +kernel
theorem dX8_take_76 : decode cX8_take 76 = .ok (.invokestatic 85, 3) := by decide +kernel
theorem dX8_take_79 : decode cX8_take 79 = .ok (.aload_n 0, 1) := by decide +kernel
theorem dX8_take_80 : decode cX8_take 80 = .ok (.getfield 7, 3) := by decide +kernel
theorem dX8_take_83 : decode cX8_take 83 = .ok (.invokestatic 106, 3) := by decide +kernel
theorem dX8_take_86 : decode cX8_take 86 = .ok (.ireturn, 1) := by decide +kernel
set_option maxRecDepth 20000 in
theorem ggX8_move_X8_isPoint : GoodIn wsX8_move wsX8_isPoint := goodIn_r _ [6, 1, 7, 8, 5, 9, 61, 62, 63, 64, 65, 66, 67, 68, 69, 70, 71, 72, 73, 74] (by decide +kernel) (by decide +kernel)
set_option maxRecDepth 20000 in
theorem gX8_move_X8_isPoint : GoodIn wsX8_move (wsV RX8 110 RX8 yX8_isPoint wsX8_isPoint) := goodIn_app (goodIn_of _ (by decide +kernel)) ggX8_move_X8_isPoint
set_option maxRecDepth 20000 in
theorem ggX8_move_X8_isPlace : GoodIn wsX8_move wsX8_isPlace := goodIn_r _ [12, 7, 8, 5, 9] (by decide +kernel) (by decide +kernel)
set_option maxRecDepth 20000 in
theorem gX8_move_X8_isPlace : GoodIn wsX8_move (va_wsS RX8 89 yX8_isPlace wsX8_isPlace) := goodIn_app (goodIn_of _ (by decide +kernel)) ggX8_move_X8_isPlace
set_option maxRecDepth 20000 in
theorem ggX8_move_X8_pointAt : GoodIn wsX8_move wsX8_pointAt := goodIn_r _ [15] (by decide +kernel) (by decide +kernel)
set_option maxRecDepth 20000 in
theorem gX8_move_X8_pointAt : GoodIn wsX8_move (va_wsS RX8 93 yX8_pointAt wsX8_pointAt) := goodIn_app (goodIn_of _ (by decide +kernel)) ggX8_move_X8_pointAt
set_option maxRecDepth 20000 in
theorem ggX8_move_X8_records : GoodIn wsX8_move wsX8_records := goodIn_r _ [19, 20, 21, 1, 22, 23, 5, 24, 61, 62, 63, 64, 65, 66, 67, 68, 69, 70, 71, 72, 73, 74] (by decide +kernel) (by decide +kernel)
set_option maxRecDepth 20000 in
theorem gX8_move_X8_records : GoodIn wsX8_move (wsV RX8 96 RX8 yX8_records wsX8_records) := goodIn_app (goodIn_of _ (by decide +kernel)) ggX8_move_X8_records
set_option maxRecDepth 20000 in
theorem ggX8_move_X8_places : GoodIn wsX8_move wsX8_places := goodIn_r _ [27] (by decide +kernel) (by decide +kernel)
set_option maxRecDepth 20000 in
theorem gX8_move_X8_places : GoodIn wsX8_move (va_wsS RX8 85 yX8_places wsX8_places) := goodIn_app (goodIn_of _ (by decide +kernel)) ggX8_move_X8_places
set_option maxRecDepth 20000 in
theorem ggX8_move_X8_allLeaves : GoodIn wsX8_move wsX8_allLeaves := goodIn_r _ [30, 31, 32, 5, 33, 34, 35, 36, 37, 38, 39, 40, 41, 42, 43, 44, 45, 46, 47, 48, 49, 50, 51, 52, 53, 54, 55, 56, 57, 58, 59, 60] (by decide +kernel) (by decide +kernel)
set_option maxRecDepth 20000 in
theorem gX8_move_X8_allLeaves : GoodIn wsX8_move (va_wsS RX8 106 yX8_allLeaves wsX8_allLeaves) := goodIn_app (goodIn_of _ (by decide +kernel)) ggX8_move_X8_allLeaves
theorem dX8_move_0 : decode cX8_move 0 = .ok (.aload_n 0, 1) := by decide +kernel
theorem dX8_move_1 : decode cX8_move 1 = .ok (.iload_n 1, 1) := by decide +kernel
theorem dX8_move_2 : decode cX8_move 2 = .ok (.invokevirtual 110, 3) := by decide +kernel
theorem dX8_move_5 : decode cX8_move 5 = .ok (.ifCond .eq 11, 3) := by decide +kernel
theorem dX8_move_8 : decode cX8_move 8 = .ok (.iload_n 2, 1) := by decide +kernel
theorem dX8_move_9 : decode cX8_move 9 = .ok (.iload_n 3, 1) := by decide +kernel
theorem dX8_move_10 : decode cX8_move 10 = .ok (.invokestatic 89, 3) := by decide +kernel
theorem dX8_move_13 : decode cX8_move 13 = .ok (.ifCond .ne 5, 3) := by decide +kernel
theorem dX8_move_16 : decode cX8_move 16 = .ok (.iconst (-1), 1) := by decide +kernel
theorem dX8_move_17 : decode cX8_move 17 = .ok (.ireturn, 1) := by decide +kernel
theorem dX8_move_18 : decode cX8_move 18 = .ok (.aload_n 0, 1) := by decide +kernel
theorem dX8_move_19 : decode cX8_move 19 = .ok (.getfield 7, 3) := by decide +kernel
theorem dX8_move_22 : decode cX8_move 22 = .ok (.iload_n 2, 1) := by decide +kernel
theorem dX8_move_23 : decode cX8_move 23 = .ok (.iload_n 3, 1) := by decide +kernel
theorem dX8_move_24 : decode cX8_move 24 = .ok (.invokestatic 93, 3) := by decide +kernel
theorem dX8_move_27 : decode cX8_move 27 = .ok (.istore 4, 2) := by decide +kernel
theorem dX8_move_29 : decode cX8_move 29 = .ok (.iload 4, 2) := by decide +kernel
theorem dX8_move_31 : decode cX8_move 31 = .ok (.bipush (-6), 2) := by decide +kernel
theorem dX8_move_33 : decode cX8_move 33 = .ok (.if_icmp .eq 12, 3) := by decide +kernel
theorem dX8_move_36 : decode cX8_move 36 = .ok (.iload 4, 2) := by decide +kernel
theorem dX8_move_38 : decode cX8_move 38 = .ok (.iload_n 1, 1) := by decide +kernel
theorem dX8_move_39 : decode cX8_move 39 = .ok (.if_icmp .eq 6, 3) := by decide +kernel
theorem dX8_move_42 : decode cX8_move 42 = .ok (.bipush (-5), 2) := by decide +kernel
theorem dX8_move_44 : decode cX8_move 44 = .ok (.ireturn, 1) := by decide +kernel
theorem dX8_move_45 : decode cX8_move 45 = .ok (.aload_n 0, 1) := by decide +kernel
theorem dX8_move_46 : decode cX8_move 46 = .ok (.invokevirtual 96, 3) := by decide +kernel
theorem dX8_move_49 : decode cX8_move 49 = .ok (.aload_n 0, 1) := by decide +kernel
theorem dX8_move_50 : decode cX8_move 50 = .ok (.getfield 7, 3) := by decide +kernel
theorem dX8_move_53 : decode cX8_move 53 = .ok (.iload_n 1, 1) := by decide +kernel
theorem dX8_move_54 : decode cX8_move 54 = .ok (.iload_n 2, 1) := by decide +kernel
theorem dX8_move_55 : decode cX8_move 55 = .ok (.iload_n 3, 1) := by decide +kernel
theorem dX8_move_56 : decode cX8_move 56 = .ok (.invokestatic 85, 3) := by decide +kernel
theorem dX8_move_59 : decode cX8_move 59 = .ok (.aload_n 0, 1) := by decide +kernel
theorem dX8_move_60 : decode cX8_move 60 = .ok (.getfield 7, 3) := by decide +kernel
theorem dX8_move_63 : decode cX8_move 63 = .ok (.invokestatic 106, 3) := by decide +kernel
theorem dX8_move_66 : decode cX8_move 66 = .ok (.ireturn, 1) := by decide +kernel
set_option maxRecDepth 20000 in
theorem ggX8_split_X8_isNumber : GoodIn wsX8_split wsX8_isNumber := goodIn_r _ [5, 6, 7, 4, 8] (by decide +kernel) (by decide +kernel)
set_option maxRecDepth 20000 in
theorem gX8_split_X8_isNumber : GoodIn wsX8_split (va_wsS RX8 114 yX8_isNumber wsX8_isNumber) := goodIn_app (goodIn_of _ (by decide +kernel)) ggX8_split_X8_isNumber
set_option maxRecDepth 20000 in
theorem ggX8_split_X8_depthOf : GoodIn wsX8_split wsX8_depthOf := goodIn_r _ [8] (by decide +kernel) (by decide +kernel)
set_option maxRecDepth 20000 in
theorem gX8_split_X8_depthOf : GoodIn wsX8_split (va_wsS RX8 47 yX8_depthOf wsX8_depthOf) := goodIn_app (goodIn_of _ (by decide +kernel)) ggX8_split_X8_depthOf
set_option maxRecDepth 20000 in
theorem ggX8_split_X8_isOrdered : GoodIn wsX8_split wsX8_isOrdered := goodIn_r _ [11] (by decide +kernel) (by decide +kernel)
set_option maxRecDepth 20000 in
theorem gX8_split_X8_isOrdered : GoodIn wsX8_split (va_wsS RX8 62 yX8_isOrdered wsX8_isOrdered) := goodIn_app (goodIn_of _ (by decide +kernel)) ggX8_split_X8_isOrdered
set_option maxRecDepth 20000 in
theorem ggX8_split_X8_records : GoodIn wsX8_split wsX8_records := goodIn_r _ [15, 16, 17, 1, 18, 19, 4, 20, 52, 53, 54, 55, 56, 57, 58, 59, 60, 61, 62, 63, 64, 65] (by decide +kernel) (by decide +kernel)
set_option maxRecDepth 20000 in
theorem gX8_split_X8_records : GoodIn wsX8_split (wsV RX8 96 RX8 yX8_records wsX8_records) := goodIn_app (goodIn_of _ (by decide +kernel)) ggX8_split_X8_records
set_option maxRecDepth 20000 in
theorem ggX8_split_X8_forgets : GoodIn wsX8_split wsX8_forgets := goodIn_r _ [24, 1, 52, 53, 54, 55, 56, 57, 58, 59, 60, 61, 62, 63, 64, 65] (by decide +kernel) (by decide +kernel)
set_option maxRecDepth 20000 in
theorem gX8_split_X8_forgets : GoodIn wsX8_split (wsV RX8 117 RX8 yX8_forgets wsX8_forgets) := goodIn_app (goodIn_of _ (by decide +kernel)) ggX8_split_X8_forgets
set_option maxRecDepth 20000 in
theorem ggX8_split_X8_allLeaves : GoodIn wsX8_split wsX8_allLeaves := goodIn_r _ [27, 28, 29, 4, 30, 31, 32, 33, 34, 35, 36, 37, 38, 39, 6, 7, 8, 9, 10, 11, 40, 41, 42, 43, 44, 45, 46, 47, 48, 49, 50, 51] (by decide +kernel) (by decide +kernel)
set_option maxRecDepth 20000 in
theorem gX8_split_X8_allLeaves : GoodIn wsX8_split (va_wsS RX8 106 yX8_allLeaves wsX8_allLeaves) := goodIn_app (goodIn_of _ (by decide +kernel)) ggX8_split_X8_allLeaves
theorem dX8_split_0 : decode cX8_split 0 = .ok (.iload_n 1, 1) := by decide +kernel
theorem dX8_split_1 : decode cX8_split 1 = .ok (.invokestatic 114, 3) := by decide +kernel
theorem dX8_split_4 : decode cX8_split 4 = .ok (.ifCond .eq 12, 3) := by decide +kernel
theorem dX8_split_7 : decode cX8_split 7 = .ok (.iload_n 1, 1) := by decide +kernel
theorem dX8_split_8 : decode cX8_split 8 = .ok (.invokestatic 47, 3) := by decide +kernel
theorem dX8_split_11 : decode cX8_split 11 = .ok (.bipush 6, 2) := by decide +kernel
theorem dX8_split_13 : decode cX8_split 13 = .ok (.if_icmp .ne 5, 3) := by decide +kernel
theorem dX8_split_16 : decode cX8_split 16 = .ok (.iconst (-1), 1) := by decide +kernel
theorem dX8_split_17 : decode cX8_split 17 = .ok (.ireturn, 1) := by decide +kernel
theorem dX8_split_18 : decode cX8_split 18 = .ok (.aload_n 0, 1) := by decide +kernel
theorem dX8_split_19 : decode cX8_split 19 = .ok (.getfield 7, 3) := by decide +kernel
theorem dX8_split_22 : decode cX8_split 22 = .ok (.iload_n 1, 1) := by decide +kernel
theorem dX8_split_23 : decode cX8_split 23 = .ok (.invokestatic 62, 3) := by decide +kernel
theorem dX8_split_26 : decode cX8_split 26 = .ok (.iload_n 2, 1) := by decide +kernel
theorem dX8_split_27 : decode cX8_split 27 = .ok (.if_icmp .ne 6, 3) := by decide +kernel
theorem dX8_split_30 : decode cX8_split 30 = .ok (.bipush (-5), 2) := by decide +kernel
theorem dX8_split_32 : decode cX8_split 32 = .ok (.ireturn, 1) := by decide +kernel
theorem dX8_split_33 : decode cX8_split 33 = .ok (.iload_n 2, 1) := by decide +kernel
theorem dX8_split_34 : decode cX8_split 34 = .ok (.ifCond .eq 17, 3) := by decide +kernel
theorem dX8_split_37 : decode cX8_split 37 = .ok (.aload_n 0, 1) := by decide +kernel
theorem dX8_split_38 : decode cX8_split 38 = .ok (.getfield 7, 3) := by decide +kernel
theorem dX8_split_41 : decode cX8_split 41 = .ok (.iconst 3, 1) := by decide +kernel
theorem dX8_split_42 : decode cX8_split 42 = .ok (.iaload, 1) := by decide +kernel
theorem dX8_split_43 : decode cX8_split 43 = .ok (.bipush 12, 2) := by decide +kernel
theorem dX8_split_45 : decode cX8_split 45 = .ok (.if_icmp .ne 6, 3) := by decide +kernel
theorem dX8_split_48 : decode cX8_split 48 = .ok (.bipush (-4), 2) := by decide +kernel
theorem dX8_split_50 : decode cX8_split 50 = .ok (.ireturn, 1) := by decide +kernel
theorem dX8_split_51 : decode cX8_split 51 = .ok (.aload_n 0, 1) := by decide +kernel
theorem dX8_split_52 : decode cX8_split 52 = .ok (.invokevirtual 96, 3) := by decide +kernel
theorem dX8_split_55 : decode cX8_split 55 = .ok (.iload_n 2, 1) := by decide +kernel
theorem dX8_split_56 : decode cX8_split 56 = .ok (.ifCond .eq 31, 3) := by decide +kernel
theorem dX8_split_59 : decode cX8_split 59 = .ok (.aload_n 0, 1) := by decide +kernel
theorem dX8_split_60 : decode cX8_split 60 = .ok (.getfield 7, 3) := by decide +kernel
theorem dX8_split_63 : decode cX8_split 63 = .ok (.bipush 104, 2) := by decide +kernel
theorem dX8_split_65 : decode cX8_split 65 = .ok (.aload_n 0, 1) := by decide +kernel
theorem dX8_split_66 : decode cX8_split 66 = .ok (.getfield 7, 3) := by decide +kernel
theorem dX8_split_69 : decode cX8_split 69 = .ok (.iconst 3, 1) := by decide +kernel
theorem dX8_split_70 : decode cX8_split 70 = .ok (.iaload, 1) := by decide +kernel
theorem dX8_split_71 : decode cX8_split 71 = .ok (.iadd, 1) := by decide +kernel
theorem dX8_split_72 : decode cX8_split 72 = .ok (.iload_n 1, 1) := by decide +kernel
theorem dX8_split_73 : decode cX8_split 73 = .ok (.iastore, 1) := by decide +kernel
theorem dX8_split_74 : decode cX8_split 74 = .ok (.aload_n 0, 1) := by decide +kernel
theorem dX8_split_75 : decode cX8_split 75 = .ok (.getfield 7, 3) := by decide +kernel
theorem dX8_split_78 : decode cX8_split 78 = .ok (.iconst 3, 1) := by decide +kernel
theorem dX8_split_79 : decode cX8_split 79 = .ok (.dup2, 1) := by decide +kernel
theorem dX8_split_80 : decode cX8_split 80 = .ok (.iaload, 1) := by decide +kernel
theorem dX8_split_81 : decode cX8_split 81 = .ok (.iconst 1, 1) := by decide +kernel
theorem dX8_split_82 : decode cX8_split 82 = .ok (.iadd, 1) := by decide +kernel
theorem dX8_split_83 : decode cX8_split 83 = .ok (.iastore, 1) := by decide +kernel
theorem dX8_split_84 : decode cX8_split 84 = .ok (.goto 8, 3) := by decide +kernel
theorem dX8_split_87 : decode cX8_split 87 = .ok (.aload_n 0, 1) := by decide +kernel
theorem dX8_split_88 : decode cX8_split 88 = .ok (.iload_n 1, 1) := by decide +kernel
theorem dX8_split_89 : decode cX8_split 89 = .ok (.invokevirtual 117, 3) := by decide +kernel
theorem dX8_split_92 : decode cX8_split 92 = .ok (.aload_n 0, 1) := by decide +kernel
theorem dX8_split_93 : decode cX8_split 93 = .ok (.getfield 7, 3) := by decide +kernel
theorem dX8_split_96 : decode cX8_split 96 = .ok (.invokestatic 106, 3) := by decide +kernel
theorem dX8_split_99 : decode cX8_split 99 = .ok (.ireturn, 1) := by decide +kernel
theorem dX8_forgets_0 : decode cX8_forgets 0 = .ok (.iconst 0, 1) := by decide +kernel
theorem dX8_forgets_1 : decode cX8_forgets 1 = .ok (.istore_n 2, 1) := by decide +kernel
theorem dX8_forgets_2 : decode cX8_forgets 2 = .ok (.iconst 0, 1) := by decide +kernel
theorem dX8_forgets_3 : decode cX8_forgets 3 = .ok (.istore_n 3, 1) := by decide +kernel
theorem dX8_forgets_4 : decode cX8_forgets 4 = .ok (.iload_n 3, 1) := by decide +kernel
theorem dX8_forgets_5 : decode cX8_forgets 5 = .ok (.aload_n 0, 1) := by decide +kernel
theorem dX8_forgets_6 : decode cX8_forgets 6 = .ok (.getfield 7, 3) := by decide +kernel
theorem dX8_forgets_9 : decode cX8_forgets 9 = .ok (.iconst 3, 1) := by decide +kernel
theorem dX8_forgets_10 : decode cX8_forgets 10 = .ok (.iaload, 1) := by decide +kernel
theorem dX8_forgets_11 : decode cX8_forgets 11 = .ok (.if_icmp .ge 50, 3) := by decide +kernel
theorem dX8_forgets_14 : decode cX8_forgets 14 = .ok (.aload_n 0, 1) := by decide +kernel
theorem dX8_forgets_15 : decode cX8_forgets 15 = .ok (.getfield 7, 3) := by decide +kernel
theorem dX8_forgets_18 : decode cX8_forgets 18 = .ok (.bipush 104, 2) := by decide +kernel
theorem dX8_forgets_20 : decode cX8_forgets 20 = .ok (.iload_n 3, 1) := by decide +kernel
theorem dX8_forgets_21 : decode cX8_forgets 21 = .ok (.iadd, 1) := by decide +kernel
theorem dX8_forgets_22 : decode cX8_forgets 22 = .ok (.iaload, 1) := by decide +kernel
theorem dX8_forgets_23 : decode cX8_forgets 23 = .ok (.istore 4, 2) := by decide +kernel
theorem dX8_forgets_25 : decode cX8_forgets 25 = .ok (.aload_n 0, 1) := by decide +kernel
theorem dX8_forgets_26 : decode cX8_forgets 26 = .ok (.getfield 7, 3) := by decide +kernel
theorem dX8_forgets_29 : decode cX8_forgets 29 = .ok (.bipush 104, 2) := by decide +kernel
theorem dX8_forgets_31 : decode cX8_forgets 31 = .ok (.iload_n 3, 1) := by decide +kernel
theorem dX8_forgets_32 : decode cX8_forgets 32 = .ok (.iadd, 1) := by decide +kernel
theorem dX8_forgets_33 : decode cX8_forgets 33 = .ok (.iconst 0, 1) := by decide +kernel
theorem dX8_forgets_34 : decode cX8_forgets 34 = .ok (.iastore, 1) := by decide +kernel
theorem dX8_forgets_35 : decode cX8_forgets 35 = .ok (.iload 4, 2) := by decide +kernel
theorem dX8_forgets_37 : decode cX8_forgets 37 = .ok (.iload_n 1, 1) := by decide +kernel
theorem dX8_forgets_38 : decode cX8_forgets 38 = .ok (.if_icmp .eq 17, 3) := by decide +kernel
theorem dX8_forgets_41 : decode cX8_forgets 41 = .ok (.aload_n 0, 1) := by decide +kernel
theorem dX8_forgets_42 : decode cX8_forgets 42 = .ok (.getfield 7, 3) := by decide +kernel
theorem dX8_forgets_45 : decode cX8_forgets 45 = .ok (.bipush 104, 2) := by decide +kernel
theorem dX8_forgets_47 : decode cX8_forgets 47 = .ok (.iload_n 2, 1) := by decide +kernel
theorem dX8_forgets_48 : decode cX8_forgets 48 = .ok (.iadd, 1) := by decide +kernel
theorem dX8_forgets_49 : decode cX8_forgets 49 = .ok (.iload 4, 2) := by decide +kernel
theorem dX8_forgets_51 : decode cX8_forgets 51 = .ok (.iastore, 1) := by decide +kernel
theorem dX8_forgets_52 : decode cX8_forgets 52 = .ok (.iinc 2 1, 3) := by decide +kernel
theorem dX8_forgets_55 : decode cX8_forgets 55 = .ok (.iinc 3 1, 3) := by decide +kernel
theorem dX8_forgets_58 : decode cX8_forgets 58 = .ok (.goto (-54), 3) := by decide +kernel
theorem dX8_forgets_61 : decode cX8_forgets 61 = .ok (.aload_n 0, 1) := by decide +kernel
theorem dX8_forgets_62 : decode cX8_forgets 62 = .ok (.getfield 7, 3) := by decide +kernel
theorem dX8_forgets_65 : decode cX8_forgets 65 = .ok (.iconst 3, 1) := by decide +kernel
theorem dX8_forgets_66 : decode cX8_forgets 66 = .ok (.iload_n 2, 1) := by decide +kernel
theorem dX8_forgets_67 : decode cX8_forgets 67 = .ok (.iastore, 1) := by decide +kernel
theorem dX8_forgets_68 : decode cX8_forgets 68 = .ok (.return_, 1) := by decide +kernel
set_option maxRecDepth 20000 in
theorem ggX8_rankOf_X8_pathAt : GoodIn wsX8_rankOf wsX8_pathAt := goodIn_r _ [5, 6, 7, 4, 8] (by decide +kernel) (by decide +kernel)
set_option maxRecDepth 20000 in
theorem gX8_rankOf_X8_pathAt : GoodIn wsX8_rankOf (va_wsS RX8 55 yX8_pathAt wsX8_pathAt) := goodIn_app (goodIn_of _ (by decide +kernel)) ggX8_rankOf_X8_pathAt
theorem dX8_rankOf_0 : decode cX8_rankOf 0 = .ok (.iconst 0, 1) := by decide +kernel
theorem dX8_rankOf_1 : decode cX8_rankOf 1 = .ok (.istore_n 2, 1) := by decide +kernel
theorem dX8_rankOf_2 : decode cX8_rankOf 2 = .ok (.iconst 0, 1) := by decide +kernel
theorem dX8_rankOf_3 : decode cX8_rankOf 3 = .ok (.istore_n 3, 1) := by decide +kernel
theorem dX8_rankOf_4 : decode cX8_rankOf 4 = .ok (.iload_n 3, 1) := by decide +kernel
theorem dX8_rankOf_5 : decode cX8_rankOf 5 = .ok (.aload_n 0, 1) := by decide +kernel
theorem dX8_rankOf_6 : decode cX8_rankOf 6 = .ok (.getfield 7, 3) := by decide +kernel
theorem dX8_rankOf_9 : decode cX8_rankOf 9 = .ok (.iconst 0, 1) := by decide +kernel
theorem dX8_rankOf_10 : decode cX8_rankOf 10 = .ok (.iaload, 1) := by decide +kernel
theorem dX8_rankOf_11 : decode cX8_rankOf 11 = .ok (.if_icmp .ge 36, 3) := by decide +kernel
theorem dX8_rankOf_14 : decode cX8_rankOf 14 = .ok (.iload_n 2, 1) := by decide +kernel
theorem dX8_rankOf_15 : decode cX8_rankOf 15 = .ok (.aload_n 0, 1) := by decide +kernel
theorem dX8_rankOf_16 : decode cX8_rankOf 16 = .ok (.getfield 7, 3) := by decide +kernel
theorem dX8_rankOf_19 : decode cX8_rankOf 19 = .ok (.iload_n 3, 1) := by decide +kernel
theorem dX8_rankOf_20 : decode cX8_rankOf 20 = .ok (.invokestatic 55, 3) := by decide +kernel
theorem dX8_rankOf_23 : decode cX8_rankOf 23 = .ok (.aload_n 0, 1) := by decide +kernel
theorem dX8_rankOf_24 : decode cX8_rankOf 24 = .ok (.getfield 7, 3) := by decide +kernel
theorem dX8_rankOf_27 : decode cX8_rankOf 27 = .ok (.iload_n 1, 1) := by decide +kernel
theorem dX8_rankOf_28 : decode cX8_rankOf 28 = .ok (.invokestatic 55, 3) := by decide +kernel
theorem dX8_rankOf_31 : decode cX8_rankOf 31 = .ok (.if_icmp .ge 7, 3) := by decide +kernel
theorem dX8_rankOf_34 : decode cX8_rankOf 34 = .ok (.iconst 1, 1) := by decide +kernel
theorem dX8_rankOf_35 : decode cX8_rankOf 35 = .ok (.goto 4, 3) := by decide +kernel
theorem dX8_rankOf_38 : decode cX8_rankOf 38 = .ok (.iconst 0, 1) := by decide +kernel
theorem dX8_rankOf_39 : decode cX8_rankOf 39 = .ok (.iadd, 1) := by decide +kernel
theorem dX8_rankOf_40 : decode cX8_rankOf 40 = .ok (.istore_n 2, 1) := by decide +kernel
theorem dX8_rankOf_41 : decode cX8_rankOf 41 = .ok (.iinc 3 1, 3) := by decide +kernel
theorem dX8_rankOf_44 : decode cX8_rankOf 44 = .ok (.goto (-40), 3) := by decide +kernel
theorem dX8_rankOf_47 : decode cX8_rankOf 47 = .ok (.iload_n 2, 1) := by decide +kernel
theorem dX8_rankOf_48 : decode cX8_rankOf 48 = .ok (.ireturn, 1) := by decide +kernel
set_option maxRecDepth 20000 in
theorem ggX8_of_X8_isPoint : GoodIn wsX8_of wsX8_isPoint := goodIn_r _ [6, 1, 7, 8, 5, 9, 38, 39, 40, 41, 42, 43, 44, 45, 46, 47, 48, 49, 50, 51] (by decide +kernel) (by decide +kernel)
set_option maxRecDepth 20000 in
theorem gX8_of_X8_isPoint : GoodIn wsX8_of (wsV RX8 110 RX8 yX8_isPoint wsX8_isPoint) := goodIn_app (goodIn_of _ (by decide +kernel)) ggX8_of_X8_isPoint
set_option maxRecDepth 20000 in
theorem ggX8_of_X8_pathAt : GoodIn wsX8_of wsX8_pathAt := goodIn_r _ [12, 13, 14, 5, 15] (by decide +kernel) (by decide +kernel)
set_option maxRecDepth 20000 in
theorem gX8_of_X8_pathAt : GoodIn wsX8_of (va_wsS RX8 55 yX8_pathAt wsX8_pathAt) := goodIn_app (goodIn_of _ (by decide +kernel)) ggX8_of_X8_pathAt
set_option maxRecDepth 20000 in
theorem ggX8_of_X8_leafOf : GoodIn wsX8_of wsX8_leafOf := goodIn_r _ [18, 19, 20, 5, 21, 22, 23, 24, 25, 26, 27, 28, 29, 30, 31, 32, 33, 10, 11, 12, 13, 14, 15] (by decide +kernel) (by decide +kernel)
set_option maxRecDepth 20000 in
theorem gX8_of_X8_leafOf : GoodIn wsX8_of (va_wsS RX8 75 yX8_leafOf wsX8_leafOf) := goodIn_app (goodIn_of _ (by decide +kernel)) ggX8_of_X8_leafOf
set_option maxRecDepth 20000 in
theorem ggX8_of_X8_rankOf : GoodIn wsX8_of wsX8_rankOf := goodIn_r _ [37, 1, 10, 11, 5, 12, 13, 14, 15, 38, 39, 40, 41, 42, 43, 44, 45, 46, 47, 48, 49, 50, 51] (by decide +kernel) (by decide +kernel)
set_option maxRecDepth 20000 in
theorem gX8_of_X8_rankOf : GoodIn wsX8_of (wsV RX8 121 RX8 yX8_rankOf wsX8_rankOf) := goodIn_app (goodIn_of _ (by decide +kernel)) ggX8_of_X8_rankOf
theorem dX8_of_0 : decode cX8_of 0 = .ok (.aload_n 0, 1) := by decide +kernel
theorem dX8_of_1 : decode cX8_of 1 = .ok (.iload_n 1, 1) := by decide +kernel
theorem dX8_of_2 : decode cX8_of 2 = .ok (.invokevirtual 110, 3) := by decide +kernel
theorem dX8_of_5 : decode cX8_of 5 = .ok (.ifCond .ne 5, 3) := by decide +kernel
theorem dX8_of_8 : decode cX8_of 8 = .ok (.iconst (-1), 1) := by decide +kernel
theorem dX8_of_9 : decode cX8_of 9 = .ok (.ireturn, 1) := by decide +kernel
theorem dX8_of_10 : decode cX8_of 10 = .ok (.iload_n 2, 1) := by decide +kernel
theorem dX8_of_11 : decode cX8_of 11 = .ok (.tableswitch 64 0 3 #[29, 29, 42, 58], 29) := by decide +kernel
theorem dX8_of_40 : decode cX8_of 40 = .ok (.aload_n 0, 1) := by decide +kernel
theorem dX8_of_41 : decode cX8_of 41 = .ok (.getfield 7, 3) := by decide +kernel
theorem dX8_of_44 : decode cX8_of 44 = .ok (.iconst 4, 1) := by decide +kernel
theorem dX8_of_45 : decode cX8_of 45 = .ok (.iconst 2, 1) := by decide +kernel
theorem dX8_of_46 : decode cX8_of 46 = .ok (.iload_n 1, 1) := by decide +kernel
theorem dX8_of_47 : decode cX8_of 47 = .ok (.imul, 1) := by decide +kernel
theorem dX8_of_48 : decode cX8_of 48 = .ok (.iadd, 1) := by decide +kernel
theorem dX8_of_49 : decode cX8_of 49 = .ok (.iload_n 2, 1) := by decide +kernel
theorem dX8_of_50 : decode cX8_of 50 = .ok (.iadd, 1) := by decide +kernel
theorem dX8_of_51 : decode cX8_of 51 = .ok (.iaload, 1) := by decide +kernel
theorem dX8_of_52 : decode cX8_of 52 = .ok (.ireturn, 1) := by decide +kernel
theorem dX8_of_53 : decode cX8_of 53 = .ok (.aload_n 0, 1) := by decide +kernel
theorem dX8_of_54 : decode cX8_of 54 = .ok (.getfield 7, 3) := by decide +kernel
theorem dX8_of_57 : decode cX8_of 57 = .ok (.aload_n 0, 1) := by decide +kernel
theorem dX8_of_58 : decode cX8_of 58 = .ok (.getfield 7, 3) := by decide +kernel
theorem dX8_of_61 : decode cX8_of 61 = .ok (.iload_n 1, 1) := by decide +kernel
theorem dX8_of_62 : decode cX8_of 62 = .ok (.invokestatic 55, 3) := by decide +kernel
theorem dX8_of_65 : decode cX8_of 65 = .ok (.invokestatic 75, 3) := by decide +kernel
theorem dX8_of_68 : decode cX8_of 68 = .ok (.ireturn, 1) := by decide +kernel
theorem dX8_of_69 : decode cX8_of 69 = .ok (.aload_n 0, 1) := by decide +kernel
theorem dX8_of_70 : decode cX8_of 70 = .ok (.iload_n 1, 1) := by decide +kernel
theorem dX8_of_71 : decode cX8_of 71 = .ok (.invokevirtual 121, 3) := by decide +kernel
theorem dX8_of_74 : decode cX8_of 74 = .ok (.ireturn, 1) := by decide +kernel
theorem dX8_of_75 : decode cX8_of 75 = .ok (.bipush (-2), 2) := by decide +kernel
theorem dX8_of_77 : decode cX8_of 77 = .ok (.ireturn, 1) := by decide +kernel
set_option maxRecDepth 20000 in
theorem ggX8_leafAt_X8_isPlace : GoodIn wsX8_leafAt wsX8_isPlace := goodIn_r _ [5, 6, 7, 4, 8] (by decide +kernel) (by decide +kernel)
set_option maxRecDepth 20000 in
theorem gX8_leafAt_X8_isPlace : GoodIn wsX8_leafAt (va_wsS RX8 89 yX8_isPlace wsX8_isPlace) := goodIn_app (goodIn_of _ (by decide +kernel)) ggX8_leafAt_X8_isPlace
set_option maxRecDepth 20000 in
theorem ggX8_leafAt_X8_pathOf : GoodIn wsX8_leafAt wsX8_pathOf := goodIn_r _ [11] (by decide +kernel) (by decide +kernel)
set_option maxRecDepth 20000 in
theorem gX8_leafAt_X8_pathOf : GoodIn wsX8_leafAt (va_wsS RX8 51 yX8_pathOf wsX8_pathOf) := goodIn_app (goodIn_of _ (by decide +kernel)) ggX8_leafAt_X8_pathOf
set_option maxRecDepth 20000 in
theorem ggX8_leafAt_X8_leafOf : GoodIn wsX8_leafAt wsX8_leafOf := goodIn_r _ [14, 15, 16, 4, 17, 18, 19, 20, 21, 22, 23, 24, 25, 26, 27, 28, 29, 30, 31, 32, 9, 10, 11] (by decide +kernel) (by decide +kernel)
set_option maxRecDepth 20000 in
theorem gX8_leafAt_X8_leafOf : GoodIn wsX8_leafAt (va_wsS RX8 75 yX8_leafOf wsX8_leafOf) := goodIn_app (goodIn_of _ (by decide +kernel)) ggX8_leafAt_X8_leafOf
theorem dX8_leafAt_0 : decode cX8_leafAt 0 = .ok (.iload_n 1, 1) := by decide +kernel
theorem dX8_leafAt_1 : decode cX8_leafAt 1 = .ok (.iload_n 2, 1) := by decide +kernel
theorem dX8_leafAt_2 : decode cX8_leafAt 2 = .ok (.invokestatic 89, 3) := by decide +kernel
theorem dX8_leafAt_5 : decode cX8_leafAt 5 = .ok (.ifCond .eq 18, 3) := by decide +kernel
theorem dX8_leafAt_8 : decode cX8_leafAt 8 = .ok (.aload_n 0, 1) := by decide +kernel
theorem dX8_leafAt_9 : decode cX8_leafAt 9 = .ok (.getfield 7, 3) := by decide +kernel
theorem dX8_leafAt_12 : decode cX8_leafAt 12 = .ok (.iload_n 1, 1) := by decide +kernel
theorem dX8_leafAt_13 : decode cX8_leafAt 13 = .ok (.iload_n 2, 1) := by decide +kernel
theorem dX8_leafAt_14 : decode cX8_leafAt 14 = .ok (.invokestatic 51, 3) := by decide +kernel
theorem dX8_leafAt_17 : decode cX8_leafAt 17 = .ok (.invokestatic 75, 3) := by decide +kernel
theorem dX8_leafAt_20 : decode cX8_leafAt 20 = .ok (.goto 4, 3) := by decide +kernel
theorem dX8_leafAt_23 : decode cX8_leafAt 23 = .ok (.iconst (-1), 1) := by decide +kernel
theorem dX8_leafAt_24 : decode cX8_leafAt 24 = .ok (.ireturn, 1) := by decide +kernel
set_option maxRecDepth 20000 in
theorem ggX8_whatIs_X8_isThere : GoodIn wsX8_whatIs wsX8_isThere := goodIn_r _ [5, 6, 7, 4, 8, 9, 10, 11, 12, 13, 14, 15, 16, 17, 18, 19, 20, 21, 22, 23, 24, 25, 26, 27, 28, 29, 30, 31, 32] (by decide +kernel) (by decide +kernel)
set_option maxRecDepth 20000 in
theorem gX8_whatIs_X8_isThere : GoodIn wsX8_whatIs (va_wsS RX8 124 yX8_isThere wsX8_isThere) := goodIn_app (goodIn_of _ (by decide +kernel)) ggX8_whatIs_X8_isThere
set_option maxRecDepth 20000 in
theorem ggX8_whatIs_X8_isSplit : GoodIn wsX8_whatIs wsX8_isSplit := goodIn_r _ [20, 9, 10, 4, 11, 21, 22, 23, 24, 25, 26, 27, 28, 29, 30, 31, 32, 15, 16, 17] (by decide +kernel) (by decide +kernel)
set_option maxRecDepth 20000 in
theorem gX8_whatIs_X8_isSplit : GoodIn wsX8_whatIs (va_wsS RX8 69 yX8_isSplit wsX8_isSplit) := goodIn_app (goodIn_of _ (by decide +kernel)) ggX8_whatIs_X8_isSplit
theorem dX8_whatIs_0 : decode cX8_whatIs 0 = .ok (.aload_n 0, 1) := by decide +kernel
theorem dX8_whatIs_1 : decode cX8_whatIs 1 = .ok (.getfield 7, 3) := by decide +kernel
theorem dX8_whatIs_4 : decode cX8_whatIs 4 = .ok (.iload_n 1, 1) := by decide +kernel
theorem dX8_whatIs_5 : decode cX8_whatIs 5 = .ok (.invokestatic 124, 3) := by decide +kernel
theorem dX8_whatIs_8 : decode cX8_whatIs 8 = .ok (.ifCond .ne 7, 3) := by decide +kernel
theorem dX8_whatIs_11 : decode cX8_whatIs 11 = .ok (.iconst 0, 1) := by decide +kernel
theorem dX8_whatIs_12 : decode cX8_whatIs 12 = .ok (.goto 19, 3) := by decide +kernel
theorem dX8_whatIs_15 : decode cX8_whatIs 15 = .ok (.aload_n 0, 1) := by decide +kernel
theorem dX8_whatIs_16 : decode cX8_whatIs 16 = .ok (.getfield 7, 3) := by decide +kernel
theorem dX8_whatIs_19 : decode cX8_whatIs 19 = .ok (.iload_n 1, 1) := by decide +kernel
theorem dX8_whatIs_20 : decode cX8_whatIs 20 = .ok (.invokestatic 69, 3) := by decide +kernel
theorem dX8_whatIs_23 : decode cX8_whatIs 23 = .ok (.ifCond .eq 7, 3) := by decide +kernel
theorem dX8_whatIs_26 : decode cX8_whatIs 26 = .ok (.iconst 2, 1) := by decide +kernel
theorem dX8_whatIs_27 : decode cX8_whatIs 27 = .ok (.goto 4, 3) := by decide +kernel
theorem dX8_whatIs_30 : decode cX8_whatIs 30 = .ok (.iconst 1, 1) := by decide +kernel
theorem dX8_whatIs_31 : decode cX8_whatIs 31 = .ok (.ireturn, 1) := by decide +kernel
set_option maxRecDepth 20000 in
theorem ggX8_leavesIn_X8_firstOf : GoodIn wsX8_leavesIn wsX8_firstOf := goodIn_r _ [5, 6, 7, 4, 8] (by decide +kernel) (by decide +kernel)
set_option maxRecDepth 20000 in
theorem gX8_leavesIn_X8_firstOf : GoodIn wsX8_leavesIn (va_wsS RX8 72 yX8_firstOf wsX8_firstOf) := goodIn_app (goodIn_of _ (by decide +kernel)) ggX8_leavesIn_X8_firstOf
set_option maxRecDepth 20000 in
theorem ggX8_leavesIn_X8_isThere : GoodIn wsX8_leavesIn wsX8_isThere := goodIn_r _ [11, 2, 3, 4, 5, 6, 7, 8, 12, 13, 14, 15, 16, 17, 18, 19, 20, 21, 22, 23, 24, 25, 26, 27, 28, 29, 30, 31, 32] (by decide +kernel) (by decide +kernel)
set_option maxRecDepth 20000 in
theorem gX8_leavesIn_X8_isThere : GoodIn wsX8_leavesIn (va_wsS RX8 124 yX8_isThere wsX8_isThere) := goodIn_app (goodIn_of _ (by decide +kernel)) ggX8_leavesIn_X8_isThere
set_option maxRecDepth 20000 in
theorem ggX8_leavesIn_X8_pathsIn : GoodIn wsX8_leavesIn wsX8_pathsIn := goodIn_r _ [35, 6, 7, 4, 8] (by decide +kernel) (by decide +kernel)
set_option maxRecDepth 20000 in
theorem gX8_leavesIn_X8_pathsIn : GoodIn wsX8_leavesIn (va_wsS RX8 78 yX8_pathsIn wsX8_pathsIn) := goodIn_app (goodIn_of _ (by decide +kernel)) ggX8_leavesIn_X8_pathsIn
set_option maxRecDepth 20000 in
theorem ggX8_leavesIn_X8_leaves : GoodIn wsX8_leavesIn wsX8_leaves := goodIn_r _ [38, 12, 13, 4, 14, 15, 16, 17, 18, 19, 20, 6, 7, 8, 21, 22, 23, 24, 25, 26, 27, 28, 29, 30, 31, 32, 33, 34, 35] (by decide +kernel) (by decide +kernel)
set_option maxRecDepth 20000 in
theorem gX8_leavesIn_X8_leaves : GoodIn wsX8_leavesIn (va_wsS RX8 81 yX8_leaves wsX8_leaves) := goodIn_app (goodIn_of _ (by decide +kernel)) ggX8_leavesIn_X8_leaves
theorem dX8_leavesIn_0 : decode cX8_leavesIn 0 = .ok (.iload_n 1, 1) := by decide +kernel
theorem dX8_leavesIn_1 : decode cX8_leavesIn 1 = .ok (.invokestatic 72, 3) := by decide +kernel
theorem dX8_leavesIn_4 : decode cX8_leavesIn 4 = .ok (.istore_n 2, 1) := by decide +kernel
theorem dX8_leavesIn_5 : decode cX8_leavesIn 5 = .ok (.aload_n 0, 1) := by decide +kernel
theorem dX8_leavesIn_6 : decode cX8_leavesIn 6 = .ok (.getfield 7, 3) := by decide +kernel
theorem dX8_leavesIn_9 : decode cX8_leavesIn 9 = .ok (.iload_n 1, 1) := by decide +kernel
theorem dX8_leavesIn_10 : decode cX8_leavesIn 10 = .ok (.invokestatic 124, 3) := by decide +kernel
theorem dX8_leavesIn_13 : decode cX8_leavesIn 13 = .ok (.ifCond .eq 20, 3) := by decide +kernel
theorem dX8_leavesIn_16 : decode cX8_leavesIn 16 = .ok (.aload_n 0, 1) := by decide +kernel
theorem dX8_leavesIn_17 : decode cX8_leavesIn 17 = .ok (.getfield 7, 3) := by decide +kernel
theorem dX8_leavesIn_20 : decode cX8_leavesIn 20 = .ok (.iload_n 2, 1) := by decide +kernel
theorem dX8_leavesIn_21 : decode cX8_leavesIn 21 = .ok (.iload_n 2, 1) := by decide +kernel
theorem dX8_leavesIn_22 : decode cX8_leavesIn 22 = .ok (.iload_n 1, 1) := by decide +kernel
theorem dX8_leavesIn_23 : decode cX8_leavesIn 23 = .ok (.invokestatic 78, 3) := by decide +kernel
theorem dX8_leavesIn_26 : decode cX8_leavesIn 26 = .ok (.iadd, 1) := by decide +kernel
theorem dX8_leavesIn_27 : decode cX8_leavesIn 27 = .ok (.invokestatic 81, 3) := by decide +kernel
theorem dX8_leavesIn_30 : decode cX8_leavesIn 30 = .ok (.goto 4, 3) := by decide +kernel
theorem dX8_leavesIn_33 : decode cX8_leavesIn 33 = .ok (.iconst 0, 1) := by decide +kernel
theorem dX8_leavesIn_34 : decode cX8_leavesIn 34 = .ok (.ireturn, 1) := by decide +kernel
set_option maxRecDepth 20000 in
theorem ggX8_tile_X8_isNumber : GoodIn wsX8_tile wsX8_isNumber := goodIn_r _ [5, 6, 7, 4, 8] (by decide +kernel) (by decide +kernel)
set_option maxRecDepth 20000 in
theorem gX8_tile_X8_isNumber : GoodIn wsX8_tile (va_wsS RX8 114 yX8_isNumber wsX8_isNumber) := goodIn_app (goodIn_of _ (by decide +kernel)) ggX8_tile_X8_isNumber
set_option maxRecDepth 20000 in
theorem ggX8_tile_X8_firstOf : GoodIn wsX8_tile wsX8_firstOf := goodIn_r _ [11, 6, 7, 4, 8] (by decide +kernel) (by decide +kernel)
set_option maxRecDepth 20000 in
theorem gX8_tile_X8_firstOf : GoodIn wsX8_tile (va_wsS RX8 72 yX8_firstOf wsX8_firstOf) := goodIn_app (goodIn_of _ (by decide +kernel)) ggX8_tile_X8_firstOf
set_option maxRecDepth 20000 in
theorem ggX8_tile_X8_coordinate : GoodIn wsX8_tile wsX8_coordinate := goodIn_r _ [14] (by decide +kernel) (by decide +kernel)
set_option maxRecDepth 20000 in
theorem gX8_tile_X8_coordinate : GoodIn wsX8_tile (va_wsS RX8 127 yX8_coordinate wsX8_coordinate) := goodIn_app (goodIn_of _ (by decide +kernel)) ggX8_tile_X8_coordinate
set_option maxRecDepth 20000 in
theorem ggX8_tile_X8_sizeOf : GoodIn wsX8_tile wsX8_sizeOf := goodIn_r _ [17, 6, 7, 4, 8] (by decide +kernel) (by decide +kernel)
set_option maxRecDepth 20000 in
theorem gX8_tile_X8_sizeOf : GoodIn wsX8_tile (va_wsS RX8 130 yX8_sizeOf wsX8_sizeOf) := goodIn_app (goodIn_of _ (by decide +kernel)) ggX8_tile_X8_sizeOf
set_option maxRecDepth 20000 in
theorem ggX8_tile_X8_depthOf : GoodIn wsX8_tile wsX8_depthOf := goodIn_r _ [8] (by decide +kernel) (by decide +kernel)
set_option maxRecDepth 20000 in
theorem gX8_tile_X8_depthOf : GoodIn wsX8_tile (va_wsS RX8 47 yX8_depthOf wsX8_depthOf) := goodIn_app (goodIn_of _ (by decide +kernel)) ggX8_tile_X8_depthOf
set_option maxRecDepth 20000 in
theorem ggX8_tile_X8_pointsIn : GoodIn wsX8_tile wsX8_pointsIn := goodIn_r _ [20, 6, 7, 4, 8, 21, 22, 23, 24, 25, 26, 27, 28, 29] (by decide +kernel) (by decide +kernel)
set_option maxRecDepth 20000 in
theorem gX8_tile_X8_pointsIn : GoodIn wsX8_tile (va_wsS RX8 66 yX8_pointsIn wsX8_pointsIn) := goodIn_app (goodIn_of _ (by decide +kernel)) ggX8_tile_X8_pointsIn
set_option maxRecDepth 20000 in
theorem ggX8_tile_X8_whatIs : GoodIn wsX8_tile wsX8_whatIs := goodIn_r _ [33, 1, 34, 35, 4, 36, 9, 10, 11, 6, 7, 8, 37, 38, 39, 27, 28, 29, 40, 41, 42, 43, 44, 45, 18, 19, 20, 21, 22, 23, 24, 25, 26, 56, 57, 58, 59, 60, 61, 62, 63, 64, 65, 66, 67, 68, 69] (by decide +kernel) (by decide +kernel)
set_option maxRecDepth 20000 in
theorem gX8_tile_X8_whatIs : GoodIn wsX8_tile (wsV RX8 133 RX8 yX8_whatIs wsX8_whatIs) := goodIn_app (goodIn_of _ (by decide +kernel)) ggX8_tile_X8_whatIs
set_option maxRecDepth 20000 in
theorem ggX8_tile_X8_isOrdered : GoodIn wsX8_tile wsX8_isOrdered := goodIn_r _ [45] (by decide +kernel) (by decide +kernel)
set_option maxRecDepth 20000 in
theorem gX8_tile_X8_isOrdered : GoodIn wsX8_tile (va_wsS RX8 62 yX8_isOrdered wsX8_isOrdered) := goodIn_app (goodIn_of _ (by decide +kernel)) ggX8_tile_X8_isOrdered
set_option maxRecDepth 20000 in
theorem ggX8_tile_X8_leavesIn : GoodIn wsX8_tile wsX8_leavesIn := goodIn_r _ [49, 1, 9, 10, 4, 11, 6, 7, 8, 34, 35, 36, 37, 38, 39, 27, 28, 29, 40, 41, 42, 43, 44, 45, 18, 19, 20, 21, 22, 23, 24, 25, 26, 50, 51, 52, 53, 54, 55, 56, 57, 58, 59, 60, 61, 62, 63, 64, 65, 66, 67, 68, 69] (by decide +kernel) (by decide +kernel)
set_option maxRecDepth 20000 in
theorem gX8_tile_X8_leavesIn : GoodIn wsX8_tile (wsV RX8 136 RX8 yX8_leavesIn wsX8_leavesIn) := goodIn_app (goodIn_of _ (by decide +kernel)) ggX8_tile_X8_leavesIn
theorem dX8_tile_0 : decode cX8_tile 0 = .ok (.iload_n 1, 1) := by decide +kernel
theorem dX8_tile_1 : decode cX8_tile 1 = .ok (.invokestatic 114, 3) := by decide +kernel
theorem dX8_tile_4 : decode cX8_tile 4 = .ok (.ifCond .ne 5, 3) := by decide +kernel
theorem dX8_tile_7 : decode cX8_tile 7 = .ok (.iconst (-1), 1) := by decide +kernel
theorem dX8_tile_8 : decode cX8_tile 8 = .ok (.ireturn, 1) := by decide +kernel
theorem dX8_tile_9 : decode cX8_tile 9 = .ok (.iload_n 2, 1) := by decide +kernel
theorem dX8_tile_10 : decode cX8_tile 10 = .ok (.tableswitch 103 0 7 #[46, 46, 55, 60, 65, 74, 80, 97], 46) := by decide +kernel
theorem dX8_tile_56 : decode cX8_tile 56 = .ok (.iload_n 1, 1) := by decide +kernel
theorem dX8_tile_57 : decode cX8_tile 57 = .ok (.invokestatic 72, 3) := by decide +kernel
theorem dX8_tile_60 : decode cX8_tile 60 = .ok (.iload_n 2, 1) := by decide +kernel
theorem dX8_tile_61 : decode cX8_tile 61 = .ok (.invokestatic 127, 3) := by decide +kernel
theorem dX8_tile_64 : decode cX8_tile 64 = .ok (.ireturn, 1) := by decide +kernel
theorem dX8_tile_65 : decode cX8_tile 65 = .ok (.iload_n 1, 1) := by decide +kernel
theorem dX8_tile_66 : decode cX8_tile 66 = .ok (.invokestatic 130, 3) := by decide +kernel
theorem dX8_tile_69 : decode cX8_tile 69 = .ok (.ireturn, 1) := by decide +kernel
theorem dX8_tile_70 : decode cX8_tile 70 = .ok (.iload_n 1, 1) := by decide +kernel
theorem dX8_tile_71 : decode cX8_tile 71 = .ok (.invokestatic 47, 3) := by decide +kernel
theorem dX8_tile_74 : decode cX8_tile 74 = .ok (.ireturn, 1) := by decide +kernel
theorem dX8_tile_75 : decode cX8_tile 75 = .ok (.aload_n 0, 1) := by decide +kernel
theorem dX8_tile_76 : decode cX8_tile 76 = .ok (.getfield 7, 3) := by decide +kernel
theorem dX8_tile_79 : decode cX8_tile 79 = .ok (.iload_n 1, 1) := by decide +kernel
theorem dX8_tile_80 : decode cX8_tile 80 = .ok (.invokestatic 66, 3) := by decide +kernel
theorem dX8_tile_83 : decode cX8_tile 83 = .ok (.ireturn, 1) := by decide +kernel
theorem dX8_tile_84 : decode cX8_tile 84 = .ok (.aload_n 0, 1) := by decide +kernel
theorem dX8_tile_85 : decode cX8_tile 85 = .ok (.iload_n 1, 1) := by decide +kernel
theorem dX8_tile_86 : decode cX8_tile 86 = .ok (.invokevirtual 133, 3) := by decide +kernel
theorem dX8_tile_89 : decode cX8_tile 89 = .ok (.ireturn, 1) := by decide +kernel
theorem dX8_tile_90 : decode cX8_tile 90 = .ok (.aload_n 0, 1) := by decide +kernel
theorem dX8_tile_91 : decode cX8_tile 91 = .ok (.getfield 7, 3) := by decide +kernel
theorem dX8_tile_94 : decode cX8_tile 94 = .ok (.iload_n 1, 1) := by decide +kernel
theorem dX8_tile_95 : decode cX8_tile 95 = .ok (.invokestatic 62, 3) := by decide +kernel
theorem dX8_tile_98 : decode cX8_tile 98 = .ok (.ifCond .eq 7, 3) := by decide +kernel
theorem dX8_tile_101 : decode cX8_tile 101 = .ok (.iconst 1, 1) := by decide +kernel
theorem dX8_tile_102 : decode cX8_tile 102 = .ok (.goto 4, 3) := by decide +kernel
theorem dX8_tile_105 : decode cX8_tile 105 = .ok (.iconst 0, 1) := by decide +kernel
theorem dX8_tile_106 : decode cX8_tile 106 = .ok (.ireturn, 1) := by decide +kernel
theorem dX8_tile_107 : decode cX8_tile 107 = .ok (.aload_n 0, 1) := by decide +kernel
theorem dX8_tile_108 : decode cX8_tile 108 = .ok (.iload_n 1, 1) := by decide +kernel
theorem dX8_tile_109 : decode cX8_tile 109 = .ok (.invokevirtual 136, 3) := by decide +kernel
theorem dX8_tile_112 : decode cX8_tile 112 = .ok (.ireturn, 1) := by decide +kernel
theorem dX8_tile_113 : decode cX8_tile 113 = .ok (.bipush (-2), 2) := by decide +kernel
theorem dX8_tile_115 : decode cX8_tile 115 = .ok (.ireturn, 1) := by decide +kernel
set_option maxRecDepth 20000 in
theorem ggX8_letter_X8_isNumber : GoodIn wsX8_letter wsX8_isNumber := goodIn_r _ [4, 5, 6, 3, 7] (by decide +kernel) (by decide +kernel)
set_option maxRecDepth 20000 in
theorem gX8_letter_X8_isNumber : GoodIn wsX8_letter (va_wsS RX8 114 yX8_isNumber wsX8_isNumber) := goodIn_app (goodIn_of _ (by decide +kernel)) ggX8_letter_X8_isNumber
set_option maxRecDepth 20000 in
theorem ggX8_letter_X8_depthOf : GoodIn wsX8_letter wsX8_depthOf := goodIn_r _ [7] (by decide +kernel) (by decide +kernel)
set_option maxRecDepth 20000 in
theorem gX8_letter_X8_depthOf : GoodIn wsX8_letter (va_wsS RX8 47 yX8_depthOf wsX8_depthOf) := goodIn_app (goodIn_of _ (by decide +kernel)) ggX8_letter_X8_depthOf
set_option maxRecDepth 20000 in
theorem ggX8_letter_X8_in : GoodIn wsX8_letter wsX8_in := goodIn_r _ [10] (by decide +kernel) (by decide +kernel)
set_option maxRecDepth 20000 in
theorem gX8_letter_X8_in : GoodIn wsX8_letter (va_wsS RX8 43 yX8_in wsX8_in) := goodIn_app (goodIn_of _ (by decide +kernel)) ggX8_letter_X8_in
theorem dX8_letter_0 : decode cX8_letter 0 = .ok (.iload_n 1, 1) := by decide +kernel
theorem dX8_letter_1 : decode cX8_letter 1 = .ok (.invokestatic 114, 3) := by decide +kernel
theorem dX8_letter_4 : decode cX8_letter 4 = .ok (.ifCond .eq 17, 3) := by decide +kernel
theorem dX8_letter_7 : decode cX8_letter 7 = .ok (.iload_n 2, 1) := by decide +kernel
theorem dX8_letter_8 : decode cX8_letter 8 = .ok (.iconst 0, 1) := by decide +kernel
theorem dX8_letter_9 : decode cX8_letter 9 = .ok (.iload_n 1, 1) := by decide +kernel
theorem dX8_letter_10 : decode cX8_letter 10 = .ok (.invokestatic 47, 3) := by decide +kernel
theorem dX8_letter_13 : decode cX8_letter 13 = .ok (.iconst 1, 1) := by decide +kernel
theorem dX8_letter_14 : decode cX8_letter 14 = .ok (.isub, 1) := by decide +kernel
theorem dX8_letter_15 : decode cX8_letter 15 = .ok (.invokestatic 43, 3) := by decide +kernel
theorem dX8_letter_18 : decode cX8_letter 18 = .ok (.ifCond .ne 5, 3) := by decide +kernel
theorem dX8_letter_21 : decode cX8_letter 21 = .ok (.iconst (-1), 1) := by decide +kernel
theorem dX8_letter_22 : decode cX8_letter 22 = .ok (.ireturn, 1) := by decide +kernel
theorem dX8_letter_23 : decode cX8_letter 23 = .ok (.iload_n 1, 1) := by decide +kernel
theorem dX8_letter_24 : decode cX8_letter 24 = .ok (.iconst 2, 1) := by decide +kernel
theorem dX8_letter_25 : decode cX8_letter 25 = .ok (.iload_n 1, 1) := by decide +kernel
theorem dX8_letter_26 : decode cX8_letter 26 = .ok (.invokestatic 47, 3) := by decide +kernel
theorem dX8_letter_29 : decode cX8_letter 29 = .ok (.iconst 1, 1) := by decide +kernel
theorem dX8_letter_30 : decode cX8_letter 30 = .ok (.isub, 1) := by decide +kernel
theorem dX8_letter_31 : decode cX8_letter 31 = .ok (.iload_n 2, 1) := by decide +kernel
theorem dX8_letter_32 : decode cX8_letter 32 = .ok (.isub, 1) := by decide +kernel
theorem dX8_letter_33 : decode cX8_letter 33 = .ok (.imul, 1) := by decide +kernel
theorem dX8_letter_34 : decode cX8_letter 34 = .ok (.ishr, 1) := by decide +kernel
theorem dX8_letter_35 : decode cX8_letter 35 = .ok (.iconst 3, 1) := by decide +kernel
theorem dX8_letter_36 : decode cX8_letter 36 = .ok (.iand, 1) := by decide +kernel
theorem dX8_letter_37 : decode cX8_letter 37 = .ok (.ireturn, 1) := by decide +kernel
theorem dX8_across_0 : decode cX8_across 0 = .ok (.iload_n 0, 1) := by decide +kernel
theorem dX8_across_1 : decode cX8_across 1 = .ok (.iconst 2, 1) := by decide +kernel
theorem dX8_across_2 : decode cX8_across 2 = .ok (.if_icmp .lt 9, 3) := by decide +kernel
theorem dX8_across_5 : decode cX8_across 5 = .ok (.iload_n 0, 1) := by decide +kernel
theorem dX8_across_6 : decode cX8_across 6 = .ok (.bipush 7, 2) := by decide +kernel
theorem dX8_across_8 : decode cX8_across 8 = .ok (.if_icmp .ne 7, 3) := by decide +kernel
theorem dX8_across_11 : decode cX8_across 11 = .ok (.iconst 1, 1) := by decide +kernel
theorem dX8_across_12 : decode cX8_across 12 = .ok (.goto 19, 3) := by decide +kernel
theorem dX8_across_15 : decode cX8_across 15 = .ok (.iload_n 0, 1) := by decide +kernel
theorem dX8_across_16 : decode cX8_across 16 = .ok (.iconst 2, 1) := by decide +kernel
theorem dX8_across_17 : decode cX8_across 17 = .ok (.if_icmp .eq 9, 3) := by decide +kernel
theorem dX8_across_20 : decode cX8_across 20 = .ok (.iload_n 0, 1) := by decide +kernel
theorem dX8_across_21 : decode cX8_across 21 = .ok (.bipush 6, 2) := by decide +kernel
theorem dX8_across_23 : decode cX8_across 23 = .ok (.if_icmp .ne 7, 3) := by decide +kernel
theorem dX8_across_26 : decode cX8_across 26 = .ok (.iconst 0, 1) := by decide +kernel
theorem dX8_across_27 : decode cX8_across 27 = .ok (.goto 4, 3) := by decide +kernel
theorem dX8_across_30 : decode cX8_across 30 = .ok (.iconst (-1), 1) := by decide +kernel
theorem dX8_across_31 : decode cX8_across 31 = .ok (.ireturn, 1) := by decide +kernel
set_option maxRecDepth 20000 in
theorem ggX8_along_X8_in : GoodIn wsX8_along wsX8_in := goodIn_r _ [4] (by decide +kernel) (by decide +kernel)
set_option maxRecDepth 20000 in
theorem gX8_along_X8_in : GoodIn wsX8_along (va_wsS RX8 43 yX8_in wsX8_in) := goodIn_app (goodIn_of _ (by decide +kernel)) ggX8_along_X8_in
theorem dX8_along_0 : decode cX8_along 0 = .ok (.iload_n 0, 1) := by decide +kernel
theorem dX8_along_1 : decode cX8_along 1 = .ok (.iconst 1, 1) := by decide +kernel
theorem dX8_along_2 : decode cX8_along 2 = .ok (.iconst 3, 1) := by decide +kernel
theorem dX8_along_3 : decode cX8_along 3 = .ok (.invokestatic 43, 3) := by decide +kernel
theorem dX8_along_6 : decode cX8_along 6 = .ok (.ifCond .eq 7, 3) := by decide +kernel
theorem dX8_along_9 : decode cX8_along 9 = .ok (.iconst 1, 1) := by decide +kernel
theorem dX8_along_10 : decode cX8_along 10 = .ok (.goto 18, 3) := by decide +kernel
theorem dX8_along_13 : decode cX8_along 13 = .ok (.iload_n 0, 1) := by decide +kernel
theorem dX8_along_14 : decode cX8_along 14 = .ok (.iconst 5, 1) := by decide +kernel
theorem dX8_along_15 : decode cX8_along 15 = .ok (.bipush 7, 2) := by decide +kernel
theorem dX8_along_17 : decode cX8_along 17 = .ok (.invokestatic 43, 3) := by decide +kernel
theorem dX8_along_20 : decode cX8_along 20 = .ok (.ifCond .eq 7, 3) := by decide +kernel
theorem dX8_along_23 : decode cX8_along 23 = .ok (.iconst (-1), 1) := by decide +kernel
theorem dX8_along_24 : decode cX8_along 24 = .ok (.goto 4, 3) := by decide +kernel
theorem dX8_along_27 : decode cX8_along 27 = .ok (.iconst 0, 1) := by decide +kernel
theorem dX8_along_28 : decode cX8_along 28 = .ok (.ireturn, 1) := by decide +kernel
set_option maxRecDepth 20000 in
theorem ggX8_beside_X8_isNumber : GoodIn wsX8_beside wsX8_isNumber := goodIn_r _ [5, 6, 7, 4, 8] (by decide +kernel) (by decide +kernel)
set_option maxRecDepth 20000 in
theorem gX8_beside_X8_isNumber : GoodIn wsX8_beside (va_wsS RX8 114 yX8_isNumber wsX8_isNumber) := goodIn_app (goodIn_of _ (by decide +kernel)) ggX8_beside_X8_isNumber
set_option maxRecDepth 20000 in
theorem ggX8_beside_X8_in : GoodIn wsX8_beside wsX8_in := goodIn_r _ [11] (by decide +kernel) (by decide +kernel)
set_option maxRecDepth 20000 in
theorem gX8_beside_X8_in : GoodIn wsX8_beside (va_wsS RX8 43 yX8_in wsX8_in) := goodIn_app (goodIn_of _ (by decide +kernel)) ggX8_beside_X8_in
set_option maxRecDepth 20000 in
theorem ggX8_beside_X8_firstOf : GoodIn wsX8_beside wsX8_firstOf := goodIn_r _ [14, 6, 7, 4, 8] (by decide +kernel) (by decide +kernel)
set_option maxRecDepth 20000 in
theorem gX8_beside_X8_firstOf : GoodIn wsX8_beside (va_wsS RX8 72 yX8_firstOf wsX8_firstOf) := goodIn_app (goodIn_of _ (by decide +kernel)) ggX8_beside_X8_firstOf
set_option maxRecDepth 20000 in
theorem ggX8_beside_X8_coordinate : GoodIn wsX8_beside wsX8_coordinate := goodIn_r _ [17] (by decide +kernel) (by decide +kernel)
set_option maxRecDepth 20000 in
theorem gX8_beside_X8_coordinate : GoodIn wsX8_beside (va_wsS RX8 127 yX8_coordinate wsX8_coordinate) := goodIn_app (goodIn_of _ (by decide +kernel)) ggX8_beside_X8_coordinate
set_option maxRecDepth 20000 in
theorem ggX8_beside_X8_sizeOf : GoodIn wsX8_beside wsX8_sizeOf := goodIn_r _ [20, 6, 7, 4, 8] (by decide +kernel) (by decide +kernel)
set_option maxRecDepth 20000 in
theorem gX8_beside_X8_sizeOf : GoodIn wsX8_beside (va_wsS RX8 130 yX8_sizeOf wsX8_sizeOf) := goodIn_app (goodIn_of _ (by decide +kernel)) ggX8_beside_X8_sizeOf
set_option maxRecDepth 20000 in
theorem ggX8_beside_X8_across : GoodIn wsX8_beside wsX8_across := goodIn_r _ [23] (by decide +kernel) (by decide +kernel)
set_option maxRecDepth 20000 in
theorem gX8_beside_X8_across : GoodIn wsX8_beside (va_wsS RX8 139 yX8_across wsX8_across) := goodIn_app (goodIn_of _ (by decide +kernel)) ggX8_beside_X8_across
set_option maxRecDepth 20000 in
theorem ggX8_beside_X8_along : GoodIn wsX8_beside wsX8_along := goodIn_r _ [26, 9, 10, 4, 11] (by decide +kernel) (by decide +kernel)
set_option maxRecDepth 20000 in
theorem gX8_beside_X8_along : GoodIn wsX8_beside (va_wsS RX8 142 yX8_along wsX8_along) := goodIn_app (goodIn_of _ (by decide +kernel)) ggX8_beside_X8_along
set_option maxRecDepth 20000 in
theorem ggX8_beside_X8_isPlace : GoodIn wsX8_beside wsX8_isPlace := goodIn_r _ [29, 9, 10, 4, 11] (by decide +kernel) (by decide +kernel)
set_option maxRecDepth 20000 in
theorem gX8_beside_X8_isPlace : GoodIn wsX8_beside (va_wsS RX8 89 yX8_isPlace wsX8_isPlace) := goodIn_app (goodIn_of _ (by decide +kernel)) ggX8_beside_X8_isPlace
set_option maxRecDepth 20000 in
theorem ggX8_beside_X8_pathOf : GoodIn wsX8_beside wsX8_pathOf := goodIn_r _ [32] (by decide +kernel) (by decide +kernel)
set_option maxRecDepth 20000 in
theorem gX8_beside_X8_pathOf : GoodIn wsX8_beside (va_wsS RX8 51 yX8_pathOf wsX8_pathOf) := goodIn_app (goodIn_of _ (by decide +kernel)) ggX8_beside_X8_pathOf
set_option maxRecDepth 20000 in
theorem ggX8_beside_X8_depthOf : GoodIn wsX8_beside wsX8_depthOf := goodIn_r _ [8] (by decide +kernel) (by decide +kernel)
set_option maxRecDepth 20000 in
theorem gX8_beside_X8_depthOf : GoodIn wsX8_beside (va_wsS RX8 47 yX8_depthOf wsX8_depthOf) := goodIn_app (goodIn_of _ (by decide +kernel)) ggX8_beside_X8_depthOf
set_option maxRecDepth 20000 in
theorem ggX8_beside_X8_tileOf : GoodIn wsX8_beside wsX8_tileOf := goodIn_r _ [35] (by decide +kernel) (by decide +kernel)
set_option maxRecDepth 20000 in
theorem gX8_beside_X8_tileOf : GoodIn wsX8_beside (va_wsS RX8 59 yX8_tileOf wsX8_tileOf) := goodIn_app (goodIn_of _ (by decide +kernel)) ggX8_beside_X8_tileOf
set_option maxRecDepth 20000 in
theorem ggX8_beside_X8_leafOf : GoodIn wsX8_beside wsX8_leafOf := goodIn_r _ [38, 33, 34, 4, 35, 39, 40, 41, 6, 7, 8, 42, 43, 44, 45, 46, 47, 48, 49, 50, 30, 31, 32] (by decide +kernel) (by decide +kernel)
set_option maxRecDepth 20000 in
theorem gX8_beside_X8_leafOf : GoodIn wsX8_beside (va_wsS RX8 75 yX8_leafOf wsX8_leafOf) := goodIn_app (goodIn_of _ (by decide +kernel)) ggX8_beside_X8_leafOf
theorem dX8_beside_0 : decode cX8_beside 0 = .ok (.iload_n 1, 1) := by decide +kernel
theorem dX8_beside_1 : decode cX8_beside 1 = .ok (.invokestatic 114, 3) := by decide +kernel
theorem dX8_beside_4 : decode cX8_beside 4 = .ok (.ifCond .ne 5, 3) := by decide +kernel
theorem dX8_beside_7 : decode cX8_beside 7 = .ok (.iconst (-1), 1) := by decide +kernel
theorem dX8_beside_8 : decode cX8_beside 8 = .ok (.ireturn, 1) := by decide +kernel
theorem dX8_beside_9 : decode cX8_beside 9 = .ok (.iload_n 2, 1) := by decide +kernel
theorem dX8_beside_10 : decode cX8_beside 10 = .ok (.iconst 0, 1) := by decide +kernel
theorem dX8_beside_11 : decode cX8_beside 11 = .ok (.bipush 7, 2) := by decide +kernel
theorem dX8_beside_13 : decode cX8_beside 13 = .ok (.invokestatic 43, 3) := by decide +kernel
theorem dX8_beside_16 : decode cX8_beside 16 = .ok (.ifCond .eq 12, 3) := by decide +kernel
theorem dX8_beside_19 : decode cX8_beside 19 = .ok (.iload_n 3, 1) := by decide +kernel
theorem dX8_beside_20 : decode cX8_beside 20 = .ok (.iconst 0, 1) := by decide +kernel
theorem dX8_beside_21 : decode cX8_beside 21 = .ok (.iconst 1, 1) := by decide +kernel
theorem dX8_beside_22 : decode cX8_beside 22 = .ok (.invokestatic 43, 3) := by decide +kernel
theorem dX8_beside_25 : decode cX8_beside 25 = .ok (.ifCond .ne 6, 3) := by decide +kernel
theorem dX8_beside_28 : decode cX8_beside 28 = .ok (.bipush (-2), 2) := by decide +kernel
theorem dX8_beside_30 : decode cX8_beside 30 = .ok (.ireturn, 1) := by decide +kernel
theorem dX8_beside_31 : decode cX8_beside 31 = .ok (.iload_n 1, 1) := by decide +kernel
theorem dX8_beside_32 : decode cX8_beside 32 = .ok (.invokestatic 72, 3) := by decide +kernel
theorem dX8_beside_35 : decode cX8_beside 35 = .ok (.istore 4, 2) := by decide +kernel
theorem dX8_beside_37 : decode cX8_beside 37 = .ok (.iload 4, 2) := by decide +kernel
theorem dX8_beside_39 : decode cX8_beside 39 = .ok (.iconst 0, 1) := by decide +kernel
theorem dX8_beside_40 : decode cX8_beside 40 = .ok (.invokestatic 127, 3) := by decide +kernel
theorem dX8_beside_43 : decode cX8_beside 43 = .ok (.iload_n 1, 1) := by decide +kernel
theorem dX8_beside_44 : decode cX8_beside 44 = .ok (.invokestatic 130, 3) := by decide +kernel
theorem dX8_beside_47 : decode cX8_beside 47 = .ok (.iload_n 2, 1) := by decide +kernel
theorem dX8_beside_48 : decode cX8_beside 48 = .ok (.invokestatic 139, 3) := by decide +kernel
theorem dX8_beside_51 : decode cX8_beside 51 = .ok (.imul, 1) := by decide +kernel
theorem dX8_beside_52 : decode cX8_beside 52 = .ok (.iadd, 1) := by decide +kernel
theorem dX8_beside_53 : decode cX8_beside 53 = .ok (.istore 5, 2) := by decide +kernel
theorem dX8_beside_55 : decode cX8_beside 55 = .ok (.iload 4, 2) := by decide +kernel
theorem dX8_beside_57 : decode cX8_beside 57 = .ok (.iconst 1, 1) := by decide +kernel
theorem dX8_beside_58 : decode cX8_beside 58 = .ok (.invokestatic 127, 3) := by decide +kernel
theorem dX8_beside_61 : decode cX8_beside 61 = .ok (.iload_n 1, 1) := by decide +kernel
theorem dX8_beside_62 : decode cX8_beside 62 = .ok (.invokestatic 130, 3) := by decide +kernel
theorem dX8_beside_65 : decode cX8_beside 65 = .ok (.iload_n 2, 1) := by decide +kernel
theorem dX8_beside_66 : decode cX8_beside 66 = .ok (.invokestatic 142, 3) := by decide +kernel
theorem dX8_beside_69 : decode cX8_beside 69 = .ok (.imul, 1) := by decide +kernel
theorem dX8_beside_70 : decode cX8_beside 70 = .ok (.iadd, 1) := by decide +kernel
theorem dX8_beside_71 : decode cX8_beside 71 = .ok (.istore 6, 2) := by decide +kernel
theorem dX8_beside_73 : decode cX8_beside 73 = .ok (.iload 5, 2) := by decide +kernel
theorem dX8_beside_75 : decode cX8_beside 75 = .ok (.iload 6, 2) := by decide +kernel
theorem dX8_beside_77 : decode cX8_beside 77 = .ok (.invokestatic 89, 3) := by decide +kernel
theorem dX8_beside_80 : decode cX8_beside 80 = .ok (.ifCond .ne 6, 3) := by decide +kernel
theorem dX8_beside_83 : decode cX8_beside 83 = .ok (.bipush (-6), 2) := by decide +kernel
theorem dX8_beside_85 : decode cX8_beside 85 = .ok (.ireturn, 1) := by decide +kernel
theorem dX8_beside_86 : decode cX8_beside 86 = .ok (.iload 5, 2) := by decide +kernel
theorem dX8_beside_88 : decode cX8_beside 88 = .ok (.iload 6, 2) := by decide +kernel
theorem dX8_beside_90 : decode cX8_beside 90 = .ok (.invokestatic 51, 3) := by decide +kernel
theorem dX8_beside_93 : decode cX8_beside 93 = .ok (.istore 7, 2) := by decide +kernel
theorem dX8_beside_95 : decode cX8_beside 95 = .ok (.iload 7, 2) := by decide +kernel
theorem dX8_beside_97 : decode cX8_beside 97 = .ok (.iload_n 1, 1) := by decide +kernel
theorem dX8_beside_98 : decode cX8_beside 98 = .ok (.invokestatic 47, 3) := by decide +kernel
theorem dX8_beside_101 : decode cX8_beside 101 = .ok (.invokestatic 59, 3) := by decide +kernel
theorem dX8_beside_104 : decode cX8_beside 104 = .ok (.istore 8, 2) := by decide +kernel
theorem dX8_beside_106 : decode cX8_beside 106 = .ok (.aload_n 0, 1) := by decide +kernel
theorem dX8_beside_107 : decode cX8_beside 107 = .ok (.getfield 7, 3) := by decide +kernel
theorem dX8_beside_110 : decode cX8_beside 110 = .ok (.iload 7, 2) := by decide +kernel
theorem dX8_beside_112 : decode cX8_beside 112 = .ok (.invokestatic 75, 3) := by decide +kernel
theorem dX8_beside_115 : decode cX8_beside 115 = .ok (.istore 9, 2) := by decide +kernel
theorem dX8_beside_117 : decode cX8_beside 117 = .ok (.iload_n 3, 1) := by decide +kernel
theorem dX8_beside_118 : decode cX8_beside 118 = .ok (.ifCond .eq 15, 3) := by decide +kernel
theorem dX8_beside_121 : decode cX8_beside 121 = .ok (.iload 9, 2) := by decide +kernel
theorem dX8_beside_123 : decode cX8_beside 123 = .ok (.invokestatic 47, 3) := by decide +kernel
theorem dX8_beside_126 : decode cX8_beside 126 = .ok (.iload_n 1, 1) := by decide +kernel
theorem dX8_beside_127 : decode cX8_beside 127 = .ok (.invokestatic 47, 3) := by decide +kernel
theorem dX8_beside_130 : decode cX8_beside 130 = .ok (.if_icmp .le 8, 3) := by decide +kernel
theorem dX8_beside_133 : decode cX8_beside 133 = .ok (.iload 8, 2) := by decide +kernel
theorem dX8_beside_135 : decode cX8_beside 135 = .ok (.goto 5, 3) := by decide +kernel
theorem dX8_beside_138 : decode cX8_beside 138 = .ok (.iload 9, 2) := by decide +kernel
theorem dX8_beside_140 : decode cX8_beside 140 = .ok (.ireturn, 1) := by decide +kernel
set_option maxRecDepth 20000 in
theorem ggX8_meets_X8_firstOf : GoodIn wsX8_meets wsX8_firstOf := goodIn_r _ [6, 7, 8, 5, 9] (by decide +kernel) (by decide +kernel)
set_option maxRecDepth 20000 in
theorem gX8_meets_X8_firstOf : GoodIn wsX8_meets (va_wsS RX8 72 yX8_firstOf wsX8_firstOf) := goodIn_app (goodIn_of _ (by decide +kernel)) ggX8_meets_X8_firstOf
set_option maxRecDepth 20000 in
theorem ggX8_meets_X8_sizeOf : GoodIn wsX8_meets wsX8_sizeOf := goodIn_r _ [12, 7, 8, 5, 9] (by decide +kernel) (by decide +kernel)
set_option maxRecDepth 20000 in
theorem gX8_meets_X8_sizeOf : GoodIn wsX8_meets (va_wsS RX8 130 yX8_sizeOf wsX8_sizeOf) := goodIn_app (goodIn_of _ (by decide +kernel)) ggX8_meets_X8_sizeOf
set_option maxRecDepth 20000 in
theorem ggX8_meets_X8_coordinate : GoodIn wsX8_meets wsX8_coordinate := goodIn_r _ [15] (by decide +kernel) (by decide +kernel)
set_option maxRecDepth 20000 in
theorem gX8_meets_X8_coordinate : GoodIn wsX8_meets (va_wsS RX8 127 yX8_coordinate wsX8_coordinate) := goodIn_app (goodIn_of _ (by decide +kernel)) ggX8_meets_X8_coordinate
set_option maxRecDepth 20000 in
theorem ggX8_meets_X8_isPlace : GoodIn wsX8_meets wsX8_isPlace := goodIn_r _ [18, 19, 20, 5, 21] (by decide +kernel) (by decide +kernel)
set_option maxRecDepth 20000 in
theorem gX8_meets_X8_isPlace : GoodIn wsX8_meets (va_wsS RX8 89 yX8_isPlace wsX8_isPlace) := goodIn_app (goodIn_of _ (by decide +kernel)) ggX8_meets_X8_isPlace
set_option maxRecDepth 20000 in
theorem ggX8_meets_X8_pathOf : GoodIn wsX8_meets wsX8_pathOf := goodIn_r _ [24] (by decide +kernel) (by decide +kernel)
set_option maxRecDepth 20000 in
theorem gX8_meets_X8_pathOf : GoodIn wsX8_meets (va_wsS RX8 51 yX8_pathOf wsX8_pathOf) := goodIn_app (goodIn_of _ (by decide +kernel)) ggX8_meets_X8_pathOf
set_option maxRecDepth 20000 in
theorem ggX8_meets_X8_leafOf : GoodIn wsX8_meets wsX8_leafOf := goodIn_r _ [27, 28, 29, 5, 30, 31, 32, 33, 7, 8, 9, 34, 35, 36, 37, 38, 39, 40, 41, 42, 22, 23, 24] (by decide +kernel) (by decide +kernel)
set_option maxRecDepth 20000 in
theorem gX8_meets_X8_leafOf : GoodIn wsX8_meets (va_wsS RX8 75 yX8_leafOf wsX8_leafOf) := goodIn_app (goodIn_of _ (by decide +kernel)) ggX8_meets_X8_leafOf
set_option maxRecDepth 20000 in
theorem ggX8_meets_X8_depthOf : GoodIn wsX8_meets wsX8_depthOf := goodIn_r _ [9] (by decide +kernel) (by decide +kernel)
set_option maxRecDepth 20000 in
theorem gX8_meets_X8_depthOf : GoodIn wsX8_meets (va_wsS RX8 47 yX8_depthOf wsX8_depthOf) := goodIn_app (goodIn_of _ (by decide +kernel)) ggX8_meets_X8_depthOf
theorem dX8_meets_0 : decode cX8_meets 0 = .ok (.iload_n 2, 1) := by decide +kernel
theorem dX8_meets_1 : decode cX8_meets 1 = .ok (.invokestatic 72, 3) := by decide +kernel
theorem dX8_meets_4 : decode cX8_meets 4 = .ok (.istore 4, 2) := by decide +kernel
theorem dX8_meets_6 : decode cX8_meets 6 = .ok (.iload_n 2, 1) := by decide +kernel
theorem dX8_meets_7 : decode cX8_meets 7 = .ok (.invokestatic 130, 3) := by decide +kernel
theorem dX8_meets_10 : decode cX8_meets 10 = .ok (.istore 5, 2) := by decide +kernel
theorem dX8_meets_12 : decode cX8_meets 12 = .ok (.iload 4, 2) := by decide +kernel
theorem dX8_meets_14 : decode cX8_meets 14 = .ok (.iconst 0, 1) := by decide +kernel
theorem dX8_meets_15 : decode cX8_meets 15 = .ok (.invokestatic 127, 3) := by decide +kernel
theorem dX8_meets_18 : decode cX8_meets 18 = .ok (.istore 6, 2) := by decide +kernel
theorem dX8_meets_20 : decode cX8_meets 20 = .ok (.iload 4, 2) := by decide +kernel
theorem dX8_meets_22 : decode cX8_meets 22 = .ok (.iconst 1, 1) := by decide +kernel
theorem dX8_meets_23 : decode cX8_meets 23 = .ok (.invokestatic 127, 3) := by decide +kernel
theorem dX8_meets_26 : decode cX8_meets 26 = .ok (.istore 7, 2) := by decide +kernel
theorem dX8_meets_28 : decode cX8_meets 28 = .ok (.iload 6, 2) := by decide +kernel
theorem dX8_meets_30 : decode cX8_meets 30 = .ok (.iload_n 3, 1) := by decide +kernel
theorem dX8_meets_31 : decode cX8_meets 31 = .ok (.ifCond .ne 8, 3) := by decide +kernel
theorem dX8_meets_34 : decode cX8_meets 34 = .ok (.iload 5, 2) := by decide +kernel
theorem dX8_meets_36 : decode cX8_meets 36 = .ok (.goto 13, 3) := by decide +kernel
theorem dX8_meets_39 : decode cX8_meets 39 = .ok (.iload_n 3, 1) := by decide +kernel
theorem dX8_meets_40 : decode cX8_meets 40 = .ok (.iconst 2, 1) := by decide +kernel
theorem dX8_meets_41 : decode cX8_meets 41 = .ok (.if_icmp .ne 7, 3) := by decide +kernel
theorem dX8_meets_44 : decode cX8_meets 44 = .ok (.iconst (-1), 1) := by decide +kernel
theorem dX8_meets_45 : decode cX8_meets 45 = .ok (.goto 4, 3) := by decide +kernel
theorem dX8_meets_48 : decode cX8_meets 48 = .ok (.iconst 0, 1) := by decide +kernel
theorem dX8_meets_49 : decode cX8_meets 49 = .ok (.iadd, 1) := by decide +kernel
theorem dX8_meets_50 : decode cX8_meets 50 = .ok (.istore 6, 2) := by decide +kernel
theorem dX8_meets_52 : decode cX8_meets 52 = .ok (.iload 7, 2) := by decide +kernel
theorem dX8_meets_54 : decode cX8_meets 54 = .ok (.iload_n 3, 1) := by decide +kernel
theorem dX8_meets_55 : decode cX8_meets 55 = .ok (.iconst 1, 1) := by decide +kernel
theorem dX8_meets_56 : decode cX8_meets 56 = .ok (.if_icmp .ne 8, 3) := by decide +kernel
theorem dX8_meets_59 : decode cX8_meets 59 = .ok (.iload 5, 2) := by decide +kernel
theorem dX8_meets_61 : decode cX8_meets 61 = .ok (.goto 13, 3) := by decide +kernel
theorem dX8_meets_64 : decode cX8_meets 64 = .ok (.iload_n 3, 1) := by decide +kernel
theorem dX8_meets_65 : decode cX8_meets 65 = .ok (.iconst 3, 1) := by decide +kernel
theorem dX8_meets_66 : decode cX8_meets 66 = .ok (.if_icmp .ne 7, 3) := by decide +kernel
theorem dX8_meets_69 : decode cX8_meets 69 = .ok (.iconst (-1), 1) := by decide +kernel
theorem dX8_meets_70 : decode cX8_meets 70 = .ok (.goto 4, 3) := by decide +kernel
theorem dX8_meets_73 : decode cX8_meets 73 = .ok (.iconst 0, 1) := by decide +kernel
theorem dX8_meets_74 : decode cX8_meets 74 = .ok (.iadd, 1) := by decide +kernel
theorem dX8_meets_75 : decode cX8_meets 75 = .ok (.istore 7, 2) := by decide +kernel
theorem dX8_meets_77 : decode cX8_meets 77 = .ok (.iconst 0, 1) := by decide +kernel
theorem dX8_meets_78 : decode cX8_meets 78 = .ok (.istore 8, 2) := by decide +kernel
theorem dX8_meets_80 : decode cX8_meets 80 = .ok (.iload 8, 2) := by decide +kernel
theorem dX8_meets_82 : decode cX8_meets 82 = .ok (.iload 5, 2) := by decide +kernel
theorem dX8_meets_84 : decode cX8_meets 84 = .ok (.if_icmp .ge 139, 3) := by decide +kernel
theorem dX8_meets_87 : decode cX8_meets 87 = .ok (.iload 6, 2) := by decide +kernel
theorem dX8_meets_89 : decode cX8_meets 89 = .ok (.iload 7, 2) := by decide +kernel
theorem dX8_meets_91 : decode cX8_meets 91 = .ok (.invokestatic 89, 3) := by decide +kernel
theorem dX8_meets_94 : decode cX8_meets 94 = .ok (.ifCond .eq 129, 3) := by decide +kernel
theorem dX8_meets_97 : decode cX8_meets 97 = .ok (.aload_n 1, 1) := by decide +kernel
theorem dX8_meets_98 : decode cX8_meets 98 = .ok (.iload 6, 2) := by decide +kernel
theorem dX8_meets_100 : decode cX8_meets 100 = .ok (.iload 7, 2) := by decide +kernel
theorem dX8_meets_102 : decode cX8_meets 102 = .ok (.invokestatic 51, 3) := by decide +kernel
theorem dX8_meets_105 : decode cX8_meets 105 = .ok (.invokestatic 75, 3) := by decide +kernel
theorem dX8_meets_108 : decode cX8_meets 108 = .ok (.istore 9, 2) := by decide +kernel
theorem dX8_meets_110 : decode cX8_meets 110 = .ok (.iload 9, 2) := by decide +kernel
theorem dX8_meets_112 : decode cX8_meets 112 = .ok (.invokestatic 47, 3) := by decide +kernel
theorem dX8_meets_115 : decode cX8_meets 115 = .ok (.iload_n 2, 1) := by decide +kernel
theorem dX8_meets_116 : decode cX8_meets 116 = .ok (.invokestatic 47, 3) := by decide +kernel
theorem dX8_meets_119 : decode cX8_meets 119 = .ok (.isub, 1) := by decide +kernel
theorem dX8_meets_120 : decode cX8_meets 120 = .ok (.istore 10, 2) := by decide +kernel
theorem dX8_meets_122 : decode cX8_meets 122 = .ok (.iload 10, 2) := by decide +kernel
theorem dX8_meets_124 : decode cX8_meets 124 = .ok (.ifCond .ge 9, 3) := by decide +kernel
theorem dX8_meets_127 : decode cX8_meets 127 = .ok (.iload 10, 2) := by decide +kernel
theorem dX8_meets_129 : decode cX8_meets 129 = .ok (.ineg, 1) := by decide +kernel
theorem dX8_meets_130 : decode cX8_meets 130 = .ok (.goto 5, 3) := by decide +kernel
theorem dX8_meets_133 : decode cX8_meets 133 = .ok (.iload 10, 2) := by decide +kernel
theorem dX8_meets_135 : decode cX8_meets 135 = .ok (.istore 10, 2) := by decide +kernel
theorem dX8_meets_137 : decode cX8_meets 137 = .ok (.aload_n 0, 1) := by decide +kernel
theorem dX8_meets_138 : decode cX8_meets 138 = .ok (.dup, 1) := by decide +kernel
theorem dX8_meets_139 : decode cX8_meets 139 = .ok (.getfield 145, 3) := by decide +kernel
theorem dX8_meets_142 : decode cX8_meets 142 = .ok (.iconst 1, 1) := by decide +kernel
theorem dX8_meets_143 : decode cX8_meets 143 = .ok (.iadd, 1) := by decide +kernel
theorem dX8_meets_144 : decode cX8_meets 144 = .ok (.putfield 145, 3) := by decide +kernel
theorem dX8_meets_147 : decode cX8_meets 147 = .ok (.aload_n 0, 1) := by decide +kernel
theorem dX8_meets_148 : decode cX8_meets 148 = .ok (.iload 10, 2) := by decide +kernel
theorem dX8_meets_150 : decode cX8_meets 150 = .ok (.aload_n 0, 1) := by decide +kernel
theorem dX8_meets_151 : decode cX8_meets 151 = .ok (.getfield 148, 3) := by decide +kernel
theorem dX8_meets_154 : decode cX8_meets 154 = .ok (.if_icmp .le 8, 3) := by decide +kernel
theorem dX8_meets_157 : decode cX8_meets 157 = .ok (.iload 10, 2) := by decide +kernel
theorem dX8_meets_159 : decode cX8_meets 159 = .ok (.goto 7, 3) := by decide +kernel
theorem dX8_meets_162 : decode cX8_meets 162 = .ok (.aload_n 0, 1) := by decide +kernel
theorem dX8_meets_163 : decode cX8_meets 163 = .ok (.getfield 148, 3) := by decide +kernel
theorem dX8_meets_166 : decode cX8_meets 166 = .ok (.putfield 148, 3) := by decide +kernel
theorem dX8_meets_169 : decode cX8_meets 169 = .ok (.iload 8, 2) := by decide +kernel
theorem dX8_meets_171 : decode cX8_meets 171 = .ok (.iload 9, 2) := by decide +kernel
theorem dX8_meets_173 : decode cX8_meets 173 = .ok (.invokestatic 130, 3) := by decide +kernel
theorem dX8_meets_176 : decode cX8_meets 176 = .ok (.iadd, 1) := by decide +kernel
theorem dX8_meets_177 : decode cX8_meets 177 = .ok (.istore 8, 2) := by decide +kernel
theorem dX8_meets_179 : decode cX8_meets 179 = .ok (.iload 6, 2) := by decide +kernel
theorem dX8_meets_181 : decode cX8_meets 181 = .ok (.iload_n 3, 1) := by decide +kernel
theorem dX8_meets_182 : decode cX8_meets 182 = .ok (.iconst 2, 1) := by decide +kernel
theorem dX8_meets_183 : decode cX8_meets 183 = .ok (.irem, 1) := by decide +kernel
theorem dX8_meets_184 : decode cX8_meets 184 = .ok (.iconst 1, 1) := by decide +kernel
theorem dX8_meets_185 : decode cX8_meets 185 = .ok (.if_icmp .ne 11, 3) := by decide +kernel
theorem dX8_meets_188 : decode cX8_meets 188 = .ok (.iload 9, 2) := by decide +kernel
theorem dX8_meets_190 : decode cX8_meets 190 = .ok (.invokestatic 130, 3) := by decide +kernel
theorem dX8_meets_193 : decode cX8_meets 193 = .ok (.goto 4, 3) := by decide +kernel
theorem dX8_meets_196 : decode cX8_meets 196 = .ok (.iconst 0, 1) := by decide +kernel
theorem dX8_meets_197 : decode cX8_meets 197 = .ok (.iadd, 1) := by decide +kernel
theorem dX8_meets_198 : decode cX8_meets 198 = .ok (.istore 6, 2) := by decide +kernel
theorem dX8_meets_200 : decode cX8_meets 200 = .ok (.iload 7, 2) := by decide +kernel
theorem dX8_meets_202 : decode cX8_meets 202 = .ok (.iload_n 3, 1) := by decide +kernel
theorem dX8_meets_203 : decode cX8_meets 203 = .ok (.iconst 2, 1) := by decide +kernel
theorem dX8_meets_204 : decode cX8_meets 204 = .ok (.irem, 1) := by decide +kernel
theorem dX8_meets_205 : decode cX8_meets 205 = .ok (.ifCond .ne 11, 3) := by decide +kernel
theorem dX8_meets_208 : decode cX8_meets 208 = .ok (.iload 9, 2) := by decide +kernel
theorem dX8_meets_210 : decode cX8_meets 210 = .ok (.invokestatic 130, 3) := by decide +kernel
theorem dX8_meets_213 : decode cX8_meets 213 = .ok (.goto 4, 3) := by decide +kernel
theorem dX8_meets_216 : decode cX8_meets 216 = .ok (.iconst 0, 1) := by decide +kernel
theorem dX8_meets_217 : decode cX8_meets 217 = .ok (.iadd, 1) := by decide +kernel
theorem dX8_meets_218 : decode cX8_meets 218 = .ok (.istore 7, 2) := by decide +kernel
theorem dX8_meets_220 : decode cX8_meets 220 = .ok (.goto (-140), 3) := by decide +kernel
theorem dX8_meets_223 : decode cX8_meets 223 = .ok (.return_, 1) := by decide +kernel
set_option maxRecDepth 20000 in
theorem ggX8_meetsAll_X8_meets : GoodIn wsX8_meetsAll wsX8_meets := goodIn_r _ [6, 1, 7, 8, 9, 5, 10, 11, 12, 13, 14, 15, 16, 17, 18, 19, 20, 21, 22, 23, 24, 25, 26, 27, 28, 29, 30, 31, 32, 33, 34, 35, 36, 37, 38, 39, 40, 41, 42, 43, 44, 45, 46, 47, 48, 49, 50, 51, 52, 53, 54, 55, 56, 57, 58, 59, 60] (by decide +kernel) (by decide +kernel)
set_option maxRecDepth 20000 in
theorem gX8_meetsAll_X8_meets : GoodIn wsX8_meetsAll (wsV RX8 151 RX8 yX8_meets wsX8_meets) := goodIn_app (goodIn_of _ (by decide +kernel)) ggX8_meetsAll_X8_meets
theorem dX8_meetsAll_0 : decode cX8_meetsAll 0 = .ok (.aload_n 0, 1) := by decide +kernel
theorem dX8_meetsAll_1 : decode cX8_meetsAll 1 = .ok (.iconst 0, 1) := by decide +kernel
theorem dX8_meetsAll_2 : decode cX8_meetsAll 2 = .ok (.putfield 145, 3) := by decide +kernel
theorem dX8_meetsAll_5 : decode cX8_meetsAll 5 = .ok (.iconst 0, 1) := by decide +kernel
theorem dX8_meetsAll_6 : decode cX8_meetsAll 6 = .ok (.istore_n 3, 1) := by decide +kernel
theorem dX8_meetsAll_7 : decode cX8_meetsAll 7 = .ok (.iload_n 3, 1) := by decide +kernel
theorem dX8_meetsAll_8 : decode cX8_meetsAll 8 = .ok (.iconst 4, 1) := by decide +kernel
theorem dX8_meetsAll_9 : decode cX8_meetsAll 9 = .ok (.if_icmp .ge 16, 3) := by decide +kernel
theorem dX8_meetsAll_12 : decode cX8_meetsAll 12 = .ok (.aload_n 0, 1) := by decide +kernel
theorem dX8_meetsAll_13 : decode cX8_meetsAll 13 = .ok (.aload_n 1, 1) := by decide +kernel
theorem dX8_meetsAll_14 : decode cX8_meetsAll 14 = .ok (.iload_n 2, 1) := by decide +kernel
theorem dX8_meetsAll_15 : decode cX8_meetsAll 15 = .ok (.iload_n 3, 1) := by decide +kernel
theorem dX8_meetsAll_16 : decode cX8_meetsAll 16 = .ok (.invokevirtual 151, 3) := by decide +kernel
theorem dX8_meetsAll_19 : decode cX8_meetsAll 19 = .ok (.iinc 3 1, 3) := by decide +kernel
theorem dX8_meetsAll_22 : decode cX8_meetsAll 22 = .ok (.goto (-15), 3) := by decide +kernel
theorem dX8_meetsAll_25 : decode cX8_meetsAll 25 = .ok (.aload_n 0, 1) := by decide +kernel
theorem dX8_meetsAll_26 : decode cX8_meetsAll 26 = .ok (.getfield 145, 3) := by decide +kernel
theorem dX8_meetsAll_29 : decode cX8_meetsAll 29 = .ok (.ireturn, 1) := by decide +kernel
set_option maxRecDepth 20000 in
theorem ggX8_neighbours_X8_isNumber : GoodIn wsX8_neighbours wsX8_isNumber := goodIn_r _ [5, 6, 7, 4, 8] (by decide +kernel) (by decide +kernel)
set_option maxRecDepth 20000 in
theorem gX8_neighbours_X8_isNumber : GoodIn wsX8_neighbours (va_wsS RX8 114 yX8_isNumber wsX8_isNumber) := goodIn_app (goodIn_of _ (by decide +kernel)) ggX8_neighbours_X8_isNumber
set_option maxRecDepth 20000 in
theorem ggX8_neighbours_X8_whatIs : GoodIn wsX8_neighbours wsX8_whatIs := goodIn_r _ [12, 1, 13, 14, 4, 15, 16, 17, 18, 6, 7, 8, 19, 20, 21, 22, 23, 24, 25, 26, 27, 28, 29, 30, 31, 32, 33, 34, 35, 36, 37, 38, 39, 62, 63, 64, 65, 66, 67, 68, 69, 70, 71, 72, 73, 74, 75] (by decide +kernel) (by decide +kernel)
set_option maxRecDepth 20000 in
theorem gX8_neighbours_X8_whatIs : GoodIn wsX8_neighbours (wsV RX8 133 RX8 yX8_whatIs wsX8_whatIs) := goodIn_app (goodIn_of _ (by decide +kernel)) ggX8_neighbours_X8_whatIs
set_option maxRecDepth 20000 in
theorem ggX8_neighbours_X8_meetsAll : GoodIn wsX8_neighbours wsX8_meetsAll := goodIn_r _ [43, 44, 45, 46, 47, 4, 48, 49, 16, 17, 18, 6, 7, 8, 50, 51, 52, 53, 54, 55, 56, 57, 58, 59, 60, 61, 37, 38, 39, 19, 20, 21, 22, 23, 24, 25, 26, 27, 28, 29, 30, 31, 32, 33, 34, 35, 36, 62, 63, 64, 65, 66, 67, 68, 69, 70, 71, 72, 73, 74, 75] (by decide +kernel) (by decide +kernel)
set_option maxRecDepth 20000 in
theorem gX8_neighbours_X8_meetsAll : GoodIn wsX8_neighbours (wsV RX8 154 RX8 yX8_meetsAll wsX8_meetsAll) := goodIn_app (goodIn_of _ (by decide +kernel)) ggX8_neighbours_X8_meetsAll
theorem dX8_neighbours_0 : decode cX8_neighbours 0 = .ok (.iload_n 1, 1) := by decide +kernel
theorem dX8_neighbours_1 : decode cX8_neighbours 1 = .ok (.invokestatic 114, 3) := by decide +kernel
theorem dX8_neighbours_4 : decode cX8_neighbours 4 = .ok (.ifCond .ne 5, 3) := by decide +kernel
theorem dX8_neighbours_7 : decode cX8_neighbours 7 = .ok (.iconst (-1), 1) := by decide +kernel
theorem dX8_neighbours_8 : decode cX8_neighbours 8 = .ok (.ireturn, 1) := by decide +kernel
theorem dX8_neighbours_9 : decode cX8_neighbours 9 = .ok (.aload_n 0, 1) := by decide +kernel
theorem dX8_neighbours_10 : decode cX8_neighbours 10 = .ok (.iload_n 1, 1) := by decide +kernel
theorem dX8_neighbours_11 : decode cX8_neighbours 11 = .ok (.invokevirtual 133, 3) := by decide +kernel
theorem dX8_neighbours_14 : decode cX8_neighbours 14 = .ok (.iconst 1, 1) := by decide +kernel
theorem dX8_neighbours_15 : decode cX8_neighbours 15 = .ok (.if_icmp .ne 15, 3) := by decide +kernel
theorem dX8_neighbours_18 : decode cX8_neighbours 18 = .ok (.aload_n 0, 1) := by decide +kernel
theorem dX8_neighbours_19 : decode cX8_neighbours 19 = .ok (.aload_n 0, 1) := by decide +kernel
theorem dX8_neighbours_20 : decode cX8_neighbours 20 = .ok (.getfield 7, 3) := by decide +kernel
theorem dX8_neighbours_23 : decode cX8_neighbours 23 = .ok (.iload_n 1, 1) := by decide +kernel
theorem dX8_neighbours_24 : decode cX8_neighbours 24 = .ok (.invokevirtual 154, 3) := by decide +kernel
theorem dX8_neighbours_27 : decode cX8_neighbours 27 = .ok (.goto 5, 3) := by decide +kernel
theorem dX8_neighbours_30 : decode cX8_neighbours 30 = .ok (.bipush (-5), 2) := by decide +kernel
theorem dX8_neighbours_32 : decode cX8_neighbours 32 = .ok (.ireturn, 1) := by decide +kernel
set_option maxRecDepth 20000 in
theorem ggX8_ofLeaves_X8_leafOf : GoodIn wsX8_ofLeaves wsX8_leafOf := goodIn_r _ [6, 7, 8, 5, 9, 10, 11, 12, 13, 14, 15, 16, 17, 18, 19, 20, 21, 22, 23, 24, 25, 26, 27] (by decide +kernel) (by decide +kernel)
set_option maxRecDepth 20000 in
theorem gX8_ofLeaves_X8_leafOf : GoodIn wsX8_ofLeaves (va_wsS RX8 75 yX8_leafOf wsX8_leafOf) := goodIn_app (goodIn_of _ (by decide +kernel)) ggX8_ofLeaves_X8_leafOf
set_option maxRecDepth 20000 in
theorem ggX8_ofLeaves_X8_depthOf : GoodIn wsX8_ofLeaves wsX8_depthOf := goodIn_r _ [15] (by decide +kernel) (by decide +kernel)
set_option maxRecDepth 20000 in
theorem gX8_ofLeaves_X8_depthOf : GoodIn wsX8_ofLeaves (va_wsS RX8 47 yX8_depthOf wsX8_depthOf) := goodIn_app (goodIn_of _ (by decide +kernel)) ggX8_ofLeaves_X8_depthOf
set_option maxRecDepth 20000 in
theorem ggX8_ofLeaves_X8_pointsIn : GoodIn wsX8_ofLeaves wsX8_pointsIn := goodIn_r _ [21, 13, 14, 5, 15, 22, 23, 24, 25, 26, 27, 7, 8, 9] (by decide +kernel) (by decide +kernel)
set_option maxRecDepth 20000 in
theorem gX8_ofLeaves_X8_pointsIn : GoodIn wsX8_ofLeaves (va_wsS RX8 66 yX8_pointsIn wsX8_pointsIn) := goodIn_app (goodIn_of _ (by decide +kernel)) ggX8_ofLeaves_X8_pointsIn
set_option maxRecDepth 20000 in
theorem ggX8_ofLeaves_X8_meetsAll : GoodIn wsX8_ofLeaves wsX8_meetsAll := goodIn_r _ [31, 32, 33, 34, 35, 5, 36, 1, 37, 38, 39, 13, 14, 15, 40, 41, 42, 43, 44, 45, 46, 47, 48, 49, 50, 51, 25, 26, 27, 3, 4, 6, 7, 8, 9, 10, 11, 12, 16, 17, 18, 19, 20, 21, 22, 23, 24, 55, 56, 57, 58, 59, 60, 61, 62, 63, 64, 65, 66, 67, 68] (by decide +kernel) (by decide +kernel)
set_option maxRecDepth 20000 in
theorem gX8_ofLeaves_X8_meetsAll : GoodIn wsX8_ofLeaves (wsV RX8 154 RX8 yX8_meetsAll wsX8_meetsAll) := goodIn_app (goodIn_of _ (by decide +kernel)) ggX8_ofLeaves_X8_meetsAll
set_option maxRecDepth 20000 in
theorem ggX8_ofLeaves_X8_pathsIn : GoodIn wsX8_ofLeaves wsX8_pathsIn := goodIn_r _ [54, 13, 14, 5, 15] (by decide +kernel) (by decide +kernel)
set_option maxRecDepth 20000 in
theorem gX8_ofLeaves_X8_pathsIn : GoodIn wsX8_ofLeaves (va_wsS RX8 78 yX8_pathsIn wsX8_pathsIn) := goodIn_app (goodIn_of _ (by decide +kernel)) ggX8_ofLeaves_X8_pathsIn
theorem dX8_ofLeaves_0 : decode cX8_ofLeaves 0 = .ok (.iconst 0, 1) := by decide +kernel
theorem dX8_ofLeaves_1 : decode cX8_ofLeaves 1 = .ok (.istore_n 2, 1) := by decide +kernel
theorem dX8_ofLeaves_2 : decode cX8_ofLeaves 2 = .ok (.iconst 0, 1) := by decide +kernel
theorem dX8_ofLeaves_3 : decode cX8_ofLeaves 3 = .ok (.istore_n 3, 1) := by decide +kernel
theorem dX8_ofLeaves_4 : decode cX8_ofLeaves 4 = .ok (.iconst 0, 1) := by decide +kernel
theorem dX8_ofLeaves_5 : decode cX8_ofLeaves 5 = .ok (.istore 4, 2) := by decide +kernel
theorem dX8_ofLeaves_7 : decode cX8_ofLeaves 7 = .ok (.aload_n 0, 1) := by decide +kernel
theorem dX8_ofLeaves_8 : decode cX8_ofLeaves 8 = .ok (.iconst 0, 1) := by decide +kernel
theorem dX8_ofLeaves_9 : decode cX8_ofLeaves 9 = .ok (.putfield 148, 3) := by decide +kernel
theorem dX8_ofLeaves_12 : decode cX8_ofLeaves 12 = .ok (.iload 4, 2) := by decide +kernel
theorem dX8_ofLeaves_14 : decode cX8_ofLeaves 14 = .ok (.sipush 4096, 3) := by decide +kernel
theorem dX8_ofLeaves_17 : decode cX8_ofLeaves 17 = .ok (.if_icmp .ge 97, 3) := by decide +kernel
theorem dX8_ofLeaves_20 : decode cX8_ofLeaves 20 = .ok (.aload_n 0, 1) := by decide +kernel
theorem dX8_ofLeaves_21 : decode cX8_ofLeaves 21 = .ok (.getfield 7, 3) := by decide +kernel
theorem dX8_ofLeaves_24 : decode cX8_ofLeaves 24 = .ok (.iload 4, 2) := by decide +kernel
theorem dX8_ofLeaves_26 : decode cX8_ofLeaves 26 = .ok (.invokestatic 75, 3) := by decide +kernel
theorem dX8_ofLeaves_29 : decode cX8_ofLeaves 29 = .ok (.istore 5, 2) := by decide +kernel
theorem dX8_ofLeaves_31 : decode cX8_ofLeaves 31 = .ok (.iload 5, 2) := by decide +kernel
theorem dX8_ofLeaves_33 : decode cX8_ofLeaves 33 = .ok (.invokestatic 47, 3) := by decide +kernel
theorem dX8_ofLeaves_36 : decode cX8_ofLeaves 36 = .ok (.iload_n 2, 1) := by decide +kernel
theorem dX8_ofLeaves_37 : decode cX8_ofLeaves 37 = .ok (.if_icmp .le 11, 3) := by decide +kernel
theorem dX8_ofLeaves_40 : decode cX8_ofLeaves 40 = .ok (.iload 5, 2) := by decide +kernel
theorem dX8_ofLeaves_42 : decode cX8_ofLeaves 42 = .ok (.invokestatic 47, 3) := by decide +kernel
theorem dX8_ofLeaves_45 : decode cX8_ofLeaves 45 = .ok (.goto 4, 3) := by decide +kernel
theorem dX8_ofLeaves_48 : decode cX8_ofLeaves 48 = .ok (.iload_n 2, 1) := by decide +kernel
theorem dX8_ofLeaves_49 : decode cX8_ofLeaves 49 = .ok (.istore_n 2, 1) := by decide +kernel
theorem dX8_ofLeaves_50 : decode cX8_ofLeaves 50 = .ok (.iload_n 3, 1) := by decide +kernel
theorem dX8_ofLeaves_51 : decode cX8_ofLeaves 51 = .ok (.aload_n 0, 1) := by decide +kernel
theorem dX8_ofLeaves_52 : decode cX8_ofLeaves 52 = .ok (.getfield 7, 3) := by decide +kernel
theorem dX8_ofLeaves_55 : decode cX8_ofLeaves 55 = .ok (.iload 5, 2) := by decide +kernel
theorem dX8_ofLeaves_57 : decode cX8_ofLeaves 57 = .ok (.invokestatic 66, 3) := by decide +kernel
theorem dX8_ofLeaves_60 : decode cX8_ofLeaves 60 = .ok (.ifCond .ne 7, 3) := by decide +kernel
theorem dX8_ofLeaves_63 : decode cX8_ofLeaves 63 = .ok (.iconst 1, 1) := by decide +kernel
theorem dX8_ofLeaves_64 : decode cX8_ofLeaves 64 = .ok (.goto 4, 3) := by decide +kernel
theorem dX8_ofLeaves_67 : decode cX8_ofLeaves 67 = .ok (.iconst 0, 1) := by decide +kernel
theorem dX8_ofLeaves_68 : decode cX8_ofLeaves 68 = .ok (.iadd, 1) := by decide +kernel
theorem dX8_ofLeaves_69 : decode cX8_ofLeaves 69 = .ok (.istore_n 3, 1) := by decide +kernel
theorem dX8_ofLeaves_70 : decode cX8_ofLeaves 70 = .ok (.iload_n 1, 1) := by decide +kernel
theorem dX8_ofLeaves_71 : decode cX8_ofLeaves 71 = .ok (.bipush 6, 2) := by decide +kernel
theorem dX8_ofLeaves_73 : decode cX8_ofLeaves 73 = .ok (.if_icmp .ne 16, 3) := by decide +kernel
theorem dX8_ofLeaves_76 : decode cX8_ofLeaves 76 = .ok (.aload_n 0, 1) := by decide +kernel
theorem dX8_ofLeaves_77 : decode cX8_ofLeaves 77 = .ok (.aload_n 0, 1) := by decide +kernel
theorem dX8_ofLeaves_78 : decode cX8_ofLeaves 78 = .ok (.getfield 7, 3) := by decide +kernel
theorem dX8_ofLeaves_81 : decode cX8_ofLeaves 81 = .ok (.iload 5, 2) := by decide +kernel
theorem dX8_ofLeaves_83 : decode cX8_ofLeaves 83 = .ok (.invokevirtual 154, 3) := by decide +kernel
theorem dX8_ofLeaves_86 : decode cX8_ofLeaves 86 = .ok (.goto 4, 3) := by decide +kernel
theorem dX8_ofLeaves_89 : decode cX8_ofLeaves 89 = .ok (.iconst 0, 1) := by decide +kernel
theorem dX8_ofLeaves_90 : decode cX8_ofLeaves 90 = .ok (.istore 6, 2) := by decide +kernel
theorem dX8_ofLeaves_92 : decode cX8_ofLeaves 92 = .ok (.iload 4, 2) := by decide +kernel
theorem dX8_ofLeaves_94 : decode cX8_ofLeaves 94 = .ok (.iload 6, 2) := by decide +kernel
theorem dX8_ofLeaves_96 : decode cX8_ofLeaves 96 = .ok (.ifCond .ge 7, 3) := by decide +kernel
theorem dX8_ofLeaves_99 : decode cX8_ofLeaves 99 = .ok (.iconst 0, 1) := by decide +kernel
theorem dX8_ofLeaves_100 : decode cX8_ofLeaves 100 = .ok (.goto 8, 3) := by decide +kernel
theorem dX8_ofLeaves_103 : decode cX8_ofLeaves 103 = .ok (.iload 5, 2) := by decide +kernel
theorem dX8_ofLeaves_105 : decode cX8_ofLeaves 105 = .ok (.invokestatic 78, 3) := by decide +kernel
theorem dX8_ofLeaves_108 : decode cX8_ofLeaves 108 = .ok (.iadd, 1) := by decide +kernel
theorem dX8_ofLeaves_109 : decode cX8_ofLeaves 109 = .ok (.istore 4, 2) := by decide +kernel
theorem dX8_ofLeaves_111 : decode cX8_ofLeaves 111 = .ok (.goto (-99), 3) := by decide +kernel
theorem dX8_ofLeaves_114 : decode cX8_ofLeaves 114 = .ok (.iload_n 1, 1) := by decide +kernel
theorem dX8_ofLeaves_115 : decode cX8_ofLeaves 115 = .ok (.iconst 3, 1) := by decide +kernel
theorem dX8_ofLeaves_116 : decode cX8_ofLeaves 116 = .ok (.if_icmp .ne 7, 3) := by decide +kernel
theorem dX8_ofLeaves_119 : decode cX8_ofLeaves 119 = .ok (.iload_n 2, 1) := by decide +kernel
theorem dX8_ofLeaves_120 : decode cX8_ofLeaves 120 = .ok (.goto 16, 3) := by decide +kernel
theorem dX8_ofLeaves_123 : decode cX8_ofLeaves 123 = .ok (.iload_n 1, 1) := by decide +kernel
theorem dX8_ofLeaves_124 : decode cX8_ofLeaves 124 = .ok (.iconst 4, 1) := by decide +kernel
theorem dX8_ofLeaves_125 : decode cX8_ofLeaves 125 = .ok (.if_icmp .ne 7, 3) := by decide +kernel
theorem dX8_ofLeaves_128 : decode cX8_ofLeaves 128 = .ok (.iload_n 3, 1) := by decide +kernel
theorem dX8_ofLeaves_129 : decode cX8_ofLeaves 129 = .ok (.goto 7, 3) := by decide +kernel
theorem dX8_ofLeaves_132 : decode cX8_ofLeaves 132 = .ok (.aload_n 0, 1) := by decide +kernel
theorem dX8_ofLeaves_133 : decode cX8_ofLeaves 133 = .ok (.getfield 148, 3) := by decide +kernel
theorem dX8_ofLeaves_136 : decode cX8_ofLeaves 136 = .ok (.ireturn, 1) := by decide +kernel
set_option maxRecDepth 20000 in
theorem ggX8_count_X8_allLeaves : GoodIn wsX8_count wsX8_allLeaves := goodIn_r _ [7, 8, 9, 6, 10, 11, 12, 13, 14, 15, 16, 17, 18, 19, 20, 21, 22, 23, 24, 25, 26, 27, 28, 29, 30, 31, 32, 33, 34, 35, 36, 37] (by decide +kernel) (by decide +kernel)
set_option maxRecDepth 20000 in
theorem gX8_count_X8_allLeaves : GoodIn wsX8_count (va_wsS RX8 106 yX8_allLeaves wsX8_allLeaves) := goodIn_app (goodIn_of _ (by decide +kernel)) ggX8_count_X8_allLeaves
set_option maxRecDepth 20000 in
theorem ggX8_count_X8_ofLeaves : GoodIn wsX8_count wsX8_ofLeaves := goodIn_r _ [41, 42, 1, 11, 12, 6, 13, 14, 15, 16, 17, 18, 19, 20, 21, 22, 23, 24, 25, 26, 27, 28, 29, 30, 31, 32, 33, 34, 43, 44, 45, 46, 47, 48, 49, 50, 51, 52, 53, 54, 55, 56, 57, 58, 59, 60, 61, 62, 63, 64, 65, 66, 35, 36, 37, 67, 68, 69, 70, 71, 72, 73, 74, 75, 76, 77, 78, 79, 80] (by decide +kernel) (by decide +kernel)
set_option maxRecDepth 20000 in
theorem gX8_count_X8_ofLeaves : GoodIn wsX8_count (wsV RX8 157 RX8 yX8_ofLeaves wsX8_ofLeaves) := goodIn_app (goodIn_of _ (by decide +kernel)) ggX8_count_X8_ofLeaves
theorem dX8_count_0 : decode cX8_count 0 = .ok (.iconst 0, 1) := by decide +kernel
theorem dX8_count_1 : decode cX8_count 1 = .ok (.istore_n 2, 1) := by decide +kernel
theorem dX8_count_2 : decode cX8_count 2 = .ok (.iload_n 1, 1) := by decide +kernel
theorem dX8_count_3 : decode cX8_count 3 = .ok (.tableswitch 123 0 10 #[57, 64, 72, 88, 88, 94, 88, 101, 101, 113, 118], 57) := by decide +kernel
theorem dX8_count_60 : decode cX8_count 60 = .ok (.aload_n 0, 1) := by decide +kernel
theorem dX8_count_61 : decode cX8_count 61 = .ok (.getfield 7, 3) := by decide +kernel
theorem dX8_count_64 : decode cX8_count 64 = .ok (.iconst 0, 1) := by decide +kernel
theorem dX8_count_65 : decode cX8_count 65 = .ok (.iaload, 1) := by decide +kernel
theorem dX8_count_66 : decode cX8_count 66 = .ok (.ireturn, 1) := by decide +kernel
theorem dX8_count_67 : decode cX8_count 67 = .ok (.aload_n 0, 1) := by decide +kernel
theorem dX8_count_68 : decode cX8_count 68 = .ok (.getfield 7, 3) := by decide +kernel
theorem dX8_count_71 : decode cX8_count 71 = .ok (.invokestatic 106, 3) := by decide +kernel
theorem dX8_count_74 : decode cX8_count 74 = .ok (.ireturn, 1) := by decide +kernel
theorem dX8_count_75 : decode cX8_count 75 = .ok (.aload_n 0, 1) := by decide +kernel
theorem dX8_count_76 : decode cX8_count 76 = .ok (.getfield 7, 3) := by decide +kernel
theorem dX8_count_79 : decode cX8_count 79 = .ok (.invokestatic 106, 3) := by decide +kernel
theorem dX8_count_82 : decode cX8_count 82 = .ok (.istore_n 2, 1) := by decide +kernel
theorem dX8_count_83 : decode cX8_count 83 = .ok (.iload_n 2, 1) := by decide +kernel
theorem dX8_count_84 : decode cX8_count 84 = .ok (.iload_n 2, 1) := by decide +kernel
theorem dX8_count_85 : decode cX8_count 85 = .ok (.iconst 1, 1) := by decide +kernel
theorem dX8_count_86 : decode cX8_count 86 = .ok (.isub, 1) := by decide +kernel
theorem dX8_count_87 : decode cX8_count 87 = .ok (.iconst 3, 1) := by decide +kernel
theorem dX8_count_88 : decode cX8_count 88 = .ok (.idiv, 1) := by decide +kernel
theorem dX8_count_89 : decode cX8_count 89 = .ok (.iadd, 1) := by decide +kernel
theorem dX8_count_90 : decode cX8_count 90 = .ok (.ireturn, 1) := by decide +kernel
theorem dX8_count_91 : decode cX8_count 91 = .ok (.aload_n 0, 1) := by decide +kernel
theorem dX8_count_92 : decode cX8_count 92 = .ok (.iload_n 1, 1) := by decide +kernel
theorem dX8_count_93 : decode cX8_count 93 = .ok (.invokevirtual 157, 3) := by decide +kernel
theorem dX8_count_96 : decode cX8_count 96 = .ok (.ireturn, 1) := by decide +kernel
theorem dX8_count_97 : decode cX8_count 97 = .ok (.aload_n 0, 1) := by decide +kernel
theorem dX8_count_98 : decode cX8_count 98 = .ok (.getfield 7, 3) := by decide +kernel
theorem dX8_count_101 : decode cX8_count 101 = .ok (.iconst 3, 1) := by decide +kernel
theorem dX8_count_102 : decode cX8_count 102 = .ok (.iaload, 1) := by decide +kernel
theorem dX8_count_103 : decode cX8_count 103 = .ok (.ireturn, 1) := by decide +kernel
theorem dX8_count_104 : decode cX8_count 104 = .ok (.aload_n 0, 1) := by decide +kernel
theorem dX8_count_105 : decode cX8_count 105 = .ok (.getfield 7, 3) := by decide +kernel
theorem dX8_count_108 : decode cX8_count 108 = .ok (.iconst 1, 1) := by decide +kernel
theorem dX8_count_109 : decode cX8_count 109 = .ok (.iload_n 1, 1) := by decide +kernel
theorem dX8_count_110 : decode cX8_count 110 = .ok (.iadd, 1) := by decide +kernel
theorem dX8_count_111 : decode cX8_count 111 = .ok (.bipush 7, 2) := by decide +kernel
theorem dX8_count_113 : decode cX8_count 113 = .ok (.isub, 1) := by decide +kernel
theorem dX8_count_114 : decode cX8_count 114 = .ok (.iaload, 1) := by decide +kernel
theorem dX8_count_115 : decode cX8_count 115 = .ok (.ireturn, 1) := by decide +kernel
theorem dX8_count_116 : decode cX8_count 116 = .ok (.aload_n 0, 1) := by decide +kernel
theorem dX8_count_117 : decode cX8_count 117 = .ok (.getfield 160, 3) := by decide +kernel
theorem dX8_count_120 : decode cX8_count 120 = .ok (.ireturn, 1) := by decide +kernel
theorem dX8_count_121 : decode cX8_count 121 = .ok (.aload_n 0, 1) := by decide +kernel
theorem dX8_count_122 : decode cX8_count 122 = .ok (.getfield 35, 3) := by decide +kernel
theorem dX8_count_125 : decode cX8_count 125 = .ok (.ireturn, 1) := by decide +kernel
theorem dX8_count_126 : decode cX8_count 126 = .ok (.bipush (-2), 2) := by decide +kernel
theorem dX8_count_128 : decode cX8_count 128 = .ok (.ireturn, 1) := by decide +kernel
set_option maxRecDepth 20000 in
theorem ggX8_pointsBetween_X8_in : GoodIn wsX8_pointsBetween wsX8_in := goodIn_r _ [5] (by decide +kernel) (by decide +kernel)
set_option maxRecDepth 20000 in
theorem gX8_pointsBetween_X8_in : GoodIn wsX8_pointsBetween (va_wsS RX8 43 yX8_in wsX8_in) := goodIn_app (goodIn_of _ (by decide +kernel)) ggX8_pointsBetween_X8_in
theorem dX8_pointsBetween_0 : decode cX8_pointsBetween 0 = .ok (.iconst 0, 1) := by decide +kernel
theorem dX8_pointsBetween_1 : decode cX8_pointsBetween 1 = .ok (.istore 5, 2) := by decide +kernel
theorem dX8_pointsBetween_3 : decode cX8_pointsBetween 3 = .ok (.iconst 0, 1) := by decide +kernel
theorem dX8_pointsBetween_4 : decode cX8_pointsBetween 4 = .ok (.istore 6, 2) := by decide +kernel
theorem dX8_pointsBetween_6 : decode cX8_pointsBetween 6 = .ok (.iload 6, 2) := by decide +kernel
theorem dX8_pointsBetween_8 : decode cX8_pointsBetween 8 = .ok (.aload_n 0, 1) := by decide +kernel
theorem dX8_pointsBetween_9 : decode cX8_pointsBetween 9 = .ok (.getfield 7, 3) := by decide +kernel
theorem dX8_pointsBetween_12 : decode cX8_pointsBetween 12 = .ok (.iconst 0, 1) := by decide +kernel
theorem dX8_pointsBetween_13 : decode cX8_pointsBetween 13 = .ok (.iaload, 1) := by decide +kernel
theorem dX8_pointsBetween_14 : decode cX8_pointsBetween 14 = .ok (.if_icmp .ge 60, 3) := by decide +kernel
theorem dX8_pointsBetween_17 : decode cX8_pointsBetween 17 = .ok (.iload 5, 2) := by decide +kernel
theorem dX8_pointsBetween_19 : decode cX8_pointsBetween 19 = .ok (.aload_n 0, 1) := by decide +kernel
theorem dX8_pointsBetween_20 : decode cX8_pointsBetween 20 = .ok (.getfield 7, 3) := by decide +kernel
theorem dX8_pointsBetween_23 : decode cX8_pointsBetween 23 = .ok (.iconst 4, 1) := by decide +kernel
theorem dX8_pointsBetween_24 : decode cX8_pointsBetween 24 = .ok (.iconst 2, 1) := by decide +kernel
theorem dX8_pointsBetween_25 : decode cX8_pointsBetween 25 = .ok (.iload 6, 2) := by decide +kernel
theorem dX8_pointsBetween_27 : decode cX8_pointsBetween 27 = .ok (.imul, 1) := by decide +kernel
theorem dX8_pointsBetween_28 : decode cX8_pointsBetween 28 = .ok (.iadd, 1) := by decide +kernel
theorem dX8_pointsBetween_29 : decode cX8_pointsBetween 29 = .ok (.iaload, 1) := by decide +kernel
theorem dX8_pointsBetween_30 : decode cX8_pointsBetween 30 = .ok (.iload_n 1, 1) := by decide +kernel
theorem dX8_pointsBetween_31 : decode cX8_pointsBetween 31 = .ok (.iload_n 3, 1) := by decide +kernel
theorem dX8_pointsBetween_32 : decode cX8_pointsBetween 32 = .ok (.invokestatic 43, 3) := by decide +kernel
theorem dX8_pointsBetween_35 : decode cX8_pointsBetween 35 = .ok (.ifCond .eq 29, 3) := by decide +kernel
theorem dX8_pointsBetween_38 : decode cX8_pointsBetween 38 = .ok (.aload_n 0, 1) := by decide +kernel
theorem dX8_pointsBetween_39 : decode cX8_pointsBetween 39 = .ok (.getfield 7, 3) := by decide +kernel
theorem dX8_pointsBetween_42 : decode cX8_pointsBetween 42 = .ok (.iconst 4, 1) := by decide +kernel
theorem dX8_pointsBetween_43 : decode cX8_pointsBetween 43 = .ok (.iconst 2, 1) := by decide +kernel
theorem dX8_pointsBetween_44 : decode cX8_pointsBetween 44 = .ok (.iload 6, 2) := by decide +kernel
theorem dX8_pointsBetween_46 : decode cX8_pointsBetween 46 = .ok (.imul, 1) := by decide +kernel
theorem dX8_pointsBetween_47 : decode cX8_pointsBetween 47 = .ok (.iadd, 1) := by decide +kernel
theorem dX8_pointsBetween_48 : decode cX8_pointsBetween 48 = .ok (.iconst 1, 1) := by decide +kernel
theorem dX8_pointsBetween_49 : decode cX8_pointsBetween 49 = .ok (.iadd, 1) := by decide +kernel
theorem dX8_pointsBetween_50 : decode cX8_pointsBetween 50 = .ok (.iaload, 1) := by decide +kernel
theorem dX8_pointsBetween_51 : decode cX8_pointsBetween 51 = .ok (.iload_n 2, 1) := by decide +kernel
theorem dX8_pointsBetween_52 : decode cX8_pointsBetween 52 = .ok (.iload 4, 2) := by decide +kernel
theorem dX8_pointsBetween_54 : decode cX8_pointsBetween 54 = .ok (.invokestatic 43, 3) := by decide +kernel
theorem dX8_pointsBetween_57 : decode cX8_pointsBetween 57 = .ok (.ifCond .eq 7, 3) := by decide +kernel
theorem dX8_pointsBetween_60 : decode cX8_pointsBetween 60 = .ok (.iconst 1, 1) := by decide +kernel
theorem dX8_pointsBetween_61 : decode cX8_pointsBetween 61 = .ok (.goto 4, 3) := by decide +kernel
theorem dX8_pointsBetween_64 : decode cX8_pointsBetween 64 = .ok (.iconst 0, 1) := by decide +kernel
theorem dX8_pointsBetween_65 : decode cX8_pointsBetween 65 = .ok (.iadd, 1) := by decide +kernel
theorem dX8_pointsBetween_66 : decode cX8_pointsBetween 66 = .ok (.istore 5, 2) := by decide +kernel
theorem dX8_pointsBetween_68 : decode cX8_pointsBetween 68 = .ok (.iinc 6 1, 3) := by decide +kernel
theorem dX8_pointsBetween_71 : decode cX8_pointsBetween 71 = .ok (.goto (-65), 3) := by decide +kernel
theorem dX8_pointsBetween_74 : decode cX8_pointsBetween 74 = .ok (.iload 5, 2) := by decide +kernel
theorem dX8_pointsBetween_76 : decode cX8_pointsBetween 76 = .ok (.ireturn, 1) := by decide +kernel
set_option maxRecDepth 20000 in
theorem ggX8_meetsWindow_X8_firstOf : GoodIn wsX8_meetsWindow wsX8_firstOf := goodIn_r _ [4, 5, 6, 3, 7] (by decide +kernel) (by decide +kernel)
set_option maxRecDepth 20000 in
theorem gX8_meetsWindow_X8_firstOf : GoodIn wsX8_meetsWindow (va_wsS RX8 72 yX8_firstOf wsX8_firstOf) := goodIn_app (goodIn_of _ (by decide +kernel)) ggX8_meetsWindow_X8_firstOf
set_option maxRecDepth 20000 in
theorem ggX8_meetsWindow_X8_coordinate : GoodIn wsX8_meetsWindow wsX8_coordinate := goodIn_r _ [10] (by decide +kernel) (by decide +kernel)
set_option maxRecDepth 20000 in
theorem gX8_meetsWindow_X8_coordinate : GoodIn wsX8_meetsWindow (va_wsS RX8 127 yX8_coordinate wsX8_coordinate) := goodIn_app (goodIn_of _ (by decide +kernel)) ggX8_meetsWindow_X8_coordinate
set_option maxRecDepth 20000 in
theorem ggX8_meetsWindow_X8_sizeOf : GoodIn wsX8_meetsWindow wsX8_sizeOf := goodIn_r _ [13, 5, 6, 3, 7] (by decide +kernel) (by decide +kernel)
set_option maxRecDepth 20000 in
theorem gX8_meetsWindow_X8_sizeOf : GoodIn wsX8_meetsWindow (va_wsS RX8 130 yX8_sizeOf wsX8_sizeOf) := goodIn_app (goodIn_of _ (by decide +kernel)) ggX8_meetsWindow_X8_sizeOf
theorem dX8_meetsWindow_0 : decode cX8_meetsWindow 0 = .ok (.iload_n 0, 1) := by decide +kernel
theorem dX8_meetsWindow_1 : decode cX8_meetsWindow 1 = .ok (.invokestatic 72, 3) := by decide +kernel
theorem dX8_meetsWindow_4 : decode cX8_meetsWindow 4 = .ok (.istore 5, 2) := by decide +kernel
theorem dX8_meetsWindow_6 : decode cX8_meetsWindow 6 = .ok (.iload 5, 2) := by decide +kernel
theorem dX8_meetsWindow_8 : decode cX8_meetsWindow 8 = .ok (.iconst 0, 1) := by decide +kernel
theorem dX8_meetsWindow_9 : decode cX8_meetsWindow 9 = .ok (.invokestatic 127, 3) := by decide +kernel
theorem dX8_meetsWindow_12 : decode cX8_meetsWindow 12 = .ok (.istore 6, 2) := by decide +kernel
theorem dX8_meetsWindow_14 : decode cX8_meetsWindow 14 = .ok (.iload 5, 2) := by decide +kernel
theorem dX8_meetsWindow_16 : decode cX8_meetsWindow 16 = .ok (.iconst 1, 1) := by decide +kernel
theorem dX8_meetsWindow_17 : decode cX8_meetsWindow 17 = .ok (.invokestatic 127, 3) := by decide +kernel
theorem dX8_meetsWindow_20 : decode cX8_meetsWindow 20 = .ok (.istore 7, 2) := by decide +kernel
theorem dX8_meetsWindow_22 : decode cX8_meetsWindow 22 = .ok (.iload_n 0, 1) := by decide +kernel
theorem dX8_meetsWindow_23 : decode cX8_meetsWindow 23 = .ok (.invokestatic 130, 3) := by decide +kernel
theorem dX8_meetsWindow_26 : decode cX8_meetsWindow 26 = .ok (.iconst 1, 1) := by decide +kernel
theorem dX8_meetsWindow_27 : decode cX8_meetsWindow 27 = .ok (.isub, 1) := by decide +kernel
theorem dX8_meetsWindow_28 : decode cX8_meetsWindow 28 = .ok (.istore 8, 2) := by decide +kernel
theorem dX8_meetsWindow_30 : decode cX8_meetsWindow 30 = .ok (.iload 6, 2) := by decide +kernel
theorem dX8_meetsWindow_32 : decode cX8_meetsWindow 32 = .ok (.iload_n 3, 1) := by decide +kernel
theorem dX8_meetsWindow_33 : decode cX8_meetsWindow 33 = .ok (.if_icmp .gt 32, 3) := by decide +kernel
theorem dX8_meetsWindow_36 : decode cX8_meetsWindow 36 = .ok (.iload 6, 2) := by decide +kernel
theorem dX8_meetsWindow_38 : decode cX8_meetsWindow 38 = .ok (.iload 8, 2) := by decide +kernel
theorem dX8_meetsWindow_40 : decode cX8_meetsWindow 40 = .ok (.iadd, 1) := by decide +kernel
theorem dX8_meetsWindow_41 : decode cX8_meetsWindow 41 = .ok (.iload_n 1, 1) := by decide +kernel
theorem dX8_meetsWindow_42 : decode cX8_meetsWindow 42 = .ok (.if_icmp .lt 23, 3) := by decide +kernel
theorem dX8_meetsWindow_45 : decode cX8_meetsWindow 45 = .ok (.iload 7, 2) := by decide +kernel
theorem dX8_meetsWindow_47 : decode cX8_meetsWindow 47 = .ok (.iload 4, 2) := by decide +kernel
theorem dX8_meetsWindow_49 : decode cX8_meetsWindow 49 = .ok (.if_icmp .gt 16, 3) := by decide +kernel
theorem dX8_meetsWindow_52 : decode cX8_meetsWindow 52 = .ok (.iload 7, 2) := by decide +kernel
theorem dX8_meetsWindow_54 : decode cX8_meetsWindow 54 = .ok (.iload 8, 2) := by decide +kernel
theorem dX8_meetsWindow_56 : decode cX8_meetsWindow 56 = .ok (.iadd, 1) := by decide +kernel
theorem dX8_meetsWindow_57 : decode cX8_meetsWindow 57 = .ok (.iload_n 2, 1) := by decide +kernel
theorem dX8_meetsWindow_58 : decode cX8_meetsWindow 58 = .ok (.if_icmp .lt 7, 3) := by decide +kernel
theorem dX8_meetsWindow_61 : decode cX8_meetsWindow 61 = .ok (.iconst 1, 1) := by decide +kernel
theorem dX8_meetsWindow_62 : decode cX8_meetsWindow 62 = .ok (.goto 4, 3) := by decide +kernel
theorem dX8_meetsWindow_65 : decode cX8_meetsWindow 65 = .ok (.iconst 0, 1) := by decide +kernel
theorem dX8_meetsWindow_66 : decode cX8_meetsWindow 66 = .ok (.ireturn, 1) := by decide +kernel
set_option maxRecDepth 20000 in
theorem ggX8_tilesIn_X8_leafOf : GoodIn wsX8_tilesIn wsX8_leafOf := goodIn_r _ [6, 7, 8, 5, 9, 10, 11, 12, 13, 14, 15, 16, 17, 18, 19, 20, 21, 22, 23, 24, 25, 26, 27] (by decide +kernel) (by decide +kernel)
set_option maxRecDepth 20000 in
theorem gX8_tilesIn_X8_leafOf : GoodIn wsX8_tilesIn (va_wsS RX8 75 yX8_leafOf wsX8_leafOf) := goodIn_app (goodIn_of _ (by decide +kernel)) ggX8_tilesIn_X8_leafOf
set_option maxRecDepth 20000 in
theorem ggX8_tilesIn_X8_meetsWindow : GoodIn wsX8_tilesIn wsX8_meetsWindow := goodIn_r _ [30, 31, 32, 5, 33, 13, 14, 15, 34, 35, 36, 37, 38, 39] (by decide +kernel) (by decide +kernel)
set_option maxRecDepth 20000 in
theorem gX8_tilesIn_X8_meetsWindow : GoodIn wsX8_tilesIn (va_wsS RX8 163 yX8_meetsWindow wsX8_meetsWindow) := goodIn_app (goodIn_of _ (by decide +kernel)) ggX8_tilesIn_X8_meetsWindow
set_option maxRecDepth 20000 in
theorem ggX8_tilesIn_X8_newOnes : GoodIn wsX8_tilesIn wsX8_newOnes := goodIn_r _ [43, 1, 13, 14, 5, 15, 47, 48, 49, 50, 51, 52, 53, 54, 55, 56, 57, 58, 59, 60] (by decide +kernel) (by decide +kernel)
set_option maxRecDepth 20000 in
theorem gX8_tilesIn_X8_newOnes : GoodIn wsX8_tilesIn (wsV RX8 167 RX8 yX8_newOnes wsX8_newOnes) := goodIn_app (goodIn_of _ (by decide +kernel)) ggX8_tilesIn_X8_newOnes
set_option maxRecDepth 20000 in
theorem ggX8_tilesIn_X8_pathsIn : GoodIn wsX8_tilesIn wsX8_pathsIn := goodIn_r _ [46, 13, 14, 5, 15] (by decide +kernel) (by decide +kernel)
set_option maxRecDepth 20000 in
theorem gX8_tilesIn_X8_pathsIn : GoodIn wsX8_tilesIn (va_wsS RX8 78 yX8_pathsIn wsX8_pathsIn) := goodIn_app (goodIn_of _ (by decide +kernel)) ggX8_tilesIn_X8_pathsIn
theorem dX8_tilesIn_0 : decode cX8_tilesIn 0 = .ok (.iconst 0, 1) := by decide +kernel
theorem dX8_tilesIn_1 : decode cX8_tilesIn 1 = .ok (.istore 6, 2) := by decide +kernel
theorem dX8_tilesIn_3 : decode cX8_tilesIn 3 = .ok (.iload 6, 2) := by decide +kernel
theorem dX8_tilesIn_5 : decode cX8_tilesIn 5 = .ok (.bipush 6, 2) := by decide +kernel
theorem dX8_tilesIn_7 : decode cX8_tilesIn 7 = .ok (.if_icmp .gt 17, 3) := by decide +kernel
theorem dX8_tilesIn_10 : decode cX8_tilesIn 10 = .ok (.aload_n 0, 1) := by decide +kernel
theorem dX8_tilesIn_11 : decode cX8_tilesIn 11 = .ok (.getfield 29, 3) := by decide +kernel
theorem dX8_tilesIn_14 : decode cX8_tilesIn 14 = .ok (.iload 6, 2) := by decide +kernel
theorem dX8_tilesIn_16 : decode cX8_tilesIn 16 = .ok (.iconst 0, 1) := by decide +kernel
theorem dX8_tilesIn_17 : decode cX8_tilesIn 17 = .ok (.iastore, 1) := by decide +kernel
theorem dX8_tilesIn_18 : decode cX8_tilesIn 18 = .ok (.iinc 6 1, 3) := by decide +kernel
theorem dX8_tilesIn_21 : decode cX8_tilesIn 21 = .ok (.goto (-18), 3) := by decide +kernel
theorem dX8_tilesIn_24 : decode cX8_tilesIn 24 = .ok (.iconst 0, 1) := by decide +kernel
theorem dX8_tilesIn_25 : decode cX8_tilesIn 25 = .ok (.istore 6, 2) := by decide +kernel
theorem dX8_tilesIn_27 : decode cX8_tilesIn 27 = .ok (.iconst 0, 1) := by decide +kernel
theorem dX8_tilesIn_28 : decode cX8_tilesIn 28 = .ok (.istore 7, 2) := by decide +kernel
theorem dX8_tilesIn_30 : decode cX8_tilesIn 30 = .ok (.iload 7, 2) := by decide +kernel
theorem dX8_tilesIn_32 : decode cX8_tilesIn 32 = .ok (.sipush 4096, 3) := by decide +kernel
theorem dX8_tilesIn_35 : decode cX8_tilesIn 35 = .ok (.if_icmp .ge 61, 3) := by decide +kernel
theorem dX8_tilesIn_38 : decode cX8_tilesIn 38 = .ok (.aload_n 0, 1) := by decide +kernel
theorem dX8_tilesIn_39 : decode cX8_tilesIn 39 = .ok (.getfield 7, 3) := by decide +kernel
theorem dX8_tilesIn_42 : decode cX8_tilesIn 42 = .ok (.iload 7, 2) := by decide +kernel
theorem dX8_tilesIn_44 : decode cX8_tilesIn 44 = .ok (.invokestatic 75, 3) := by decide +kernel
theorem dX8_tilesIn_47 : decode cX8_tilesIn 47 = .ok (.istore 8, 2) := by decide +kernel
theorem dX8_tilesIn_49 : decode cX8_tilesIn 49 = .ok (.iload 8, 2) := by decide +kernel
theorem dX8_tilesIn_51 : decode cX8_tilesIn 51 = .ok (.iload_n 1, 1) := by decide +kernel
theorem dX8_tilesIn_52 : decode cX8_tilesIn 52 = .ok (.iload_n 2, 1) := by decide +kernel
theorem dX8_tilesIn_53 : decode cX8_tilesIn 53 = .ok (.iload_n 3, 1) := by decide +kernel
theorem dX8_tilesIn_54 : decode cX8_tilesIn 54 = .ok (.iload 4, 2) := by decide +kernel
theorem dX8_tilesIn_56 : decode cX8_tilesIn 56 = .ok (.invokestatic 163, 3) := by decide +kernel
theorem dX8_tilesIn_59 : decode cX8_tilesIn 59 = .ok (.ifCond .eq 24, 3) := by decide +kernel
theorem dX8_tilesIn_62 : decode cX8_tilesIn 62 = .ok (.iload 6, 2) := by decide +kernel
theorem dX8_tilesIn_64 : decode cX8_tilesIn 64 = .ok (.iload 5, 2) := by decide +kernel
theorem dX8_tilesIn_66 : decode cX8_tilesIn 66 = .ok (.iconst 1, 1) := by decide +kernel
theorem dX8_tilesIn_67 : decode cX8_tilesIn 67 = .ok (.if_icmp .ne 7, 3) := by decide +kernel
theorem dX8_tilesIn_70 : decode cX8_tilesIn 70 = .ok (.iconst 1, 1) := by decide +kernel
theorem dX8_tilesIn_71 : decode cX8_tilesIn 71 = .ok (.goto 9, 3) := by decide +kernel
theorem dX8_tilesIn_74 : decode cX8_tilesIn 74 = .ok (.aload_n 0, 1) := by decide +kernel
theorem dX8_tilesIn_75 : decode cX8_tilesIn 75 = .ok (.iload 8, 2) := by decide +kernel
theorem dX8_tilesIn_77 : decode cX8_tilesIn 77 = .ok (.invokevirtual 167, 3) := by decide +kernel
theorem dX8_tilesIn_80 : decode cX8_tilesIn 80 = .ok (.iadd, 1) := by decide +kernel
theorem dX8_tilesIn_81 : decode cX8_tilesIn 81 = .ok (.istore 6, 2) := by decide +kernel
theorem dX8_tilesIn_83 : decode cX8_tilesIn 83 = .ok (.iload 7, 2) := by decide +kernel
theorem dX8_tilesIn_85 : decode cX8_tilesIn 85 = .ok (.iload 8, 2) := by decide +kernel
theorem dX8_tilesIn_87 : decode cX8_tilesIn 87 = .ok (.invokestatic 78, 3) := by decide +kernel
theorem dX8_tilesIn_90 : decode cX8_tilesIn 90 = .ok (.iadd, 1) := by decide +kernel
theorem dX8_tilesIn_91 : decode cX8_tilesIn 91 = .ok (.istore 7, 2) := by decide +kernel
theorem dX8_tilesIn_93 : decode cX8_tilesIn 93 = .ok (.goto (-63), 3) := by decide +kernel
theorem dX8_tilesIn_96 : decode cX8_tilesIn 96 = .ok (.iload 6, 2) := by decide +kernel
theorem dX8_tilesIn_98 : decode cX8_tilesIn 98 = .ok (.ireturn, 1) := by decide +kernel
set_option maxRecDepth 20000 in
theorem ggX8_newOnes_X8_depthOf : GoodIn wsX8_newOnes wsX8_depthOf := goodIn_r _ [5] (by decide +kernel) (by decide +kernel)
set_option maxRecDepth 20000 in
theorem gX8_newOnes_X8_depthOf : GoodIn wsX8_newOnes (va_wsS RX8 47 yX8_depthOf wsX8_depthOf) := goodIn_app (goodIn_of _ (by decide +kernel)) ggX8_newOnes_X8_depthOf
theorem dX8_newOnes_0 : decode cX8_newOnes 0 = .ok (.iconst 0, 1) := by decide +kernel
theorem dX8_newOnes_1 : decode cX8_newOnes 1 = .ok (.istore_n 2, 1) := by decide +kernel
theorem dX8_newOnes_2 : decode cX8_newOnes 2 = .ok (.iload_n 1, 1) := by decide +kernel
theorem dX8_newOnes_3 : decode cX8_newOnes 3 = .ok (.invokestatic 47, 3) := by decide +kernel
theorem dX8_newOnes_6 : decode cX8_newOnes 6 = .ok (.istore_n 3, 1) := by decide +kernel
theorem dX8_newOnes_7 : decode cX8_newOnes 7 = .ok (.iload_n 3, 1) := by decide +kernel
theorem dX8_newOnes_8 : decode cX8_newOnes 8 = .ok (.ifCond .lt 48, 3) := by decide +kernel
theorem dX8_newOnes_11 : decode cX8_newOnes 11 = .ok (.iload_n 1, 1) := by decide +kernel
theorem dX8_newOnes_12 : decode cX8_newOnes 12 = .ok (.iconst 2, 1) := by decide +kernel
theorem dX8_newOnes_13 : decode cX8_newOnes 13 = .ok (.iload_n 1, 1) := by decide +kernel
theorem dX8_newOnes_14 : decode cX8_newOnes 14 = .ok (.invokestatic 47, 3) := by decide +kernel
theorem dX8_newOnes_17 : decode cX8_newOnes 17 = .ok (.iload_n 3, 1) := by decide +kernel
theorem dX8_newOnes_18 : decode cX8_newOnes 18 = .ok (.isub, 1) := by decide +kernel
theorem dX8_newOnes_19 : decode cX8_newOnes 19 = .ok (.imul, 1) := by decide +kernel
theorem dX8_newOnes_20 : decode cX8_newOnes 20 = .ok (.ishr, 1) := by decide +kernel
theorem dX8_newOnes_21 : decode cX8_newOnes 21 = .ok (.istore 4, 2) := by decide +kernel
theorem dX8_newOnes_23 : decode cX8_newOnes 23 = .ok (.iload_n 2, 1) := by decide +kernel
theorem dX8_newOnes_24 : decode cX8_newOnes 24 = .ok (.aload_n 0, 1) := by decide +kernel
theorem dX8_newOnes_25 : decode cX8_newOnes 25 = .ok (.getfield 29, 3) := by decide +kernel
theorem dX8_newOnes_28 : decode cX8_newOnes 28 = .ok (.iload_n 3, 1) := by decide +kernel
theorem dX8_newOnes_29 : decode cX8_newOnes 29 = .ok (.iaload, 1) := by decide +kernel
theorem dX8_newOnes_30 : decode cX8_newOnes 30 = .ok (.iload 4, 2) := by decide +kernel
theorem dX8_newOnes_32 : decode cX8_newOnes 32 = .ok (.if_icmp .ne 7, 3) := by decide +kernel
theorem dX8_newOnes_35 : decode cX8_newOnes 35 = .ok (.iconst 0, 1) := by decide +kernel
theorem dX8_newOnes_36 : decode cX8_newOnes 36 = .ok (.goto 4, 3) := by decide +kernel
theorem dX8_newOnes_39 : decode cX8_newOnes 39 = .ok (.iconst 1, 1) := by decide +kernel
theorem dX8_newOnes_40 : decode cX8_newOnes 40 = .ok (.iadd, 1) := by decide +kernel
theorem dX8_newOnes_41 : decode cX8_newOnes 41 = .ok (.istore_n 2, 1) := by decide +kernel
theorem dX8_newOnes_42 : decode cX8_newOnes 42 = .ok (.aload_n 0, 1) := by decide +kernel
theorem dX8_newOnes_43 : decode cX8_newOnes 43 = .ok (.getfield 29, 3) := by decide +kernel
theorem dX8_newOnes_46 : decode cX8_newOnes 46 = .ok (.iload_n 3, 1) := by decide +kernel
theorem dX8_newOnes_47 : decode cX8_newOnes 47 = .ok (.iload 4, 2) := by decide +kernel
theorem dX8_newOnes_49 : decode cX8_newOnes 49 = .ok (.iastore, 1) := by decide +kernel
theorem dX8_newOnes_50 : decode cX8_newOnes 50 = .ok (.iinc 3 (-1), 3) := by decide +kernel
theorem dX8_newOnes_53 : decode cX8_newOnes 53 = .ok (.goto (-46), 3) := by decide +kernel
theorem dX8_newOnes_56 : decode cX8_newOnes 56 = .ok (.iload_n 2, 1) := by decide +kernel
theorem dX8_newOnes_57 : decode cX8_newOnes 57 = .ok (.ireturn, 1) := by decide +kernel
set_option maxRecDepth 20000 in
theorem ggX8_smallest_X8_tileOf : GoodIn wsX8_smallest wsX8_tileOf := goodIn_r _ [5] (by decide +kernel) (by decide +kernel)
set_option maxRecDepth 20000 in
theorem gX8_smallest_X8_tileOf : GoodIn wsX8_smallest (va_wsS RX8 59 yX8_tileOf wsX8_tileOf) := goodIn_app (goodIn_of _ (by decide +kernel)) ggX8_smallest_X8_tileOf
set_option maxRecDepth 20000 in
theorem ggX8_smallest_X8_isSplit : GoodIn wsX8_smallest wsX8_isSplit := goodIn_r _ [8, 9, 10, 4, 11, 12, 13, 14, 15, 16, 17, 18, 19, 20, 21, 22, 23, 2, 3, 5] (by decide +kernel) (by decide +kernel)
set_option maxRecDepth 20000 in
theorem gX8_smallest_X8_isSplit : GoodIn wsX8_smallest (va_wsS RX8 69 yX8_isSplit wsX8_isSplit) := goodIn_app (goodIn_of _ (by decide +kernel)) ggX8_smallest_X8_isSplit
theorem dX8_smallest_0 : decode cX8_smallest 0 = .ok (.iconst 0, 1) := by decide +kernel
theorem dX8_smallest_1 : decode cX8_smallest 1 = .ok (.istore_n 3, 1) := by decide +kernel
theorem dX8_smallest_2 : decode cX8_smallest 2 = .ok (.aload_n 0, 1) := by decide +kernel
theorem dX8_smallest_3 : decode cX8_smallest 3 = .ok (.getfield 7, 3) := by decide +kernel
theorem dX8_smallest_6 : decode cX8_smallest 6 = .ok (.iload_n 1, 1) := by decide +kernel
theorem dX8_smallest_7 : decode cX8_smallest 7 = .ok (.iload_n 3, 1) := by decide +kernel
theorem dX8_smallest_8 : decode cX8_smallest 8 = .ok (.invokestatic 59, 3) := by decide +kernel
theorem dX8_smallest_11 : decode cX8_smallest 11 = .ok (.invokestatic 69, 3) := by decide +kernel
theorem dX8_smallest_14 : decode cX8_smallest 14 = .ok (.ifCond .eq 26, 3) := by decide +kernel
theorem dX8_smallest_17 : decode cX8_smallest 17 = .ok (.iload_n 1, 1) := by decide +kernel
theorem dX8_smallest_18 : decode cX8_smallest 18 = .ok (.iload_n 3, 1) := by decide +kernel
theorem dX8_smallest_19 : decode cX8_smallest 19 = .ok (.iconst 1, 1) := by decide +kernel
theorem dX8_smallest_20 : decode cX8_smallest 20 = .ok (.iadd, 1) := by decide +kernel
theorem dX8_smallest_21 : decode cX8_smallest 21 = .ok (.invokestatic 59, 3) := by decide +kernel
theorem dX8_smallest_24 : decode cX8_smallest 24 = .ok (.iload_n 2, 1) := by decide +kernel
theorem dX8_smallest_25 : decode cX8_smallest 25 = .ok (.iload_n 3, 1) := by decide +kernel
theorem dX8_smallest_26 : decode cX8_smallest 26 = .ok (.iconst 1, 1) := by decide +kernel
theorem dX8_smallest_27 : decode cX8_smallest 27 = .ok (.iadd, 1) := by decide +kernel
theorem dX8_smallest_28 : decode cX8_smallest 28 = .ok (.invokestatic 59, 3) := by decide +kernel
theorem dX8_smallest_31 : decode cX8_smallest 31 = .ok (.if_icmp .ne 9, 3) := by decide +kernel
theorem dX8_smallest_34 : decode cX8_smallest 34 = .ok (.iinc 3 1, 3) := by decide +kernel
theorem dX8_smallest_37 : decode cX8_smallest 37 = .ok (.goto (-35), 3) := by decide +kernel
theorem dX8_smallest_40 : decode cX8_smallest 40 = .ok (.iload_n 1, 1) := by decide +kernel
theorem dX8_smallest_41 : decode cX8_smallest 41 = .ok (.iload_n 3, 1) := by decide +kernel
theorem dX8_smallest_42 : decode cX8_smallest 42 = .ok (.invokestatic 59, 3) := by decide +kernel
theorem dX8_smallest_45 : decode cX8_smallest 45 = .ok (.ireturn, 1) := by decide +kernel
set_option maxRecDepth 20000 in
theorem ggX8_window_X8_isPlace : GoodIn wsX8_window wsX8_isPlace := goodIn_r _ [4, 5, 6, 3, 7] (by decide +kernel) (by decide +kernel)
set_option maxRecDepth 20000 in
theorem gX8_window_X8_isPlace : GoodIn wsX8_window (va_wsS RX8 89 yX8_isPlace wsX8_isPlace) := goodIn_app (goodIn_of _ (by decide +kernel)) ggX8_window_X8_isPlace
set_option maxRecDepth 20000 in
theorem ggX8_window_X8_pointsBetween : GoodIn wsX8_window wsX8_pointsBetween := goodIn_r _ [11, 12, 5, 6, 3, 7, 65, 66, 67, 68, 69, 70, 71, 72, 73, 74, 75, 76, 77, 78] (by decide +kernel) (by decide +kernel)
set_option maxRecDepth 20000 in
theorem gX8_window_X8_pointsBetween : GoodIn wsX8_window (wsV RX8 170 RX8 yX8_pointsBetween wsX8_pointsBetween) := goodIn_app (goodIn_of _ (by decide +kernel)) ggX8_window_X8_pointsBetween
set_option maxRecDepth 20000 in
theorem ggX8_window_X8_tilesIn : GoodIn wsX8_window wsX8_tilesIn := goodIn_r _ [16, 17, 12, 18, 19, 3, 20, 21, 22, 23, 24, 25, 26, 27, 28, 29, 30, 31, 32, 33, 34, 35, 36, 37, 38, 39, 40, 41, 42, 43, 44, 45, 46, 47, 48, 49, 50, 51, 52, 53, 54, 55, 56, 57, 58, 59, 60, 65, 66, 67, 68, 69, 70, 71, 72, 73, 74, 75, 76, 77, 78] (by decide +kernel) (by decide +kernel)
set_option maxRecDepth 20000 in
theorem gX8_window_X8_tilesIn : GoodIn wsX8_window (wsV RX8 174 RX8 yX8_tilesIn wsX8_tilesIn) := goodIn_app (goodIn_of _ (by decide +kernel)) ggX8_window_X8_tilesIn
set_option maxRecDepth 20000 in
theorem ggX8_window_X8_pathOf : GoodIn wsX8_window wsX8_pathOf := goodIn_r _ [41] (by decide +kernel) (by decide +kernel)
set_option maxRecDepth 20000 in
theorem gX8_window_X8_pathOf : GoodIn wsX8_window (va_wsS RX8 51 yX8_pathOf wsX8_pathOf) := goodIn_app (goodIn_of _ (by decide +kernel)) ggX8_window_X8_pathOf
set_option maxRecDepth 20000 in
theorem ggX8_window_X8_smallest : GoodIn wsX8_window wsX8_smallest := goodIn_r _ [64, 12, 21, 22, 3, 23, 24, 25, 26, 27, 28, 29, 30, 31, 32, 33, 34, 35, 36, 37, 38, 39, 40, 41, 65, 66, 67, 68, 69, 70, 71, 72, 73, 74, 75, 76, 77, 78] (by decide +kernel) (by decide +kernel)
set_option maxRecDepth 20000 in
theorem gX8_window_X8_smallest : GoodIn wsX8_window (wsV RX8 178 RX8 yX8_smallest wsX8_smallest) := goodIn_app (goodIn_of _ (by decide +kernel)) ggX8_window_X8_smallest
theorem dX8_window_0 : decode cX8_window 0 = .ok (.iload_n 1, 1) := by decide +kernel
theorem dX8_window_1 : decode cX8_window 1 = .ok (.iload_n 2, 1) := by decide +kernel
theorem dX8_window_2 : decode cX8_window 2 = .ok (.invokestatic 89, 3) := by decide +kernel
theorem dX8_window_5 : decode cX8_window 5 = .ok (.ifCond .eq 12, 3) := by decide +kernel
theorem dX8_window_8 : decode cX8_window 8 = .ok (.iload_n 3, 1) := by decide +kernel
theorem dX8_window_9 : decode cX8_window 9 = .ok (.iload 4, 2) := by decide +kernel
theorem dX8_window_11 : decode cX8_window 11 = .ok (.invokestatic 89, 3) := by decide +kernel
theorem dX8_window_14 : decode cX8_window 14 = .ok (.ifCond .ne 5, 3) := by decide +kernel
theorem dX8_window_17 : decode cX8_window 17 = .ok (.iconst (-1), 1) := by decide +kernel
theorem dX8_window_18 : decode cX8_window 18 = .ok (.ireturn, 1) := by decide +kernel
theorem dX8_window_19 : decode cX8_window 19 = .ok (.iload_n 3, 1) := by decide +kernel
theorem dX8_window_20 : decode cX8_window 20 = .ok (.iload_n 1, 1) := by decide +kernel
theorem dX8_window_21 : decode cX8_window 21 = .ok (.if_icmp .lt 9, 3) := by decide +kernel
theorem dX8_window_24 : decode cX8_window 24 = .ok (.iload 4, 2) := by decide +kernel
theorem dX8_window_26 : decode cX8_window 26 = .ok (.iload_n 2, 1) := by decide +kernel
theorem dX8_window_27 : decode cX8_window 27 = .ok (.if_icmp .ge 6, 3) := by decide +kernel
theorem dX8_window_30 : decode cX8_window 30 = .ok (.bipush (-2), 2) := by decide +kernel
theorem dX8_window_32 : decode cX8_window 32 = .ok (.ireturn, 1) := by decide +kernel
theorem dX8_window_33 : decode cX8_window 33 = .ok (.iload 5, 2) := by decide +kernel
theorem dX8_window_35 : decode cX8_window 35 = .ok (.tableswitch 67 0 3 #[29, 39, 39, 51], 29) := by decide +kernel
theorem dX8_window_64 : decode cX8_window 64 = .ok (.aload_n 0, 1) := by decide +kernel
theorem dX8_window_65 : decode cX8_window 65 = .ok (.iload_n 1, 1) := by decide +kernel
theorem dX8_window_66 : decode cX8_window 66 = .ok (.iload_n 2, 1) := by decide +kernel
theorem dX8_window_67 : decode cX8_window 67 = .ok (.iload_n 3, 1) := by decide +kernel
theorem dX8_window_68 : decode cX8_window 68 = .ok (.iload 4, 2) := by decide +kernel
theorem dX8_window_70 : decode cX8_window 70 = .ok (.invokevirtual 170, 3) := by decide +kernel
theorem dX8_window_73 : decode cX8_window 73 = .ok (.ireturn, 1) := by decide +kernel
theorem dX8_window_74 : decode cX8_window 74 = .ok (.aload_n 0, 1) := by decide +kernel
theorem dX8_window_75 : decode cX8_window 75 = .ok (.iload_n 1, 1) := by decide +kernel
theorem dX8_window_76 : decode cX8_window 76 = .ok (.iload_n 2, 1) := by decide +kernel
theorem dX8_window_77 : decode cX8_window 77 = .ok (.iload_n 3, 1) := by decide +kernel
theorem dX8_window_78 : decode cX8_window 78 = .ok (.iload 4, 2) := by decide +kernel
theorem dX8_window_80 : decode cX8_window 80 = .ok (.iload 5, 2) := by decide +kernel
theorem dX8_window_82 : decode cX8_window 82 = .ok (.invokevirtual 174, 3) := by decide +kernel
theorem dX8_window_85 : decode cX8_window 85 = .ok (.ireturn, 1) := by decide +kernel
theorem dX8_window_86 : decode cX8_window 86 = .ok (.aload_n 0, 1) := by decide +kernel
theorem dX8_window_87 : decode cX8_window 87 = .ok (.iload_n 1, 1) := by decide +kernel
theorem dX8_window_88 : decode cX8_window 88 = .ok (.iload_n 2, 1) := by decide +kernel
theorem dX8_window_89 : decode cX8_window 89 = .ok (.invokestatic 51, 3) := by decide +kernel
theorem dX8_window_92 : decode cX8_window 92 = .ok (.iload_n 3, 1) := by decide +kernel
theorem dX8_window_93 : decode cX8_window 93 = .ok (.iload 4, 2) := by decide +kernel
theorem dX8_window_95 : decode cX8_window 95 = .ok (.invokestatic 51, 3) := by decide +kernel
theorem dX8_window_98 : decode cX8_window 98 = .ok (.invokevirtual 178, 3) := by decide +kernel
theorem dX8_window_101 : decode cX8_window 101 = .ok (.ireturn, 1) := by decide +kernel
theorem dX8_window_102 : decode cX8_window 102 = .ok (.bipush (-2), 2) := by decide +kernel
theorem dX8_window_104 : decode cX8_window 104 = .ok (.ireturn, 1) := by decide +kernel
theorem dX8_far_0 : decode cX8_far 0 = .ok (.aload_n 0, 1) := by decide +kernel
theorem dX8_far_1 : decode cX8_far 1 = .ok (.getfield 7, 3) := by decide +kernel
theorem dX8_far_4 : decode cX8_far 4 = .ok (.iconst 4, 1) := by decide +kernel
theorem dX8_far_5 : decode cX8_far 5 = .ok (.iconst 2, 1) := by decide +kernel
theorem dX8_far_6 : decode cX8_far 6 = .ok (.iload_n 1, 1) := by decide +kernel
theorem dX8_far_7 : decode cX8_far 7 = .ok (.imul, 1) := by decide +kernel
theorem dX8_far_8 : decode cX8_far 8 = .ok (.iadd, 1) := by decide +kernel
theorem dX8_far_9 : decode cX8_far 9 = .ok (.iaload, 1) := by decide +kernel
theorem dX8_far_10 : decode cX8_far 10 = .ok (.iload_n 2, 1) := by decide +kernel
theorem dX8_far_11 : decode cX8_far 11 = .ok (.isub, 1) := by decide +kernel
theorem dX8_far_12 : decode cX8_far 12 = .ok (.istore 4, 2) := by decide +kernel
theorem dX8_far_14 : decode cX8_far 14 = .ok (.aload_n 0, 1) := by decide +kernel
theorem dX8_far_15 : decode cX8_far 15 = .ok (.getfield 7, 3) := by decide +kernel
theorem dX8_far_18 : decode cX8_far 18 = .ok (.iconst 4, 1) := by decide +kernel
theorem dX8_far_19 : decode cX8_far 19 = .ok (.iconst 2, 1) := by decide +kernel
theorem dX8_far_20 : decode cX8_far 20 = .ok (.iload_n 1, 1) := by decide +kernel
theorem dX8_far_21 : decode cX8_far 21 = .ok (.imul, 1) := by decide +kernel
theorem dX8_far_22 : decode cX8_far 22 = .ok (.iadd, 1) := by decide +kernel
theorem dX8_far_23 : decode cX8_far 23 = .ok (.iconst 1, 1) := by decide +kernel
theorem dX8_far_24 : decode cX8_far 24 = .ok (.iadd, 1) := by decide +kernel
theorem dX8_far_25 : decode cX8_far 25 = .ok (.iaload, 1) := by decide +kernel
theorem dX8_far_26 : decode cX8_far 26 = .ok (.iload_n 3, 1) := by decide +kernel
theorem dX8_far_27 : decode cX8_far 27 = .ok (.isub, 1) := by decide +kernel
theorem dX8_far_28 : decode cX8_far 28 = .ok (.istore 5, 2) := by decide +kernel
theorem dX8_far_30 : decode cX8_far 30 = .ok (.iload 4, 2) := by decide +kernel
theorem dX8_far_32 : decode cX8_far 32 = .ok (.iload 4, 2) := by decide +kernel
theorem dX8_far_34 : decode cX8_far 34 = .ok (.imul, 1) := by decide +kernel
theorem dX8_far_35 : decode cX8_far 35 = .ok (.iload 5, 2) := by decide +kernel
theorem dX8_far_37 : decode cX8_far 37 = .ok (.iload 5, 2) := by decide +kernel
theorem dX8_far_39 : decode cX8_far 39 = .ok (.imul, 1) := by decide +kernel
theorem dX8_far_40 : decode cX8_far 40 = .ok (.iadd, 1) := by decide +kernel
theorem dX8_far_41 : decode cX8_far 41 = .ok (.ireturn, 1) := by decide +kernel
set_option maxRecDepth 20000 in
theorem ggX8_nearest_X8_isPlace : GoodIn wsX8_nearest wsX8_isPlace := goodIn_r _ [5, 6, 7, 4, 8] (by decide +kernel) (by decide +kernel)
set_option maxRecDepth 20000 in
theorem gX8_nearest_X8_isPlace : GoodIn wsX8_nearest (va_wsS RX8 89 yX8_isPlace wsX8_isPlace) := goodIn_app (goodIn_of _ (by decide +kernel)) ggX8_nearest_X8_isPlace
set_option maxRecDepth 20000 in
theorem ggX8_nearest_X8_in : GoodIn wsX8_nearest wsX8_in := goodIn_r _ [8] (by decide +kernel) (by decide +kernel)
set_option maxRecDepth 20000 in
theorem gX8_nearest_X8_in : GoodIn wsX8_nearest (va_wsS RX8 43 yX8_in wsX8_in) := goodIn_app (goodIn_of _ (by decide +kernel)) ggX8_nearest_X8_in
set_option maxRecDepth 20000 in
theorem ggX8_nearest_X8_far : GoodIn wsX8_nearest wsX8_far := goodIn_r _ [12, 1, 13, 14, 15, 16, 17, 18, 19, 20, 21, 22, 23, 24, 25, 26] (by decide +kernel) (by decide +kernel)
set_option maxRecDepth 20000 in
theorem gX8_nearest_X8_far : GoodIn wsX8_nearest (wsV RX8 181 RX8 yX8_far wsX8_far) := goodIn_app (goodIn_of _ (by decide +kernel)) ggX8_nearest_X8_far
theorem dX8_nearest_0 : decode cX8_nearest 0 = .ok (.iload_n 1, 1) := by decide +kernel
theorem dX8_nearest_1 : decode cX8_nearest 1 = .ok (.iload_n 2, 1) := by decide +kernel
theorem dX8_nearest_2 : decode cX8_nearest 2 = .ok (.invokestatic 89, 3) := by decide +kernel
theorem dX8_nearest_5 : decode cX8_nearest 5 = .ok (.ifCond .ne 5, 3) := by decide +kernel
theorem dX8_nearest_8 : decode cX8_nearest 8 = .ok (.iconst (-1), 1) := by decide +kernel
theorem dX8_nearest_9 : decode cX8_nearest 9 = .ok (.ireturn, 1) := by decide +kernel
theorem dX8_nearest_10 : decode cX8_nearest 10 = .ok (.iload_n 3, 1) := by decide +kernel
theorem dX8_nearest_11 : decode cX8_nearest 11 = .ok (.iconst 0, 1) := by decide +kernel
theorem dX8_nearest_12 : decode cX8_nearest 12 = .ok (.iconst 1, 1) := by decide +kernel
theorem dX8_nearest_13 : decode cX8_nearest 13 = .ok (.invokestatic 43, 3) := by decide +kernel
theorem dX8_nearest_16 : decode cX8_nearest 16 = .ok (.ifCond .ne 6, 3) := by decide +kernel
theorem dX8_nearest_19 : decode cX8_nearest 19 = .ok (.bipush (-2), 2) := by decide +kernel
theorem dX8_nearest_21 : decode cX8_nearest 21 = .ok (.ireturn, 1) := by decide +kernel
theorem dX8_nearest_22 : decode cX8_nearest 22 = .ok (.bipush (-6), 2) := by decide +kernel
theorem dX8_nearest_24 : decode cX8_nearest 24 = .ok (.istore 4, 2) := by decide +kernel
theorem dX8_nearest_26 : decode cX8_nearest 26 = .ok (.iconst 0, 1) := by decide +kernel
theorem dX8_nearest_27 : decode cX8_nearest 27 = .ok (.istore 5, 2) := by decide +kernel
theorem dX8_nearest_29 : decode cX8_nearest 29 = .ok (.iload 5, 2) := by decide +kernel
theorem dX8_nearest_31 : decode cX8_nearest 31 = .ok (.aload_n 0, 1) := by decide +kernel
theorem dX8_nearest_32 : decode cX8_nearest 32 = .ok (.getfield 7, 3) := by decide +kernel
theorem dX8_nearest_35 : decode cX8_nearest 35 = .ok (.iconst 0, 1) := by decide +kernel
theorem dX8_nearest_36 : decode cX8_nearest 36 = .ok (.iaload, 1) := by decide +kernel
theorem dX8_nearest_37 : decode cX8_nearest 37 = .ok (.if_icmp .ge 44, 3) := by decide +kernel
theorem dX8_nearest_40 : decode cX8_nearest 40 = .ok (.iload 4, 2) := by decide +kernel
theorem dX8_nearest_42 : decode cX8_nearest 42 = .ok (.bipush (-6), 2) := by decide +kernel
theorem dX8_nearest_44 : decode cX8_nearest 44 = .ok (.if_icmp .eq 22, 3) := by decide +kernel
theorem dX8_nearest_47 : decode cX8_nearest 47 = .ok (.aload_n 0, 1) := by decide +kernel
theorem dX8_nearest_48 : decode cX8_nearest 48 = .ok (.iload 5, 2) := by decide +kernel
theorem dX8_nearest_50 : decode cX8_nearest 50 = .ok (.iload_n 1, 1) := by decide +kernel
theorem dX8_nearest_51 : decode cX8_nearest 51 = .ok (.iload_n 2, 1) := by decide +kernel
theorem dX8_nearest_52 : decode cX8_nearest 52 = .ok (.invokevirtual 181, 3) := by decide +kernel
theorem dX8_nearest_55 : decode cX8_nearest 55 = .ok (.aload_n 0, 1) := by decide +kernel
theorem dX8_nearest_56 : decode cX8_nearest 56 = .ok (.iload 4, 2) := by decide +kernel
theorem dX8_nearest_58 : decode cX8_nearest 58 = .ok (.iload_n 1, 1) := by decide +kernel
theorem dX8_nearest_59 : decode cX8_nearest 59 = .ok (.iload_n 2, 1) := by decide +kernel
theorem dX8_nearest_60 : decode cX8_nearest 60 = .ok (.invokevirtual 181, 3) := by decide +kernel
theorem dX8_nearest_63 : decode cX8_nearest 63 = .ok (.if_icmp .ge 8, 3) := by decide +kernel
theorem dX8_nearest_66 : decode cX8_nearest 66 = .ok (.iload 5, 2) := by decide +kernel
theorem dX8_nearest_68 : decode cX8_nearest 68 = .ok (.goto 5, 3) := by decide +kernel
theorem dX8_nearest_71 : decode cX8_nearest 71 = .ok (.iload 4, 2) := by decide +kernel
theorem dX8_nearest_73 : decode cX8_nearest 73 = .ok (.istore 4, 2) := by decide +kernel
theorem dX8_nearest_75 : decode cX8_nearest 75 = .ok (.iinc 5 1, 3) := by decide +kernel
theorem dX8_nearest_78 : decode cX8_nearest 78 = .ok (.goto (-49), 3) := by decide +kernel
theorem dX8_nearest_81 : decode cX8_nearest 81 = .ok (.iload 4, 2) := by decide +kernel
theorem dX8_nearest_83 : decode cX8_nearest 83 = .ok (.bipush (-6), 2) := by decide +kernel
theorem dX8_nearest_85 : decode cX8_nearest 85 = .ok (.if_icmp .eq 7, 3) := by decide +kernel
theorem dX8_nearest_88 : decode cX8_nearest 88 = .ok (.iload_n 3, 1) := by decide +kernel
theorem dX8_nearest_89 : decode cX8_nearest 89 = .ok (.ifCond .ne 8, 3) := by decide +kernel
theorem dX8_nearest_92 : decode cX8_nearest 92 = .ok (.iload 4, 2) := by decide +kernel
theorem dX8_nearest_94 : decode cX8_nearest 94 = .ok (.goto 11, 3) := by decide +kernel
theorem dX8_nearest_97 : decode cX8_nearest 97 = .ok (.aload_n 0, 1) := by decide +kernel
theorem dX8_nearest_98 : decode cX8_nearest 98 = .ok (.iload 4, 2) := by decide +kernel
theorem dX8_nearest_100 : decode cX8_nearest 100 = .ok (.iload_n 1, 1) := by decide +kernel
theorem dX8_nearest_101 : decode cX8_nearest 101 = .ok (.iload_n 2, 1) := by decide +kernel
theorem dX8_nearest_102 : decode cX8_nearest 102 = .ok (.invokevirtual 181, 3) := by decide +kernel
theorem dX8_nearest_105 : decode cX8_nearest 105 = .ok (.ireturn, 1) := by decide +kernel
set_option maxRecDepth 20000 in
theorem ggX8_ifPut_X8_isPlace : GoodIn wsX8_ifPut wsX8_isPlace := goodIn_r _ [6, 7, 8, 5, 9] (by decide +kernel) (by decide +kernel)
set_option maxRecDepth 20000 in
theorem gX8_ifPut_X8_isPlace : GoodIn wsX8_ifPut (va_wsS RX8 89 yX8_isPlace wsX8_isPlace) := goodIn_app (goodIn_of _ (by decide +kernel)) ggX8_ifPut_X8_isPlace
set_option maxRecDepth 20000 in
theorem ggX8_ifPut_X8_in : GoodIn wsX8_ifPut wsX8_in := goodIn_r _ [9] (by decide +kernel) (by decide +kernel)
set_option maxRecDepth 20000 in
theorem gX8_ifPut_X8_in : GoodIn wsX8_ifPut (va_wsS RX8 43 yX8_in wsX8_in) := goodIn_app (goodIn_of _ (by decide +kernel)) ggX8_ifPut_X8_in
set_option maxRecDepth 20000 in
theorem ggX8_ifPut_X8_pointError : GoodIn wsX8_ifPut wsX8_pointError := goodIn_r _ [13, 1, 3, 4, 5, 6, 7, 8, 9, 14, 15, 16, 59, 60, 61, 62, 63, 64, 65, 66, 67, 68, 69, 70, 71, 72] (by decide +kernel) (by decide +kernel)
set_option maxRecDepth 20000 in
theorem gX8_ifPut_X8_pointError : GoodIn wsX8_ifPut (wsV RX8 99 RX8 yX8_pointError wsX8_pointError) := goodIn_app (goodIn_of _ (by decide +kernel)) ggX8_ifPut_X8_pointError
set_option maxRecDepth 20000 in
theorem ggX8_ifPut_X8_lays : GoodIn wsX8_ifPut wsX8_lays := goodIn_r _ [19] (by decide +kernel) (by decide +kernel)
set_option maxRecDepth 20000 in
theorem gX8_ifPut_X8_lays : GoodIn wsX8_ifPut (va_wsS RX8 39 yX8_lays wsX8_lays) := goodIn_app (goodIn_of _ (by decide +kernel)) ggX8_ifPut_X8_lays
set_option maxRecDepth 20000 in
theorem ggX8_ifPut_X8_comes : GoodIn wsX8_ifPut wsX8_comes := goodIn_r _ [22, 23, 24, 5, 25] (by decide +kernel) (by decide +kernel)
set_option maxRecDepth 20000 in
theorem gX8_ifPut_X8_comes : GoodIn wsX8_ifPut (va_wsS RX8 102 yX8_comes wsX8_comes) := goodIn_app (goodIn_of _ (by decide +kernel)) ggX8_ifPut_X8_comes
set_option maxRecDepth 20000 in
theorem ggX8_ifPut_X8_allLeaves : GoodIn wsX8_ifPut wsX8_allLeaves := goodIn_r _ [28, 29, 30, 5, 31, 32, 33, 34, 35, 36, 37, 38, 39, 40, 41, 42, 43, 44, 45, 46, 47, 48, 49, 50, 51, 52, 53, 54, 55, 56, 57, 58] (by decide +kernel) (by decide +kernel)
set_option maxRecDepth 20000 in
theorem gX8_ifPut_X8_allLeaves : GoodIn wsX8_ifPut (va_wsS RX8 106 yX8_allLeaves wsX8_allLeaves) := goodIn_app (goodIn_of _ (by decide +kernel)) ggX8_ifPut_X8_allLeaves
set_option maxRecDepth 20000 in
theorem ggX8_ifPut_X8_pathOf : GoodIn wsX8_ifPut wsX8_pathOf := goodIn_r _ [55] (by decide +kernel) (by decide +kernel)
set_option maxRecDepth 20000 in
theorem gX8_ifPut_X8_pathOf : GoodIn wsX8_ifPut (va_wsS RX8 51 yX8_pathOf wsX8_pathOf) := goodIn_app (goodIn_of _ (by decide +kernel)) ggX8_ifPut_X8_pathOf
set_option maxRecDepth 20000 in
theorem ggX8_ifPut_X8_leafOf : GoodIn wsX8_ifPut wsX8_leafOf := goodIn_r _ [34, 35, 36, 5, 37, 38, 39, 40, 41, 42, 43, 44, 45, 46, 47, 48, 49, 50, 51, 52, 53, 54, 55] (by decide +kernel) (by decide +kernel)
set_option maxRecDepth 20000 in
theorem gX8_ifPut_X8_leafOf : GoodIn wsX8_ifPut (va_wsS RX8 75 yX8_leafOf wsX8_leafOf) := goodIn_app (goodIn_of _ (by decide +kernel)) ggX8_ifPut_X8_leafOf
set_option maxRecDepth 20000 in
theorem ggX8_ifPut_X8_depthOf : GoodIn wsX8_ifPut wsX8_depthOf := goodIn_r _ [43] (by decide +kernel) (by decide +kernel)
set_option maxRecDepth 20000 in
theorem gX8_ifPut_X8_depthOf : GoodIn wsX8_ifPut (va_wsS RX8 47 yX8_depthOf wsX8_depthOf) := goodIn_app (goodIn_of _ (by decide +kernel)) ggX8_ifPut_X8_depthOf
theorem dX8_ifPut_0 : decode cX8_ifPut 0 = .ok (.iload_n 1, 1) := by decide +kernel
theorem dX8_ifPut_1 : decode cX8_ifPut 1 = .ok (.iload_n 2, 1) := by decide +kernel
theorem dX8_ifPut_2 : decode cX8_ifPut 2 = .ok (.invokestatic 89, 3) := by decide +kernel
theorem dX8_ifPut_5 : decode cX8_ifPut 5 = .ok (.ifCond .ne 5, 3) := by decide +kernel
theorem dX8_ifPut_8 : decode cX8_ifPut 8 = .ok (.iconst (-1), 1) := by decide +kernel
theorem dX8_ifPut_9 : decode cX8_ifPut 9 = .ok (.ireturn, 1) := by decide +kernel
theorem dX8_ifPut_10 : decode cX8_ifPut 10 = .ok (.iload_n 3, 1) := by decide +kernel
theorem dX8_ifPut_11 : decode cX8_ifPut 11 = .ok (.iconst 0, 1) := by decide +kernel
theorem dX8_ifPut_12 : decode cX8_ifPut 12 = .ok (.iconst 1, 1) := by decide +kernel
theorem dX8_ifPut_13 : decode cX8_ifPut 13 = .ok (.invokestatic 43, 3) := by decide +kernel
theorem dX8_ifPut_16 : decode cX8_ifPut 16 = .ok (.ifCond .ne 6, 3) := by decide +kernel
theorem dX8_ifPut_19 : decode cX8_ifPut 19 = .ok (.bipush (-2), 2) := by decide +kernel
theorem dX8_ifPut_21 : decode cX8_ifPut 21 = .ok (.ireturn, 1) := by decide +kernel
theorem dX8_ifPut_22 : decode cX8_ifPut 22 = .ok (.aload_n 0, 1) := by decide +kernel
theorem dX8_ifPut_23 : decode cX8_ifPut 23 = .ok (.iload_n 1, 1) := by decide +kernel
theorem dX8_ifPut_24 : decode cX8_ifPut 24 = .ok (.iload_n 2, 1) := by decide +kernel
theorem dX8_ifPut_25 : decode cX8_ifPut 25 = .ok (.invokevirtual 99, 3) := by decide +kernel
theorem dX8_ifPut_28 : decode cX8_ifPut 28 = .ok (.istore 4, 2) := by decide +kernel
theorem dX8_ifPut_30 : decode cX8_ifPut 30 = .ok (.iload 4, 2) := by decide +kernel
theorem dX8_ifPut_32 : decode cX8_ifPut 32 = .ok (.ifCond .ge 6, 3) := by decide +kernel
theorem dX8_ifPut_35 : decode cX8_ifPut 35 = .ok (.iload 4, 2) := by decide +kernel
theorem dX8_ifPut_37 : decode cX8_ifPut 37 = .ok (.ireturn, 1) := by decide +kernel
theorem dX8_ifPut_38 : decode cX8_ifPut 38 = .ok (.aload_n 0, 1) := by decide +kernel
theorem dX8_ifPut_39 : decode cX8_ifPut 39 = .ok (.getfield 7, 3) := by decide +kernel
theorem dX8_ifPut_42 : decode cX8_ifPut 42 = .ok (.iconst 0, 1) := by decide +kernel
theorem dX8_ifPut_43 : decode cX8_ifPut 43 = .ok (.aload_n 0, 1) := by decide +kernel
theorem dX8_ifPut_44 : decode cX8_ifPut 44 = .ok (.getfield 13, 3) := by decide +kernel
theorem dX8_ifPut_47 : decode cX8_ifPut 47 = .ok (.iconst 0, 1) := by decide +kernel
theorem dX8_ifPut_48 : decode cX8_ifPut 48 = .ok (.invokestatic 39, 3) := by decide +kernel
theorem dX8_ifPut_51 : decode cX8_ifPut 51 = .ok (.aload_n 0, 1) := by decide +kernel
theorem dX8_ifPut_52 : decode cX8_ifPut 52 = .ok (.getfield 13, 3) := by decide +kernel
theorem dX8_ifPut_55 : decode cX8_ifPut 55 = .ok (.iload_n 1, 1) := by decide +kernel
theorem dX8_ifPut_56 : decode cX8_ifPut 56 = .ok (.iload_n 2, 1) := by decide +kernel
theorem dX8_ifPut_57 : decode cX8_ifPut 57 = .ok (.invokestatic 102, 3) := by decide +kernel
theorem dX8_ifPut_60 : decode cX8_ifPut 60 = .ok (.iload_n 3, 1) := by decide +kernel
theorem dX8_ifPut_61 : decode cX8_ifPut 61 = .ok (.ifCond .ne 13, 3) := by decide +kernel
theorem dX8_ifPut_64 : decode cX8_ifPut 64 = .ok (.aload_n 0, 1) := by decide +kernel
theorem dX8_ifPut_65 : decode cX8_ifPut 65 = .ok (.getfield 13, 3) := by decide +kernel
theorem dX8_ifPut_68 : decode cX8_ifPut 68 = .ok (.invokestatic 106, 3) := by decide +kernel
theorem dX8_ifPut_71 : decode cX8_ifPut 71 = .ok (.goto 18, 3) := by decide +kernel
theorem dX8_ifPut_74 : decode cX8_ifPut 74 = .ok (.aload_n 0, 1) := by decide +kernel
theorem dX8_ifPut_75 : decode cX8_ifPut 75 = .ok (.getfield 13, 3) := by decide +kernel
theorem dX8_ifPut_78 : decode cX8_ifPut 78 = .ok (.iload_n 1, 1) := by decide +kernel
theorem dX8_ifPut_79 : decode cX8_ifPut 79 = .ok (.iload_n 2, 1) := by decide +kernel
theorem dX8_ifPut_80 : decode cX8_ifPut 80 = .ok (.invokestatic 51, 3) := by decide +kernel
theorem dX8_ifPut_83 : decode cX8_ifPut 83 = .ok (.invokestatic 75, 3) := by decide +kernel
theorem dX8_ifPut_86 : decode cX8_ifPut 86 = .ok (.invokestatic 47, 3) := by decide +kernel
theorem dX8_ifPut_89 : decode cX8_ifPut 89 = .ok (.ireturn, 1) := by decide +kernel
set_option maxRecDepth 20000 in
theorem ggX8_leastFull_X8_in : GoodIn wsX8_leastFull wsX8_in := goodIn_r _ [6] (by decide +kernel) (by decide +kernel)
set_option maxRecDepth 20000 in
theorem gX8_leastFull_X8_in : GoodIn wsX8_leastFull (va_wsS RX8 43 yX8_in wsX8_in) := goodIn_app (goodIn_of _ (by decide +kernel)) ggX8_leastFull_X8_in
set_option maxRecDepth 20000 in
theorem ggX8_leastFull_X8_lays : GoodIn wsX8_leastFull wsX8_lays := goodIn_r _ [9] (by decide +kernel) (by decide +kernel)
set_option maxRecDepth 20000 in
theorem gX8_leastFull_X8_lays : GoodIn wsX8_leastFull (va_wsS RX8 39 yX8_lays wsX8_lays) := goodIn_app (goodIn_of _ (by decide +kernel)) ggX8_leastFull_X8_lays
set_option maxRecDepth 20000 in
theorem ggX8_leastFull_X8_allLeaves : GoodIn wsX8_leastFull wsX8_allLeaves := goodIn_r _ [12, 13, 14, 5, 15, 16, 17, 18, 19, 20, 21, 22, 23, 24, 25, 26, 27, 28, 29, 30, 31, 32, 33, 34, 35, 36, 37, 38, 39, 40, 41, 42] (by decide +kernel) (by decide +kernel)
set_option maxRecDepth 20000 in
theorem gX8_leastFull_X8_allLeaves : GoodIn wsX8_leastFull (va_wsS RX8 106 yX8_allLeaves wsX8_allLeaves) := goodIn_app (goodIn_of _ (by decide +kernel)) ggX8_leastFull_X8_allLeaves
theorem dX8_leastFull_0 : decode cX8_leastFull 0 = .ok (.iload_n 1, 1) := by decide +kernel
theorem dX8_leastFull_1 : decode cX8_leastFull 1 = .ok (.iconst 1, 1) := by decide +kernel
theorem dX8_leastFull_2 : decode cX8_leastFull 2 = .ok (.sipush 4096, 3) := by decide +kernel
theorem dX8_leastFull_5 : decode cX8_leastFull 5 = .ok (.invokestatic 43, 3) := by decide +kernel
theorem dX8_leastFull_8 : decode cX8_leastFull 8 = .ok (.ifCond .ne 6, 3) := by decide +kernel
theorem dX8_leastFull_11 : decode cX8_leastFull 11 = .ok (.bipush (-2), 2) := by decide +kernel
theorem dX8_leastFull_13 : decode cX8_leastFull 13 = .ok (.ireturn, 1) := by decide +kernel
theorem dX8_leastFull_14 : decode cX8_leastFull 14 = .ok (.aload_n 0, 1) := by decide +kernel
theorem dX8_leastFull_15 : decode cX8_leastFull 15 = .ok (.getfield 7, 3) := by decide +kernel
theorem dX8_leastFull_18 : decode cX8_leastFull 18 = .ok (.iconst 0, 1) := by decide +kernel
theorem dX8_leastFull_19 : decode cX8_leastFull 19 = .ok (.aload_n 0, 1) := by decide +kernel
theorem dX8_leastFull_20 : decode cX8_leastFull 20 = .ok (.getfield 13, 3) := by decide +kernel
theorem dX8_leastFull_23 : decode cX8_leastFull 23 = .ok (.iconst 0, 1) := by decide +kernel
theorem dX8_leastFull_24 : decode cX8_leastFull 24 = .ok (.invokestatic 39, 3) := by decide +kernel
theorem dX8_leastFull_27 : decode cX8_leastFull 27 = .ok (.iconst 1, 1) := by decide +kernel
theorem dX8_leastFull_28 : decode cX8_leastFull 28 = .ok (.istore_n 2, 1) := by decide +kernel
theorem dX8_leastFull_29 : decode cX8_leastFull 29 = .ok (.iload_n 2, 1) := by decide +kernel
theorem dX8_leastFull_30 : decode cX8_leastFull 30 = .ok (.bipush 9, 2) := by decide +kernel
theorem dX8_leastFull_32 : decode cX8_leastFull 32 = .ok (.if_icmp .ge 29, 3) := by decide +kernel
theorem dX8_leastFull_35 : decode cX8_leastFull 35 = .ok (.aload_n 0, 1) := by decide +kernel
theorem dX8_leastFull_36 : decode cX8_leastFull 36 = .ok (.getfield 13, 3) := by decide +kernel
theorem dX8_leastFull_39 : decode cX8_leastFull 39 = .ok (.iconst 1, 1) := by decide +kernel
theorem dX8_leastFull_40 : decode cX8_leastFull 40 = .ok (.iload_n 2, 1) := by decide +kernel
theorem dX8_leastFull_41 : decode cX8_leastFull 41 = .ok (.iastore, 1) := by decide +kernel
theorem dX8_leastFull_42 : decode cX8_leastFull 42 = .ok (.aload_n 0, 1) := by decide +kernel
theorem dX8_leastFull_43 : decode cX8_leastFull 43 = .ok (.getfield 13, 3) := by decide +kernel
theorem dX8_leastFull_46 : decode cX8_leastFull 46 = .ok (.invokestatic 106, 3) := by decide +kernel
theorem dX8_leastFull_49 : decode cX8_leastFull 49 = .ok (.iload_n 1, 1) := by decide +kernel
theorem dX8_leastFull_50 : decode cX8_leastFull 50 = .ok (.if_icmp .gt 5, 3) := by decide +kernel
theorem dX8_leastFull_53 : decode cX8_leastFull 53 = .ok (.iload_n 2, 1) := by decide +kernel
theorem dX8_leastFull_54 : decode cX8_leastFull 54 = .ok (.ireturn, 1) := by decide +kernel
theorem dX8_leastFull_55 : decode cX8_leastFull 55 = .ok (.iinc 2 1, 3) := by decide +kernel
theorem dX8_leastFull_58 : decode cX8_leastFull 58 = .ok (.goto (-29), 3) := by decide +kernel
theorem dX8_leastFull_61 : decode cX8_leastFull 61 = .ok (.bipush (-6), 2) := by decide +kernel
theorem dX8_leastFull_63 : decode cX8_leastFull 63 = .ok (.ireturn, 1) := by decide +kernel
set_option maxRecDepth 20000 in
theorem ggX8_put_X8_in : GoodIn wsX8_put wsX8_in := goodIn_r _ [7] (by decide +kernel) (by decide +kernel)
set_option maxRecDepth 20000 in
theorem gX8_put_X8_in : GoodIn wsX8_put (va_wsS RX8 43 yX8_in wsX8_in) := goodIn_app (goodIn_of _ (by decide +kernel)) ggX8_put_X8_in
theorem dX8_put_0 : decode cX8_put 0 = .ok (.iconst 0, 1) := by decide +kernel
theorem dX8_put_1 : decode cX8_put 1 = .ok (.istore_n 3, 1) := by decide +kernel
theorem dX8_put_2 : decode cX8_put 2 = .ok (.lload_n 1, 1) := by decide +kernel
theorem dX8_put_3 : decode cX8_put 3 = .ok (.lstore 4, 2) := by decide +kernel
theorem dX8_put_5 : decode cX8_put 5 = .ok (.iconst 1, 1) := by decide +kernel
theorem dX8_put_6 : decode cX8_put 6 = .ok (.istore 6, 2) := by decide +kernel
theorem dX8_put_8 : decode cX8_put 8 = .ok (.iload_n 3, 1) := by decide +kernel
theorem dX8_put_9 : decode cX8_put 9 = .ok (.bipush 8, 2) := by decide +kernel
theorem dX8_put_11 : decode cX8_put 11 = .ok (.if_icmp .ge 56, 3) := by decide +kernel
theorem dX8_put_14 : decode cX8_put 14 = .ok (.lload 4, 2) := by decide +kernel
theorem dX8_put_16 : decode cX8_put 16 = .ok (.ldc2_w 185, 3) := by decide +kernel
theorem dX8_put_19 : decode cX8_put 19 = .ok (.land, 1) := by decide +kernel
theorem dX8_put_20 : decode cX8_put 20 = .ok (.lconst 0, 1) := by decide +kernel
theorem dX8_put_21 : decode cX8_put 21 = .ok (.lcmp, 1) := by decide +kernel
theorem dX8_put_22 : decode cX8_put 22 = .ok (.ifCond .eq 45, 3) := by decide +kernel
theorem dX8_put_25 : decode cX8_put 25 = .ok (.iload 6, 2) := by decide +kernel
theorem dX8_put_27 : decode cX8_put 27 = .ok (.ifCond .eq 24, 3) := by decide +kernel
theorem dX8_put_30 : decode cX8_put 30 = .ok (.lload 4, 2) := by decide +kernel
theorem dX8_put_32 : decode cX8_put 32 = .ok (.ldc2_w 185, 3) := by decide +kernel
theorem dX8_put_35 : decode cX8_put 35 = .ok (.land, 1) := by decide +kernel
theorem dX8_put_36 : decode cX8_put 36 = .ok (.l2i, 1) := by decide +kernel
theorem dX8_put_37 : decode cX8_put 37 = .ok (.bipush 33, 2) := by decide +kernel
theorem dX8_put_39 : decode cX8_put 39 = .ok (.bipush 126, 2) := by decide +kernel
theorem dX8_put_41 : decode cX8_put 41 = .ok (.invokestatic 43, 3) := by decide +kernel
theorem dX8_put_44 : decode cX8_put 44 = .ok (.ifCond .eq 7, 3) := by decide +kernel
theorem dX8_put_47 : decode cX8_put 47 = .ok (.iconst 1, 1) := by decide +kernel
theorem dX8_put_48 : decode cX8_put 48 = .ok (.goto 4, 3) := by decide +kernel
theorem dX8_put_51 : decode cX8_put 51 = .ok (.iconst 0, 1) := by decide +kernel
theorem dX8_put_52 : decode cX8_put 52 = .ok (.istore 6, 2) := by decide +kernel
theorem dX8_put_54 : decode cX8_put 54 = .ok (.lload 4, 2) := by decide +kernel
theorem dX8_put_56 : decode cX8_put 56 = .ok (.bipush 8, 2) := by decide +kernel
theorem dX8_put_58 : decode cX8_put 58 = .ok (.lushr, 1) := by decide +kernel
theorem dX8_put_59 : decode cX8_put 59 = .ok (.lstore 4, 2) := by decide +kernel
theorem dX8_put_61 : decode cX8_put 61 = .ok (.iinc 3 1, 3) := by decide +kernel
theorem dX8_put_64 : decode cX8_put 64 = .ok (.goto (-56), 3) := by decide +kernel
theorem dX8_put_67 : decode cX8_put 67 = .ok (.iload_n 3, 1) := by decide +kernel
theorem dX8_put_68 : decode cX8_put 68 = .ok (.ifCond .eq 15, 3) := by decide +kernel
theorem dX8_put_71 : decode cX8_put 71 = .ok (.iload 6, 2) := by decide +kernel
theorem dX8_put_73 : decode cX8_put 73 = .ok (.ifCond .eq 10, 3) := by decide +kernel
theorem dX8_put_76 : decode cX8_put 76 = .ok (.lload 4, 2) := by decide +kernel
theorem dX8_put_78 : decode cX8_put 78 = .ok (.lconst 0, 1) := by decide +kernel
theorem dX8_put_79 : decode cX8_put 79 = .ok (.lcmp, 1) := by decide +kernel
theorem dX8_put_80 : decode cX8_put 80 = .ok (.ifCond .eq 6, 3) := by decide +kernel
theorem dX8_put_83 : decode cX8_put 83 = .ok (.bipush (-2), 2) := by decide +kernel
theorem dX8_put_85 : decode cX8_put 85 = .ok (.ireturn, 1) := by decide +kernel
theorem dX8_put_86 : decode cX8_put 86 = .ok (.aload_n 0, 1) := by decide +kernel
theorem dX8_put_87 : decode cX8_put 87 = .ok (.getfield 160, 3) := by decide +kernel
theorem dX8_put_90 : decode cX8_put 90 = .ok (.iload_n 3, 1) := by decide +kernel
theorem dX8_put_91 : decode cX8_put 91 = .ok (.iadd, 1) := by decide +kernel
theorem dX8_put_92 : decode cX8_put 92 = .ok (.bipush 80, 2) := by decide +kernel
theorem dX8_put_94 : decode cX8_put 94 = .ok (.if_icmp .le 6, 3) := by decide +kernel
theorem dX8_put_97 : decode cX8_put 97 = .ok (.bipush (-4), 2) := by decide +kernel
theorem dX8_put_99 : decode cX8_put 99 = .ok (.ireturn, 1) := by decide +kernel
theorem dX8_put_100 : decode cX8_put 100 = .ok (.iload_n 3, 1) := by decide +kernel
theorem dX8_put_101 : decode cX8_put 101 = .ok (.iconst 1, 1) := by decide +kernel
theorem dX8_put_102 : decode cX8_put 102 = .ok (.isub, 1) := by decide +kernel
theorem dX8_put_103 : decode cX8_put 103 = .ok (.istore 7, 2) := by decide +kernel
theorem dX8_put_105 : decode cX8_put 105 = .ok (.iload 7, 2) := by decide +kernel
theorem dX8_put_107 : decode cX8_put 107 = .ok (.ifCond .lt 40, 3) := by decide +kernel
theorem dX8_put_110 : decode cX8_put 110 = .ok (.aload_n 0, 1) := by decide +kernel
theorem dX8_put_111 : decode cX8_put 111 = .ok (.getfield 26, 3) := by decide +kernel
theorem dX8_put_114 : decode cX8_put 114 = .ok (.aload_n 0, 1) := by decide +kernel
theorem dX8_put_115 : decode cX8_put 115 = .ok (.getfield 160, 3) := by decide +kernel
theorem dX8_put_118 : decode cX8_put 118 = .ok (.lload_n 1, 1) := by decide +kernel
theorem dX8_put_119 : decode cX8_put 119 = .ok (.bipush 8, 2) := by decide +kernel
theorem dX8_put_121 : decode cX8_put 121 = .ok (.iload 7, 2) := by decide +kernel
theorem dX8_put_123 : decode cX8_put 123 = .ok (.imul, 1) := by decide +kernel
theorem dX8_put_124 : decode cX8_put 124 = .ok (.lushr, 1) := by decide +kernel
theorem dX8_put_125 : decode cX8_put 125 = .ok (.ldc2_w 185, 3) := by decide +kernel
theorem dX8_put_128 : decode cX8_put 128 = .ok (.land, 1) := by decide +kernel
theorem dX8_put_129 : decode cX8_put 129 = .ok (.l2i, 1) := by decide +kernel
theorem dX8_put_130 : decode cX8_put 130 = .ok (.iastore, 1) := by decide +kernel
theorem dX8_put_131 : decode cX8_put 131 = .ok (.aload_n 0, 1) := by decide +kernel
theorem dX8_put_132 : decode cX8_put 132 = .ok (.dup, 1) := by decide +kernel
theorem dX8_put_133 : decode cX8_put 133 = .ok (.getfield 160, 3) := by decide +kernel
theorem dX8_put_136 : decode cX8_put 136 = .ok (.iconst 1, 1) := by decide +kernel
theorem dX8_put_137 : decode cX8_put 137 = .ok (.iadd, 1) := by decide +kernel
theorem dX8_put_138 : decode cX8_put 138 = .ok (.putfield 160, 3) := by decide +kernel
theorem dX8_put_141 : decode cX8_put 141 = .ok (.iinc 7 (-1), 3) := by decide +kernel
theorem dX8_put_144 : decode cX8_put 144 = .ok (.goto (-39), 3) := by decide +kernel
theorem dX8_put_147 : decode cX8_put 147 = .ok (.aload_n 0, 1) := by decide +kernel
theorem dX8_put_148 : decode cX8_put 148 = .ok (.getfield 160, 3) := by decide +kernel
theorem dX8_put_151 : decode cX8_put 151 = .ok (.ireturn, 1) := by decide +kernel
theorem dX8_wipe_0 : decode cX8_wipe 0 = .ok (.aload_n 0, 1) := by decide +kernel
theorem dX8_wipe_1 : decode cX8_wipe 1 = .ok (.getfield 160, 3) := by decide +kernel
theorem dX8_wipe_4 : decode cX8_wipe 4 = .ok (.istore_n 1, 1) := by decide +kernel
theorem dX8_wipe_5 : decode cX8_wipe 5 = .ok (.aload_n 0, 1) := by decide +kernel
theorem dX8_wipe_6 : decode cX8_wipe 6 = .ok (.iconst 0, 1) := by decide +kernel
theorem dX8_wipe_7 : decode cX8_wipe 7 = .ok (.putfield 160, 3) := by decide +kernel
theorem dX8_wipe_10 : decode cX8_wipe 10 = .ok (.iload_n 1, 1) := by decide +kernel
theorem dX8_wipe_11 : decode cX8_wipe 11 = .ok (.ireturn, 1) := by decide +kernel
set_option maxRecDepth 20000 in
theorem ggX8_sees_X8_in : GoodIn wsX8_sees wsX8_in := goodIn_r _ [7] (by decide +kernel) (by decide +kernel)
set_option maxRecDepth 20000 in
theorem gX8_sees_X8_in : GoodIn wsX8_sees (va_wsS RX8 43 yX8_in wsX8_in) := goodIn_app (goodIn_of _ (by decide +kernel)) ggX8_sees_X8_in
theorem dX8_sees_0 : decode cX8_sees 0 = .ok (.aload_n 0, 1) := by decide +kernel
theorem dX8_sees_1 : decode cX8_sees 1 = .ok (.getfield 187, 3) := by decide +kernel
theorem dX8_sees_4 : decode cX8_sees 4 = .ok (.aload_n 0, 1) := by decide +kernel
theorem dX8_sees_5 : decode cX8_sees 5 = .ok (.getfield 160, 3) := by decide +kernel
theorem dX8_sees_8 : decode cX8_sees 8 = .ok (.if_icmp .ge 24, 3) := by decide +kernel
theorem dX8_sees_11 : decode cX8_sees 11 = .ok (.aload_n 0, 1) := by decide +kernel
theorem dX8_sees_12 : decode cX8_sees 12 = .ok (.getfield 26, 3) := by decide +kernel
theorem dX8_sees_15 : decode cX8_sees 15 = .ok (.aload_n 0, 1) := by decide +kernel
theorem dX8_sees_16 : decode cX8_sees 16 = .ok (.getfield 187, 3) := by decide +kernel
theorem dX8_sees_19 : decode cX8_sees 19 = .ok (.iaload, 1) := by decide +kernel
theorem dX8_sees_20 : decode cX8_sees 20 = .ok (.iload_n 1, 1) := by decide +kernel
theorem dX8_sees_21 : decode cX8_sees 21 = .ok (.iload_n 2, 1) := by decide +kernel
theorem dX8_sees_22 : decode cX8_sees 22 = .ok (.invokestatic 43, 3) := by decide +kernel
theorem dX8_sees_25 : decode cX8_sees 25 = .ok (.ifCond .eq 7, 3) := by decide +kernel
theorem dX8_sees_28 : decode cX8_sees 28 = .ok (.iconst 1, 1) := by decide +kernel
theorem dX8_sees_29 : decode cX8_sees 29 = .ok (.goto 4, 3) := by decide +kernel
theorem dX8_sees_32 : decode cX8_sees 32 = .ok (.iconst 0, 1) := by decide +kernel
theorem dX8_sees_33 : decode cX8_sees 33 = .ok (.ireturn, 1) := by decide +kernel
set_option maxRecDepth 20000 in
theorem ggX8_takes_X8_sees : GoodIn wsX8_takes wsX8_sees := goodIn_r _ [6, 1, 7, 8, 9, 10, 5, 11, 12, 13, 14, 15, 16, 17, 18, 19, 20, 21, 22, 23, 24, 25] (by decide +kernel) (by decide +kernel)
set_option maxRecDepth 20000 in
theorem gX8_takes_X8_sees : GoodIn wsX8_takes (wsV RX8 190 RX8 yX8_sees wsX8_sees) := goodIn_app (goodIn_of _ (by decide +kernel)) ggX8_takes_X8_sees
theorem dX8_takes_0 : decode cX8_takes 0 = .ok (.aload_n 0, 1) := by decide +kernel
theorem dX8_takes_1 : decode cX8_takes 1 = .ok (.iload_n 1, 1) := by decide +kernel
theorem dX8_takes_2 : decode cX8_takes 2 = .ok (.iload_n 1, 1) := by decide +kernel
theorem dX8_takes_3 : decode cX8_takes 3 = .ok (.invokevirtual 190, 3) := by decide +kernel
theorem dX8_takes_6 : decode cX8_takes 6 = .ok (.istore_n 2, 1) := by decide +kernel
theorem dX8_takes_7 : decode cX8_takes 7 = .ok (.aload_n 0, 1) := by decide +kernel
theorem dX8_takes_8 : decode cX8_takes 8 = .ok (.dup, 1) := by decide +kernel
theorem dX8_takes_9 : decode cX8_takes 9 = .ok (.getfield 187, 3) := by decide +kernel
theorem dX8_takes_12 : decode cX8_takes 12 = .ok (.iload_n 2, 1) := by decide +kernel
theorem dX8_takes_13 : decode cX8_takes 13 = .ok (.ifCond .eq 7, 3) := by decide +kernel
theorem dX8_takes_16 : decode cX8_takes 16 = .ok (.iconst 1, 1) := by decide +kernel
theorem dX8_takes_17 : decode cX8_takes 17 = .ok (.goto 4, 3) := by decide +kernel
theorem dX8_takes_20 : decode cX8_takes 20 = .ok (.iconst 0, 1) := by decide +kernel
theorem dX8_takes_21 : decode cX8_takes 21 = .ok (.iadd, 1) := by decide +kernel
theorem dX8_takes_22 : decode cX8_takes 22 = .ok (.putfield 187, 3) := by decide +kernel
theorem dX8_takes_25 : decode cX8_takes 25 = .ok (.iload_n 2, 1) := by decide +kernel
theorem dX8_takes_26 : decode cX8_takes 26 = .ok (.ireturn, 1) := by decide +kernel
set_option maxRecDepth 20000 in
theorem ggX8_isTold_X8_sees : GoodIn wsX8_isTold wsX8_sees := goodIn_r _ [9, 2, 10, 1, 11, 12, 8, 13, 14, 15, 16, 17, 18, 19, 20, 21, 22, 23, 24, 25, 26, 27] (by decide +kernel) (by decide +kernel)
set_option maxRecDepth 20000 in
theorem gX8_isTold_X8_sees : GoodIn wsX8_isTold (wsV RX8 190 RX8 yX8_sees wsX8_sees) := goodIn_app (goodIn_of _ (by decide +kernel)) ggX8_isTold_X8_sees
theorem dX8_isTold_0 : decode cX8_isTold 0 = .ok (.aload_n 0, 1) := by decide +kernel
theorem dX8_isTold_1 : decode cX8_isTold 1 = .ok (.bipush 48, 2) := by decide +kernel
theorem dX8_isTold_3 : decode cX8_isTold 3 = .ok (.bipush 57, 2) := by decide +kernel
theorem dX8_isTold_5 : decode cX8_isTold 5 = .ok (.invokevirtual 190, 3) := by decide +kernel
theorem dX8_isTold_8 : decode cX8_isTold 8 = .ok (.ifCond .ne 5, 3) := by decide +kernel
theorem dX8_isTold_11 : decode cX8_isTold 11 = .ok (.iconst 0, 1) := by decide +kernel
theorem dX8_isTold_12 : decode cX8_isTold 12 = .ok (.ireturn, 1) := by decide +kernel
theorem dX8_isTold_13 : decode cX8_isTold 13 = .ok (.aload_n 0, 1) := by decide +kernel
theorem dX8_isTold_14 : decode cX8_isTold 14 = .ok (.getfield 26, 3) := by decide +kernel
theorem dX8_isTold_17 : decode cX8_isTold 17 = .ok (.aload_n 0, 1) := by decide +kernel
theorem dX8_isTold_18 : decode cX8_isTold 18 = .ok (.getfield 187, 3) := by decide +kernel
theorem dX8_isTold_21 : decode cX8_isTold 21 = .ok (.iaload, 1) := by decide +kernel
theorem dX8_isTold_22 : decode cX8_isTold 22 = .ok (.bipush 48, 2) := by decide +kernel
theorem dX8_isTold_24 : decode cX8_isTold 24 = .ok (.isub, 1) := by decide +kernel
theorem dX8_isTold_25 : decode cX8_isTold 25 = .ok (.istore_n 2, 1) := by decide +kernel
theorem dX8_isTold_26 : decode cX8_isTold 26 = .ok (.aload_n 0, 1) := by decide +kernel
theorem dX8_isTold_27 : decode cX8_isTold 27 = .ok (.dup, 1) := by decide +kernel
theorem dX8_isTold_28 : decode cX8_isTold 28 = .ok (.getfield 187, 3) := by decide +kernel
theorem dX8_isTold_31 : decode cX8_isTold 31 = .ok (.iconst 1, 1) := by decide +kernel
theorem dX8_isTold_32 : decode cX8_isTold 32 = .ok (.iadd, 1) := by decide +kernel
theorem dX8_isTold_33 : decode cX8_isTold 33 = .ok (.putfield 187, 3) := by decide +kernel
theorem dX8_isTold_36 : decode cX8_isTold 36 = .ok (.iload_n 2, 1) := by decide +kernel
theorem dX8_isTold_37 : decode cX8_isTold 37 = .ok (.ifCond .le 64, 3) := by decide +kernel
theorem dX8_isTold_40 : decode cX8_isTold 40 = .ok (.aload_n 0, 1) := by decide +kernel
theorem dX8_isTold_41 : decode cX8_isTold 41 = .ok (.bipush 48, 2) := by decide +kernel
theorem dX8_isTold_43 : decode cX8_isTold 43 = .ok (.bipush 57, 2) := by decide +kernel
theorem dX8_isTold_45 : decode cX8_isTold 45 = .ok (.invokevirtual 190, 3) := by decide +kernel
theorem dX8_isTold_48 : decode cX8_isTold 48 = .ok (.ifCond .eq 53, 3) := by decide +kernel
theorem dX8_isTold_51 : decode cX8_isTold 51 = .ok (.bipush 10, 2) := by decide +kernel
theorem dX8_isTold_53 : decode cX8_isTold 53 = .ok (.iload_n 2, 1) := by decide +kernel
theorem dX8_isTold_54 : decode cX8_isTold 54 = .ok (.imul, 1) := by decide +kernel
theorem dX8_isTold_55 : decode cX8_isTold 55 = .ok (.aload_n 0, 1) := by decide +kernel
theorem dX8_isTold_56 : decode cX8_isTold 56 = .ok (.getfield 26, 3) := by decide +kernel
theorem dX8_isTold_59 : decode cX8_isTold 59 = .ok (.aload_n 0, 1) := by decide +kernel
theorem dX8_isTold_60 : decode cX8_isTold 60 = .ok (.getfield 187, 3) := by decide +kernel
theorem dX8_isTold_63 : decode cX8_isTold 63 = .ok (.iaload, 1) := by decide +kernel
theorem dX8_isTold_64 : decode cX8_isTold 64 = .ok (.iadd, 1) := by decide +kernel
theorem dX8_isTold_65 : decode cX8_isTold 65 = .ok (.bipush 48, 2) := by decide +kernel
theorem dX8_isTold_67 : decode cX8_isTold 67 = .ok (.isub, 1) := by decide +kernel
theorem dX8_isTold_68 : decode cX8_isTold 68 = .ok (.bipush 64, 2) := by decide +kernel
theorem dX8_isTold_70 : decode cX8_isTold 70 = .ok (.if_icmp .ge 31, 3) := by decide +kernel
theorem dX8_isTold_73 : decode cX8_isTold 73 = .ok (.bipush 10, 2) := by decide +kernel
theorem dX8_isTold_75 : decode cX8_isTold 75 = .ok (.iload_n 2, 1) := by decide +kernel
theorem dX8_isTold_76 : decode cX8_isTold 76 = .ok (.imul, 1) := by decide +kernel
theorem dX8_isTold_77 : decode cX8_isTold 77 = .ok (.aload_n 0, 1) := by decide +kernel
theorem dX8_isTold_78 : decode cX8_isTold 78 = .ok (.getfield 26, 3) := by decide +kernel
theorem dX8_isTold_81 : decode cX8_isTold 81 = .ok (.aload_n 0, 1) := by decide +kernel
theorem dX8_isTold_82 : decode cX8_isTold 82 = .ok (.getfield 187, 3) := by decide +kernel
theorem dX8_isTold_85 : decode cX8_isTold 85 = .ok (.iaload, 1) := by decide +kernel
theorem dX8_isTold_86 : decode cX8_isTold 86 = .ok (.iadd, 1) := by decide +kernel
theorem dX8_isTold_87 : decode cX8_isTold 87 = .ok (.bipush 48, 2) := by decide +kernel
theorem dX8_isTold_89 : decode cX8_isTold 89 = .ok (.isub, 1) := by decide +kernel
theorem dX8_isTold_90 : decode cX8_isTold 90 = .ok (.istore_n 2, 1) := by decide +kernel
theorem dX8_isTold_91 : decode cX8_isTold 91 = .ok (.aload_n 0, 1) := by decide +kernel
theorem dX8_isTold_92 : decode cX8_isTold 92 = .ok (.dup, 1) := by decide +kernel
theorem dX8_isTold_93 : decode cX8_isTold 93 = .ok (.getfield 187, 3) := by decide +kernel
theorem dX8_isTold_96 : decode cX8_isTold 96 = .ok (.iconst 1, 1) := by decide +kernel
theorem dX8_isTold_97 : decode cX8_isTold 97 = .ok (.iadd, 1) := by decide +kernel
theorem dX8_isTold_98 : decode cX8_isTold 98 = .ok (.putfield 187, 3) := by decide +kernel
theorem dX8_isTold_101 : decode cX8_isTold 101 = .ok (.aload_n 0, 1) := by decide +kernel
theorem dX8_isTold_102 : decode cX8_isTold 102 = .ok (.getfield 32, 3) := by decide +kernel
theorem dX8_isTold_105 : decode cX8_isTold 105 = .ok (.iconst 2, 1) := by decide +kernel
theorem dX8_isTold_106 : decode cX8_isTold 106 = .ok (.aload_n 0, 1) := by decide +kernel
theorem dX8_isTold_107 : decode cX8_isTold 107 = .ok (.getfield 193, 3) := by decide +kernel
theorem dX8_isTold_110 : decode cX8_isTold 110 = .ok (.imul, 1) := by decide +kernel
theorem dX8_isTold_111 : decode cX8_isTold 111 = .ok (.iload_n 1, 1) := by decide +kernel
theorem dX8_isTold_112 : decode cX8_isTold 112 = .ok (.iadd, 1) := by decide +kernel
theorem dX8_isTold_113 : decode cX8_isTold 113 = .ok (.iload_n 2, 1) := by decide +kernel
theorem dX8_isTold_114 : decode cX8_isTold 114 = .ok (.iastore, 1) := by decide +kernel
theorem dX8_isTold_115 : decode cX8_isTold 115 = .ok (.iconst 1, 1) := by decide +kernel
theorem dX8_isTold_116 : decode cX8_isTold 116 = .ok (.ireturn, 1) := by decide +kernel
set_option maxRecDepth 20000 in
theorem ggX8_fault_X8_isTold : GoodIn wsX8_fault wsX8_isTold := goodIn_r _ [8, 9, 1, 10, 2, 11, 12, 13, 7, 14, 3, 15, 16, 17, 22, 23, 24, 25, 26, 27, 28, 29, 30, 31, 32, 33, 34, 35] (by decide +kernel) (by decide +kernel)
set_option maxRecDepth 20000 in
theorem gX8_fault_X8_isTold : GoodIn wsX8_fault (wsV RX8 196 RX8 yX8_isTold wsX8_isTold) := goodIn_app (goodIn_of _ (by decide +kernel)) ggX8_fault_X8_isTold
set_option maxRecDepth 20000 in
theorem ggX8_fault_X8_takes : GoodIn wsX8_fault wsX8_takes := goodIn_r _ [21, 1, 11, 12, 13, 7, 14, 3, 9, 15, 16, 17, 22, 23, 24, 25, 26, 27, 28, 29, 30, 31, 32, 33, 34, 35] (by decide +kernel) (by decide +kernel)
set_option maxRecDepth 20000 in
theorem gX8_fault_X8_takes : GoodIn wsX8_fault (wsV RX8 199 RX8 yX8_takes wsX8_takes) := goodIn_app (goodIn_of _ (by decide +kernel)) ggX8_fault_X8_takes
theorem dX8_fault_0 : decode cX8_fault 0 = .ok (.aload_n 0, 1) := by decide +kernel
theorem dX8_fault_1 : decode cX8_fault 1 = .ok (.iconst 0, 1) := by decide +kernel
theorem dX8_fault_2 : decode cX8_fault 2 = .ok (.putfield 187, 3) := by decide +kernel
theorem dX8_fault_5 : decode cX8_fault 5 = .ok (.aload_n 0, 1) := by decide +kernel
theorem dX8_fault_6 : decode cX8_fault 6 = .ok (.iconst 0, 1) := by decide +kernel
theorem dX8_fault_7 : decode cX8_fault 7 = .ok (.putfield 193, 3) := by decide +kernel
theorem dX8_fault_10 : decode cX8_fault 10 = .ok (.iconst 1, 1) := by decide +kernel
theorem dX8_fault_11 : decode cX8_fault 11 = .ok (.istore_n 1, 1) := by decide +kernel
theorem dX8_fault_12 : decode cX8_fault 12 = .ok (.iload_n 1, 1) := by decide +kernel
theorem dX8_fault_13 : decode cX8_fault 13 = .ok (.ifCond .eq 53, 3) := by decide +kernel
theorem dX8_fault_16 : decode cX8_fault 16 = .ok (.aload_n 0, 1) := by decide +kernel
theorem dX8_fault_17 : decode cX8_fault 17 = .ok (.iconst 0, 1) := by decide +kernel
theorem dX8_fault_18 : decode cX8_fault 18 = .ok (.invokevirtual 196, 3) := by decide +kernel
theorem dX8_fault_21 : decode cX8_fault 21 = .ok (.ifCond .eq 20, 3) := by decide +kernel
theorem dX8_fault_24 : decode cX8_fault 24 = .ok (.aload_n 0, 1) := by decide +kernel
theorem dX8_fault_25 : decode cX8_fault 25 = .ok (.bipush 44, 2) := by decide +kernel
theorem dX8_fault_27 : decode cX8_fault 27 = .ok (.invokevirtual 199, 3) := by decide +kernel
theorem dX8_fault_30 : decode cX8_fault 30 = .ok (.ifCond .eq 11, 3) := by decide +kernel
theorem dX8_fault_33 : decode cX8_fault 33 = .ok (.aload_n 0, 1) := by decide +kernel
theorem dX8_fault_34 : decode cX8_fault 34 = .ok (.iconst 1, 1) := by decide +kernel
theorem dX8_fault_35 : decode cX8_fault 35 = .ok (.invokevirtual 196, 3) := by decide +kernel
theorem dX8_fault_38 : decode cX8_fault 38 = .ok (.ifCond .ne 8, 3) := by decide +kernel
theorem dX8_fault_41 : decode cX8_fault 41 = .ok (.aload_n 0, 1) := by decide +kernel
theorem dX8_fault_42 : decode cX8_fault 42 = .ok (.getfield 187, 3) := by decide +kernel
theorem dX8_fault_45 : decode cX8_fault 45 = .ok (.ireturn, 1) := by decide +kernel
theorem dX8_fault_46 : decode cX8_fault 46 = .ok (.aload_n 0, 1) := by decide +kernel
theorem dX8_fault_47 : decode cX8_fault 47 = .ok (.dup, 1) := by decide +kernel
theorem dX8_fault_48 : decode cX8_fault 48 = .ok (.getfield 193, 3) := by decide +kernel
theorem dX8_fault_51 : decode cX8_fault 51 = .ok (.iconst 1, 1) := by decide +kernel
theorem dX8_fault_52 : decode cX8_fault 52 = .ok (.iadd, 1) := by decide +kernel
theorem dX8_fault_53 : decode cX8_fault 53 = .ok (.putfield 193, 3) := by decide +kernel
theorem dX8_fault_56 : decode cX8_fault 56 = .ok (.aload_n 0, 1) := by decide +kernel
theorem dX8_fault_57 : decode cX8_fault 57 = .ok (.bipush 59, 2) := by decide +kernel
theorem dX8_fault_59 : decode cX8_fault 59 = .ok (.invokevirtual 199, 3) := by decide +kernel
theorem dX8_fault_62 : decode cX8_fault 62 = .ok (.istore_n 1, 1) := by decide +kernel
theorem dX8_fault_63 : decode cX8_fault 63 = .ok (.goto (-51), 3) := by decide +kernel
theorem dX8_fault_66 : decode cX8_fault 66 = .ok (.aload_n 0, 1) := by decide +kernel
theorem dX8_fault_67 : decode cX8_fault 67 = .ok (.getfield 187, 3) := by decide +kernel
theorem dX8_fault_70 : decode cX8_fault 70 = .ok (.aload_n 0, 1) := by decide +kernel
theorem dX8_fault_71 : decode cX8_fault 71 = .ok (.getfield 160, 3) := by decide +kernel
theorem dX8_fault_74 : decode cX8_fault 74 = .ok (.if_icmp .ne 8, 3) := by decide +kernel
theorem dX8_fault_77 : decode cX8_fault 77 = .ok (.bipush (-6), 2) := by decide +kernel
theorem dX8_fault_79 : decode cX8_fault 79 = .ok (.goto 7, 3) := by decide +kernel
theorem dX8_fault_82 : decode cX8_fault 82 = .ok (.aload_n 0, 1) := by decide +kernel
theorem dX8_fault_83 : decode cX8_fault 83 = .ok (.getfield 187, 3) := by decide +kernel
theorem dX8_fault_86 : decode cX8_fault 86 = .ok (.ireturn, 1) := by decide +kernel
set_option maxRecDepth 20000 in
theorem ggX8_putAll_X8_fault : GoodIn wsX8_putAll wsX8_fault := goodIn_r _ [9, 10, 1, 4, 11, 12, 13, 8, 14, 15, 2, 16, 17, 18, 19, 20, 21, 22, 23, 24, 25, 26, 52, 53, 54, 55, 56, 57, 58, 59, 60, 61, 62, 63, 64, 65] (by decide +kernel) (by decide +kernel)
set_option maxRecDepth 20000 in
theorem gX8_putAll_X8_fault : GoodIn wsX8_putAll (wsV RX8 202 RX8 yX8_fault wsX8_fault) := goodIn_app (goodIn_of _ (by decide +kernel)) ggX8_putAll_X8_fault
set_option maxRecDepth 20000 in
theorem ggX8_putAll_X8_records : GoodIn wsX8_putAll wsX8_records := goodIn_r _ [30, 31, 32, 3, 33, 34, 8, 35, 52, 53, 54, 55, 56, 57, 58, 59, 60, 61, 62, 63, 64, 65] (by decide +kernel) (by decide +kernel)
set_option maxRecDepth 20000 in
theorem gX8_putAll_X8_records : GoodIn wsX8_putAll (wsV RX8 96 RX8 yX8_records wsX8_records) := goodIn_app (goodIn_of _ (by decide +kernel)) ggX8_putAll_X8_records
set_option maxRecDepth 20000 in
theorem ggX8_putAll_X8_pointError : GoodIn wsX8_putAll wsX8_pointError := goodIn_r _ [39, 3, 40, 41, 8, 42, 20, 21, 22, 43, 44, 45, 52, 53, 54, 55, 56, 57, 58, 59, 60, 61, 62, 63, 64, 65] (by decide +kernel) (by decide +kernel)
set_option maxRecDepth 20000 in
theorem gX8_putAll_X8_pointError : GoodIn wsX8_putAll (wsV RX8 99 RX8 yX8_pointError wsX8_pointError) := goodIn_app (goodIn_of _ (by decide +kernel)) ggX8_putAll_X8_pointError
set_option maxRecDepth 20000 in
theorem ggX8_putAll_X8_comes : GoodIn wsX8_putAll wsX8_comes := goodIn_r _ [48, 49, 50, 8, 51] (by decide +kernel) (by decide +kernel)
set_option maxRecDepth 20000 in
theorem gX8_putAll_X8_comes : GoodIn wsX8_putAll (va_wsS RX8 102 yX8_comes wsX8_comes) := goodIn_app (goodIn_of _ (by decide +kernel)) ggX8_putAll_X8_comes
theorem dX8_putAll_0 : decode cX8_putAll 0 = .ok (.aload_n 0, 1) := by decide +kernel
theorem dX8_putAll_1 : decode cX8_putAll 1 = .ok (.invokevirtual 202, 3) := by decide +kernel
theorem dX8_putAll_4 : decode cX8_putAll 4 = .ok (.bipush (-6), 2) := by decide +kernel
theorem dX8_putAll_6 : decode cX8_putAll 6 = .ok (.if_icmp .eq 6, 3) := by decide +kernel
theorem dX8_putAll_9 : decode cX8_putAll 9 = .ok (.bipush (-3), 2) := by decide +kernel
theorem dX8_putAll_11 : decode cX8_putAll 11 = .ok (.ireturn, 1) := by decide +kernel
theorem dX8_putAll_12 : decode cX8_putAll 12 = .ok (.aload_n 0, 1) := by decide +kernel
theorem dX8_putAll_13 : decode cX8_putAll 13 = .ok (.invokevirtual 96, 3) := by decide +kernel
theorem dX8_putAll_16 : decode cX8_putAll 16 = .ok (.iconst 0, 1) := by decide +kernel
theorem dX8_putAll_17 : decode cX8_putAll 17 = .ok (.istore_n 1, 1) := by decide +kernel
theorem dX8_putAll_18 : decode cX8_putAll 18 = .ok (.iload_n 1, 1) := by decide +kernel
theorem dX8_putAll_19 : decode cX8_putAll 19 = .ok (.aload_n 0, 1) := by decide +kernel
theorem dX8_putAll_20 : decode cX8_putAll 20 = .ok (.getfield 193, 3) := by decide +kernel
theorem dX8_putAll_23 : decode cX8_putAll 23 = .ok (.if_icmp .ge 59, 3) := by decide +kernel
theorem dX8_putAll_26 : decode cX8_putAll 26 = .ok (.aload_n 0, 1) := by decide +kernel
theorem dX8_putAll_27 : decode cX8_putAll 27 = .ok (.aload_n 0, 1) := by decide +kernel
theorem dX8_putAll_28 : decode cX8_putAll 28 = .ok (.getfield 32, 3) := by decide +kernel
theorem dX8_putAll_31 : decode cX8_putAll 31 = .ok (.iconst 2, 1) := by decide +kernel
theorem dX8_putAll_32 : decode cX8_putAll 32 = .ok (.iload_n 1, 1) := by decide +kernel
theorem dX8_putAll_33 : decode cX8_putAll 33 = .ok (.imul, 1) := by decide +kernel
theorem dX8_putAll_34 : decode cX8_putAll 34 = .ok (.iaload, 1) := by decide +kernel
theorem dX8_putAll_35 : decode cX8_putAll 35 = .ok (.aload_n 0, 1) := by decide +kernel
theorem dX8_putAll_36 : decode cX8_putAll 36 = .ok (.getfield 32, 3) := by decide +kernel
theorem dX8_putAll_39 : decode cX8_putAll 39 = .ok (.iconst 2, 1) := by decide +kernel
theorem dX8_putAll_40 : decode cX8_putAll 40 = .ok (.iload_n 1, 1) := by decide +kernel
theorem dX8_putAll_41 : decode cX8_putAll 41 = .ok (.imul, 1) := by decide +kernel
theorem dX8_putAll_42 : decode cX8_putAll 42 = .ok (.iconst 1, 1) := by decide +kernel
theorem dX8_putAll_43 : decode cX8_putAll 43 = .ok (.iadd, 1) := by decide +kernel
theorem dX8_putAll_44 : decode cX8_putAll 44 = .ok (.iaload, 1) := by decide +kernel
theorem dX8_putAll_45 : decode cX8_putAll 45 = .ok (.invokevirtual 99, 3) := by decide +kernel
theorem dX8_putAll_48 : decode cX8_putAll 48 = .ok (.ifCond .ne 34, 3) := by decide +kernel
theorem dX8_putAll_51 : decode cX8_putAll 51 = .ok (.aload_n 0, 1) := by decide +kernel
theorem dX8_putAll_52 : decode cX8_putAll 52 = .ok (.getfield 7, 3) := by decide +kernel
theorem dX8_putAll_55 : decode cX8_putAll 55 = .ok (.aload_n 0, 1) := by decide +kernel
theorem dX8_putAll_56 : decode cX8_putAll 56 = .ok (.getfield 32, 3) := by decide +kernel
theorem dX8_putAll_59 : decode cX8_putAll 59 = .ok (.iconst 2, 1) := by decide +kernel
theorem dX8_putAll_60 : decode cX8_putAll 60 = .ok (.iload_n 1, 1) := by decide +kernel
theorem dX8_putAll_61 : decode cX8_putAll 61 = .ok (.imul, 1) := by decide +kernel
theorem dX8_putAll_62 : decode cX8_putAll 62 = .ok (.iaload, 1) := by decide +kernel
theorem dX8_putAll_63 : decode cX8_putAll 63 = .ok (.aload_n 0, 1) := by decide +kernel
theorem dX8_putAll_64 : decode cX8_putAll 64 = .ok (.getfield 32, 3) := by decide +kernel
theorem dX8_putAll_67 : decode cX8_putAll 67 = .ok (.iconst 2, 1) := by decide +kernel
theorem dX8_putAll_68 : decode cX8_putAll 68 = .ok (.iload_n 1, 1) := by decide +kernel
theorem dX8_putAll_69 : decode cX8_putAll 69 = .ok (.imul, 1) := by decide +kernel
theorem dX8_putAll_70 : decode cX8_putAll 70 = .ok (.iconst 1, 1) := by decide +kernel
theorem dX8_putAll_71 : decode cX8_putAll 71 = .ok (.iadd, 1) := by decide +kernel
theorem dX8_putAll_72 : decode cX8_putAll 72 = .ok (.iaload, 1) := by decide +kernel
theorem dX8_putAll_73 : decode cX8_putAll 73 = .ok (.invokestatic 102, 3) := by decide +kernel
theorem dX8_putAll_76 : decode cX8_putAll 76 = .ok (.iinc 1 1, 3) := by decide +kernel
theorem dX8_putAll_79 : decode cX8_putAll 79 = .ok (.goto (-61), 3) := by decide +kernel
theorem dX8_putAll_82 : decode cX8_putAll 82 = .ok (.aload_n 0, 1) := by decide +kernel
theorem dX8_putAll_83 : decode cX8_putAll 83 = .ok (.iconst 0, 1) := by decide +kernel
theorem dX8_putAll_84 : decode cX8_putAll 84 = .ok (.putfield 160, 3) := by decide +kernel
theorem dX8_putAll_87 : decode cX8_putAll 87 = .ok (.iload_n 1, 1) := by decide +kernel
theorem dX8_putAll_88 : decode cX8_putAll 88 = .ok (.ireturn, 1) := by decide +kernel
set_option maxRecDepth 20000 in
theorem ggX8_undo_X8_lays : GoodIn wsX8_undo wsX8_lays := goodIn_r _ [7] (by decide +kernel) (by decide +kernel)
set_option maxRecDepth 20000 in
theorem gX8_undo_X8_lays : GoodIn wsX8_undo (va_wsS RX8 39 yX8_lays wsX8_lays) := goodIn_app (goodIn_of _ (by decide +kernel)) ggX8_undo_X8_lays
theorem dX8_undo_0 : decode cX8_undo 0 = .ok (.aload_n 0, 1) := by decide +kernel
theorem dX8_undo_1 : decode cX8_undo 1 = .ok (.getfield 35, 3) := by decide +kernel
theorem dX8_undo_4 : decode cX8_undo 4 = .ok (.ifCond .ne 6, 3) := by decide +kernel
theorem dX8_undo_7 : decode cX8_undo 7 = .ok (.bipush (-5), 2) := by decide +kernel
theorem dX8_undo_9 : decode cX8_undo 9 = .ok (.ireturn, 1) := by decide +kernel
theorem dX8_undo_10 : decode cX8_undo 10 = .ok (.aload_n 0, 1) := by decide +kernel
theorem dX8_undo_11 : decode cX8_undo 11 = .ok (.dup, 1) := by decide +kernel
theorem dX8_undo_12 : decode cX8_undo 12 = .ok (.getfield 35, 3) := by decide +kernel
theorem dX8_undo_15 : decode cX8_undo 15 = .ok (.iconst 1, 1) := by decide +kernel
theorem dX8_undo_16 : decode cX8_undo 16 = .ok (.isub, 1) := by decide +kernel
theorem dX8_undo_17 : decode cX8_undo 17 = .ok (.putfield 35, 3) := by decide +kernel
theorem dX8_undo_20 : decode cX8_undo 20 = .ok (.aload_n 0, 1) := by decide +kernel
theorem dX8_undo_21 : decode cX8_undo 21 = .ok (.getfield 16, 3) := by decide +kernel
theorem dX8_undo_24 : decode cX8_undo 24 = .ok (.bipush 116, 2) := by decide +kernel
theorem dX8_undo_26 : decode cX8_undo 26 = .ok (.aload_n 0, 1) := by decide +kernel
theorem dX8_undo_27 : decode cX8_undo 27 = .ok (.getfield 35, 3) := by decide +kernel
theorem dX8_undo_30 : decode cX8_undo 30 = .ok (.imul, 1) := by decide +kernel
theorem dX8_undo_31 : decode cX8_undo 31 = .ok (.aload_n 0, 1) := by decide +kernel
theorem dX8_undo_32 : decode cX8_undo 32 = .ok (.getfield 7, 3) := by decide +kernel
theorem dX8_undo_35 : decode cX8_undo 35 = .ok (.iconst 0, 1) := by decide +kernel
theorem dX8_undo_36 : decode cX8_undo 36 = .ok (.invokestatic 39, 3) := by decide +kernel
theorem dX8_undo_39 : decode cX8_undo 39 = .ok (.aload_n 0, 1) := by decide +kernel
theorem dX8_undo_40 : decode cX8_undo 40 = .ok (.getfield 35, 3) := by decide +kernel
theorem dX8_undo_43 : decode cX8_undo 43 = .ok (.ireturn, 1) := by decide +kernel
set_option maxRecDepth 20000 in
theorem ggX8_save_X8_in : GoodIn wsX8_save wsX8_in := goodIn_r _ [7] (by decide +kernel) (by decide +kernel)
set_option maxRecDepth 20000 in
theorem gX8_save_X8_in : GoodIn wsX8_save (va_wsS RX8 43 yX8_in wsX8_in) := goodIn_app (goodIn_of _ (by decide +kernel)) ggX8_save_X8_in
set_option maxRecDepth 20000 in
theorem ggX8_save_X8_lays : GoodIn wsX8_save wsX8_lays := goodIn_r _ [10] (by decide +kernel) (by decide +kernel)
set_option maxRecDepth 20000 in
theorem gX8_save_X8_lays : GoodIn wsX8_save (va_wsS RX8 39 yX8_lays wsX8_lays) := goodIn_app (goodIn_of _ (by decide +kernel)) ggX8_save_X8_lays
theorem dX8_save_0 : decode cX8_save 0 = .ok (.iload_n 1, 1) := by decide +kernel
theorem dX8_save_1 : decode cX8_save 1 = .ok (.iconst 0, 1) := by decide +kernel
theorem dX8_save_2 : decode cX8_save 2 = .ok (.iconst 1, 1) := by decide +kernel
theorem dX8_save_3 : decode cX8_save 3 = .ok (.invokestatic 43, 3) := by decide +kernel
theorem dX8_save_6 : decode cX8_save 6 = .ok (.ifCond .ne 6, 3) := by decide +kernel
theorem dX8_save_9 : decode cX8_save 9 = .ok (.bipush (-2), 2) := by decide +kernel
theorem dX8_save_11 : decode cX8_save 11 = .ok (.ireturn, 1) := by decide +kernel
theorem dX8_save_12 : decode cX8_save 12 = .ok (.aload_n 0, 1) := by decide +kernel
theorem dX8_save_13 : decode cX8_save 13 = .ok (.getfield 7, 3) := by decide +kernel
theorem dX8_save_16 : decode cX8_save 16 = .ok (.iconst 0, 1) := by decide +kernel
theorem dX8_save_17 : decode cX8_save 17 = .ok (.aload_n 0, 1) := by decide +kernel
theorem dX8_save_18 : decode cX8_save 18 = .ok (.getfield 19, 3) := by decide +kernel
theorem dX8_save_21 : decode cX8_save 21 = .ok (.bipush 116, 2) := by decide +kernel
theorem dX8_save_23 : decode cX8_save 23 = .ok (.iload_n 1, 1) := by decide +kernel
theorem dX8_save_24 : decode cX8_save 24 = .ok (.imul, 1) := by decide +kernel
theorem dX8_save_25 : decode cX8_save 25 = .ok (.invokestatic 39, 3) := by decide +kernel
theorem dX8_save_28 : decode cX8_save 28 = .ok (.aload_n 0, 1) := by decide +kernel
theorem dX8_save_29 : decode cX8_save 29 = .ok (.getfield 22, 3) := by decide +kernel
theorem dX8_save_32 : decode cX8_save 32 = .ok (.iload_n 1, 1) := by decide +kernel
theorem dX8_save_33 : decode cX8_save 33 = .ok (.iconst 1, 1) := by decide +kernel
theorem dX8_save_34 : decode cX8_save 34 = .ok (.bastore, 1) := by decide +kernel
theorem dX8_save_35 : decode cX8_save 35 = .ok (.aload_n 0, 1) := by decide +kernel
theorem dX8_save_36 : decode cX8_save 36 = .ok (.getfield 7, 3) := by decide +kernel
theorem dX8_save_39 : decode cX8_save 39 = .ok (.iconst 0, 1) := by decide +kernel
theorem dX8_save_40 : decode cX8_save 40 = .ok (.iaload, 1) := by decide +kernel
theorem dX8_save_41 : decode cX8_save 41 = .ok (.ireturn, 1) := by decide +kernel
set_option maxRecDepth 20000 in
theorem ggX8_restore_X8_in : GoodIn wsX8_restore wsX8_in := goodIn_r _ [7] (by decide +kernel) (by decide +kernel)
set_option maxRecDepth 20000 in
theorem gX8_restore_X8_in : GoodIn wsX8_restore (va_wsS RX8 43 yX8_in wsX8_in) := goodIn_app (goodIn_of _ (by decide +kernel)) ggX8_restore_X8_in
set_option maxRecDepth 20000 in
theorem ggX8_restore_X8_records : GoodIn wsX8_restore wsX8_records := goodIn_r _ [11, 12, 13, 3, 14, 15, 6, 16, 17, 18, 19, 20, 21, 22, 23, 24, 25, 26, 27, 28, 29, 30] (by decide +kernel) (by decide +kernel)
set_option maxRecDepth 20000 in
theorem gX8_restore_X8_records : GoodIn wsX8_restore (wsV RX8 96 RX8 yX8_records wsX8_records) := goodIn_app (goodIn_of _ (by decide +kernel)) ggX8_restore_X8_records
set_option maxRecDepth 20000 in
theorem ggX8_restore_X8_lays : GoodIn wsX8_restore wsX8_lays := goodIn_r _ [16] (by decide +kernel) (by decide +kernel)
set_option maxRecDepth 20000 in
theorem gX8_restore_X8_lays : GoodIn wsX8_restore (va_wsS RX8 39 yX8_lays wsX8_lays) := goodIn_app (goodIn_of _ (by decide +kernel)) ggX8_restore_X8_lays
theorem dX8_restore_0 : decode cX8_restore 0 = .ok (.iload_n 1, 1) := by decide +kernel
theorem dX8_restore_1 : decode cX8_restore 1 = .ok (.iconst 0, 1) := by decide +kernel
theorem dX8_restore_2 : decode cX8_restore 2 = .ok (.iconst 1, 1) := by decide +kernel
theorem dX8_restore_3 : decode cX8_restore 3 = .ok (.invokestatic 43, 3) := by decide +kernel
theorem dX8_restore_6 : decode cX8_restore 6 = .ok (.ifCond .ne 6, 3) := by decide +kernel
theorem dX8_restore_9 : decode cX8_restore 9 = .ok (.bipush (-2), 2) := by decide +kernel
theorem dX8_restore_11 : decode cX8_restore 11 = .ok (.ireturn, 1) := by decide +kernel
theorem dX8_restore_12 : decode cX8_restore 12 = .ok (.aload_n 0, 1) := by decide +kernel
theorem dX8_restore_13 : decode cX8_restore 13 = .ok (.getfield 22, 3) := by decide +kernel
theorem dX8_restore_16 : decode cX8_restore 16 = .ok (.iload_n 1, 1) := by decide +kernel
theorem dX8_restore_17 : decode cX8_restore 17 = .ok (.baload, 1) := by decide +kernel
theorem dX8_restore_18 : decode cX8_restore 18 = .ok (.ifCond .ne 6, 3) := by decide +kernel
theorem dX8_restore_21 : decode cX8_restore 21 = .ok (.bipush (-5), 2) := by decide +kernel
theorem dX8_restore_23 : decode cX8_restore 23 = .ok (.ireturn, 1) := by decide +kernel
theorem dX8_restore_24 : decode cX8_restore 24 = .ok (.aload_n 0, 1) := by decide +kernel
theorem dX8_restore_25 : decode cX8_restore 25 = .ok (.invokevirtual 96, 3) := by decide +kernel
theorem dX8_restore_28 : decode cX8_restore 28 = .ok (.aload_n 0, 1) := by decide +kernel
theorem dX8_restore_29 : decode cX8_restore 29 = .ok (.getfield 19, 3) := by decide +kernel
theorem dX8_restore_32 : decode cX8_restore 32 = .ok (.bipush 116, 2) := by decide +kernel
theorem dX8_restore_34 : decode cX8_restore 34 = .ok (.iload_n 1, 1) := by decide +kernel
theorem dX8_restore_35 : decode cX8_restore 35 = .ok (.imul, 1) := by decide +kernel
theorem dX8_restore_36 : decode cX8_restore 36 = .ok (.aload_n 0, 1) := by decide +kernel
theorem dX8_restore_37 : decode cX8_restore 37 = .ok (.getfield 7, 3) := by decide +kernel
theorem dX8_restore_40 : decode cX8_restore 40 = .ok (.iconst 0, 1) := by decide +kernel
theorem dX8_restore_41 : decode cX8_restore 41 = .ok (.invokestatic 39, 3) := by decide +kernel
theorem dX8_restore_44 : decode cX8_restore 44 = .ok (.aload_n 0, 1) := by decide +kernel
theorem dX8_restore_45 : decode cX8_restore 45 = .ok (.getfield 7, 3) := by decide +kernel
theorem dX8_restore_48 : decode cX8_restore 48 = .ok (.iconst 0, 1) := by decide +kernel
theorem dX8_restore_49 : decode cX8_restore 49 = .ok (.iaload, 1) := by decide +kernel
theorem dX8_restore_50 : decode cX8_restore 50 = .ok (.ireturn, 1) := by decide +kernel
theorem dJ9_max_7cf53_0 : decode cJ9_max_7cf53 0 = .ok (.iload_n 0, 1) := by decide +kernel
theorem dJ9_max_7cf53_1 : decode cJ9_max_7cf53 1 = .ok (.iload_n 1, 1) := by decide +kernel
theorem dJ9_max_7cf53_2 : decode cJ9_max_7cf53 2 = .ok (.if_icmp .lt 7, 3) := by decide +kernel
theorem dJ9_max_7cf53_5 : decode cJ9_max_7cf53 5 = .ok (.iload_n 0, 1) := by decide +kernel
theorem dJ9_max_7cf53_6 : decode cJ9_max_7cf53 6 = .ok (.goto 4, 3) := by decide +kernel
theorem dJ9_max_7cf53_9 : decode cJ9_max_7cf53 9 = .ok (.iload_n 1, 1) := by decide +kernel
theorem dJ9_max_7cf53_10 : decode cJ9_max_7cf53 10 = .ok (.ireturn, 1) := by decide +kernel
theorem dJ9_min_7cf53_0 : decode cJ9_min_7cf53 0 = .ok (.iload_n 0, 1) := by decide +kernel
theorem dJ9_min_7cf53_1 : decode cJ9_min_7cf53 1 = .ok (.iload_n 1, 1) := by decide +kernel
theorem dJ9_min_7cf53_2 : decode cJ9_min_7cf53 2 = .ok (.if_icmp .gt 7, 3) := by decide +kernel
theorem dJ9_min_7cf53_5 : decode cJ9_min_7cf53 5 = .ok (.iload_n 0, 1) := by decide +kernel
theorem dJ9_min_7cf53_6 : decode cJ9_min_7cf53 6 = .ok (.goto 4, 3) := by decide +kernel
theorem dJ9_min_7cf53_9 : decode cJ9_min_7cf53 9 = .ok (.iload_n 1, 1) := by decide +kernel
theorem dJ9_min_7cf53_10 : decode cJ9_min_7cf53 10 = .ok (.ireturn, 1) := by decide +kernel
abbrev vwCl : List vw_C := [(RX0, TX0, 2), (RX2, TX2, 3), (RX3, TX3, 6), (RX4, TX4, 2), (RX5, TX5, 2), (RX6, TX6, 4), (RX7, TX7, 4), (RX8, TX8, 14)]
