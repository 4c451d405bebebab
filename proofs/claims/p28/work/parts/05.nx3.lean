theorem dX2_requireAlive_8 : decode cX2_requireAlive 8 = .ok (.new 61, 3) := by decide +kernel
theorem dX2_requireAlive_11 : decode cX2_requireAlive 11 = .ok (.dup, 1) := by decide +kernel
theorem dX2_requireAlive_12 : decode cX2_requireAlive 12 = .ok (.ldc 147, 2) := by decide +kernel
theorem dX2_requireAlive_14 : decode cX2_requireAlive 14 = .ok (.invokespecial 65, 3) := by decide +kernel
theorem dX2_requireAlive_17 : decode cX2_requireAlive 17 = .ok (.athrow, 1) := by decide +kernel
theorem dX2_requireAlive_18 : decode cX2_requireAlive 18 = .ok (.return_, 1) := by decide +kernel
theorem dX2_isAlive_0 : decode cX2_isAlive 0 = .ok (.iload_n 1, 1) := by decide +kernel
theorem dX2_isAlive_1 : decode cX2_isAlive 1 = .ok (.ifCond .lt 25, 3) := by decide +kernel
theorem dX2_isAlive_4 : decode cX2_isAlive 4 = .ok (.iload_n 1, 1) := by decide +kernel
theorem dX2_isAlive_5 : decode cX2_isAlive 5 = .ok (.aload_n 0, 1) := by decide +kernel
theorem dX2_isAlive_6 : decode cX2_isAlive 6 = .ok (.getfield 9, 3) := by decide +kernel
theorem dX2_isAlive_9 : decode cX2_isAlive 9 = .ok (.arraylength, 1) := by decide +kernel
theorem dX2_isAlive_10 : decode cX2_isAlive 10 = .ok (.if_icmp .ge 16, 3) := by decide +kernel
theorem dX2_isAlive_13 : decode cX2_isAlive 13 = .ok (.aload_n 0, 1) := by decide +kernel
theorem dX2_isAlive_14 : decode cX2_isAlive 14 = .ok (.getfield 9, 3) := by decide +kernel
theorem dX2_isAlive_17 : decode cX2_isAlive 17 = .ok (.iload_n 1, 1) := by decide +kernel
theorem dX2_isAlive_18 : decode cX2_isAlive 18 = .ok (.baload, 1) := by decide +kernel
theorem dX2_isAlive_19 : decode cX2_isAlive 19 = .ok (.ifCond .eq 7, 3) := by decide +kernel
theorem dX2_isAlive_22 : decode cX2_isAlive 22 = .ok (.iconst 1, 1) := by decide +kernel
theorem dX2_isAlive_23 : decode cX2_isAlive 23 = .ok (.goto 4, 3) := by decide +kernel
theorem dX2_isAlive_26 : decode cX2_isAlive 26 = .ok (.iconst 0, 1) := by decide +kernel
theorem dX2_isAlive_27 : decode cX2_isAlive 27 = .ok (.ireturn, 1) := by decide +kernel
theorem dX2_setAlive_0 : decode cX2_setAlive 0 = .ok (.iload_n 1, 1) := by decide +kernel
theorem dX2_setAlive_1 : decode cX2_setAlive 1 = .ok (.ifCond .lt 19, 3) := by decide +kernel
theorem dX2_setAlive_4 : decode cX2_setAlive 4 = .ok (.iload_n 1, 1) := by decide +kernel
theorem dX2_setAlive_5 : decode cX2_setAlive 5 = .ok (.aload_n 0, 1) := by decide +kernel
theorem dX2_setAlive_6 : decode cX2_setAlive 6 = .ok (.getfield 9, 3) := by decide +kernel
theorem dX2_setAlive_9 : decode cX2_setAlive 9 = .ok (.arraylength, 1) := by decide +kernel
theorem dX2_setAlive_10 : decode cX2_setAlive 10 = .ok (.if_icmp .ge 10, 3) := by decide +kernel
theorem dX2_setAlive_13 : decode cX2_setAlive 13 = .ok (.aload_n 0, 1) := by decide +kernel
theorem dX2_setAlive_14 : decode cX2_setAlive 14 = .ok (.getfield 9, 3) := by decide +kernel
theorem dX2_setAlive_17 : decode cX2_setAlive 17 = .ok (.iload_n 1, 1) := by decide +kernel
theorem dX2_setAlive_18 : decode cX2_setAlive 18 = .ok (.iload_n 2, 1) := by decide +kernel
theorem dX2_setAlive_19 : decode cX2_setAlive 19 = .ok (.bastore, 1) := by decide +kernel
theorem dX2_setAlive_20 : decode cX2_setAlive 20 = .ok (.return_, 1) := by decide +kernel
set_option maxRecDepth 20000 in
theorem ggX2_countLiving_X2_isAlive : GoodIn wsX2_countLiving wsX2_isAlive := goodIn_r _ [5, 6, 7, 8, 9, 10, 11, 12, 13, 14, 15, 16, 17, 18] (by decide +kernel) (by decide +kernel)
set_option maxRecDepth 20000 in
theorem gX2_countLiving_X2_isAlive : GoodIn wsX2_countLiving (wsV RX2 72 RX2 yX2_isAlive wsX2_isAlive) := goodIn_app (goodIn_of _ (by decide +kernel)) ggX2_countLiving_X2_isAlive
theorem dX2_countLiving_0 : decode cX2_countLiving 0 = .ok (.iconst 0, 1) := by decide +kernel
theorem dX2_countLiving_1 : decode cX2_countLiving 1 = .ok (.istore_n 1, 1) := by decide +kernel
theorem dX2_countLiving_2 : decode cX2_countLiving 2 = .ok (.iconst 0, 1) := by decide +kernel
theorem dX2_countLiving_3 : decode cX2_countLiving 3 = .ok (.istore_n 2, 1) := by decide +kernel
theorem dX2_countLiving_4 : decode cX2_countLiving 4 = .ok (.iload_n 2, 1) := by decide +kernel
theorem dX2_countLiving_5 : decode cX2_countLiving 5 = .ok (.bipush 64, 2) := by decide +kernel
theorem dX2_countLiving_7 : decode cX2_countLiving 7 = .ok (.if_icmp .ge 20, 3) := by decide +kernel
theorem dX2_countLiving_10 : decode cX2_countLiving 10 = .ok (.aload_n 0, 1) := by decide +kernel
theorem dX2_countLiving_11 : decode cX2_countLiving 11 = .ok (.iload_n 2, 1) := by decide +kernel
theorem dX2_countLiving_12 : decode cX2_countLiving 12 = .ok (.invokevirtual 72, 3) := by decide +kernel
theorem dX2_countLiving_15 : decode cX2_countLiving 15 = .ok (.ifCond .eq 6, 3) := by decide +kernel
theorem dX2_countLiving_18 : decode cX2_countLiving 18 = .ok (.iinc 1 1, 3) := by decide +kernel
theorem dX2_countLiving_21 : decode cX2_countLiving 21 = .ok (.iinc 2 1, 3) := by decide +kernel
theorem dX2_countLiving_24 : decode cX2_countLiving 24 = .ok (.goto (-20), 3) := by decide +kernel
theorem dX2_countLiving_27 : decode cX2_countLiving 27 = .ok (.iload_n 1, 1) := by decide +kernel
theorem dX2_countLiving_28 : decode cX2_countLiving 28 = .ok (.ireturn, 1) := by decide +kernel
set_option maxRecDepth 20000 in
theorem ggX2_beginLife_X2_setSuccessors : GoodIn wsX2_beginLife wsX2_setSuccessors := goodIn_r _ [9, 10, 11, 12, 13, 14, 15, 16, 17, 28, 29, 30, 31, 32, 33, 34, 35, 36, 37, 38, 39, 40, 41] (by decide +kernel) (by decide +kernel)
set_option maxRecDepth 20000 in
theorem gX2_beginLife_X2_setSuccessors : GoodIn wsX2_beginLife (wsV RX2 149 RX2 yX2_setSuccessors wsX2_setSuccessors) := goodIn_app (goodIn_of _ (by decide +kernel)) ggX2_beginLife_X2_setSuccessors
set_option maxRecDepth 20000 in
theorem ggX2_beginLife_X1_clear : GoodIn wsX2_beginLife wsX1_clear := goodIn_r _ [21, 16, 22, 12, 13, 14, 15, 17, 40, 41] (by decide +kernel) (by decide +kernel)
set_option maxRecDepth 20000 in
theorem gX2_beginLife_X1_clear : GoodIn wsX2_beginLife (wsV RX2 152 RX1 yX1_clear wsX1_clear) := goodIn_app (goodIn_of _ (by decide +kernel)) ggX2_beginLife_X1_clear
set_option maxRecDepth 20000 in
theorem ggX2_beginLife_X2_setAlive : GoodIn wsX2_beginLife wsX2_setAlive := goodIn_r _ [26, 27, 28, 29, 30, 31, 32, 33, 34, 35, 36, 37, 38, 39] (by decide +kernel) (by decide +kernel)
set_option maxRecDepth 20000 in
theorem gX2_beginLife_X2_setAlive : GoodIn wsX2_beginLife (wsV RX2 155 RX2 yX2_setAlive wsX2_setAlive) := goodIn_app (goodIn_of _ (by decide +kernel)) ggX2_beginLife_X2_setAlive
theorem dX2_beginLife_0 : decode cX2_beginLife 0 = .ok (.aload_n 0, 1) := by decide +kernel
theorem dX2_beginLife_1 : decode cX2_beginLife 1 = .ok (.iload_n 1, 1) := by decide +kernel
theorem dX2_beginLife_2 : decode cX2_beginLife 2 = .ok (.iload_n 2, 1) := by decide +kernel
theorem dX2_beginLife_3 : decode cX2_beginLife 3 = .ok (.iload_n 3, 1) := by decide +kernel
theorem dX2_beginLife_4 : decode cX2_beginLife 4 = .ok (.iload 4, 2) := by decide +kernel
theorem dX2_beginLife_6 : decode cX2_beginLife 6 = .ok (.invokevirtual 149, 3) := by decide +kernel
theorem dX2_beginLife_9 : decode cX2_beginLife 9 = .ok (.aload_n 0, 1) := by decide +kernel
theorem dX2_beginLife_10 : decode cX2_beginLife 10 = .ok (.getfield 22, 3) := by decide +kernel
theorem dX2_beginLife_13 : decode cX2_beginLife 13 = .ok (.iload_n 1, 1) := by decide +kernel
theorem dX2_beginLife_14 : decode cX2_beginLife 14 = .ok (.invokevirtual 152, 3) := by decide +kernel
theorem dX2_beginLife_17 : decode cX2_beginLife 17 = .ok (.aload_n 0, 1) := by decide +kernel
theorem dX2_beginLife_18 : decode cX2_beginLife 18 = .ok (.getfield 25, 3) := by decide +kernel
theorem dX2_beginLife_21 : decode cX2_beginLife 21 = .ok (.iload_n 1, 1) := by decide +kernel
theorem dX2_beginLife_22 : decode cX2_beginLife 22 = .ok (.invokevirtual 152, 3) := by decide +kernel
theorem dX2_beginLife_25 : decode cX2_beginLife 25 = .ok (.aload_n 0, 1) := by decide +kernel
theorem dX2_beginLife_26 : decode cX2_beginLife 26 = .ok (.getfield 28, 3) := by decide +kernel
theorem dX2_beginLife_29 : decode cX2_beginLife 29 = .ok (.iload_n 1, 1) := by decide +kernel
theorem dX2_beginLife_30 : decode cX2_beginLife 30 = .ok (.invokevirtual 152, 3) := by decide +kernel
theorem dX2_beginLife_33 : decode cX2_beginLife 33 = .ok (.aload_n 0, 1) := by decide +kernel
theorem dX2_beginLife_34 : decode cX2_beginLife 34 = .ok (.getfield 31, 3) := by decide +kernel
theorem dX2_beginLife_37 : decode cX2_beginLife 37 = .ok (.iload_n 1, 1) := by decide +kernel
theorem dX2_beginLife_38 : decode cX2_beginLife 38 = .ok (.invokevirtual 152, 3) := by decide +kernel
theorem dX2_beginLife_41 : decode cX2_beginLife 41 = .ok (.aload_n 0, 1) := by decide +kernel
theorem dX2_beginLife_42 : decode cX2_beginLife 42 = .ok (.iload_n 1, 1) := by decide +kernel
theorem dX2_beginLife_43 : decode cX2_beginLife 43 = .ok (.iconst 1, 1) := by decide +kernel
theorem dX2_beginLife_44 : decode cX2_beginLife 44 = .ok (.invokevirtual 155, 3) := by decide +kernel
theorem dX2_beginLife_47 : decode cX2_beginLife 47 = .ok (.return_, 1) := by decide +kernel
set_option maxRecDepth 20000 in
theorem ggX2_endLife_X2_setAlive : GoodIn wsX2_endLife wsX2_setAlive := goodIn_r _ [5, 6, 7, 8, 9, 10, 11, 12, 13, 14, 15, 16, 17, 18] (by decide +kernel) (by decide +kernel)
set_option maxRecDepth 20000 in
theorem gX2_endLife_X2_setAlive : GoodIn wsX2_endLife (wsV RX2 155 RX2 yX2_setAlive wsX2_setAlive) := goodIn_app (goodIn_of _ (by decide +kernel)) ggX2_endLife_X2_setAlive
theorem dX2_endLife_0 : decode cX2_endLife 0 = .ok (.aload_n 0, 1) := by decide +kernel
theorem dX2_endLife_1 : decode cX2_endLife 1 = .ok (.iload_n 1, 1) := by decide +kernel
theorem dX2_endLife_2 : decode cX2_endLife 2 = .ok (.iconst 0, 1) := by decide +kernel
theorem dX2_endLife_3 : decode cX2_endLife 3 = .ok (.invokevirtual 155, 3) := by decide +kernel
theorem dX2_endLife_6 : decode cX2_endLife 6 = .ok (.return_, 1) := by decide +kernel
set_option maxRecDepth 20000 in
theorem ggX2_handOver_X2_giveCopy : GoodIn wsX2_handOver wsX2_giveCopy := goodIn_r _ [6, 7, 8, 9, 10, 11, 12, 13, 14, 15, 16, 17, 18, 19, 34, 35, 36, 37, 38, 39, 40, 41, 42, 43, 44, 45, 46, 47] (by decide +kernel) (by decide +kernel)
set_option maxRecDepth 20000 in
theorem gX2_handOver_X2_giveCopy : GoodIn wsX2_handOver (wsV RX2 159 RX2 yX2_giveCopy wsX2_giveCopy) := goodIn_app (goodIn_of _ (by decide +kernel)) ggX2_handOver_X2_giveCopy
set_option maxRecDepth 20000 in
theorem ggX2_handOver_X1_at : GoodIn wsX2_handOver wsX1_at := goodIn_r _ [13, 14, 15, 46, 47] (by decide +kernel) (by decide +kernel)
set_option maxRecDepth 20000 in
theorem gX2_handOver_X1_at : GoodIn wsX2_handOver (wsV RX2 85 RX1 yX1_at wsX1_at) := goodIn_app (goodIn_of _ (by decide +kernel)) ggX2_handOver_X1_at
set_option maxRecDepth 20000 in
theorem ggX2_handOver_X1_set : GoodIn wsX2_handOver wsX1_set := goodIn_r _ [19, 14, 15, 46, 47] (by decide +kernel) (by decide +kernel)
set_option maxRecDepth 20000 in
theorem gX2_handOver_X1_set : GoodIn wsX2_handOver (wsV RX2 127 RX1 yX1_set wsX1_set) := goodIn_app (goodIn_of _ (by decide +kernel)) ggX2_handOver_X1_set
set_option maxRecDepth 20000 in
theorem ggX2_handOver_X2_isAlive : GoodIn wsX2_handOver wsX2_isAlive := goodIn_r _ [23, 24, 34, 35, 36, 37, 38, 39, 40, 41, 42, 43, 44, 45] (by decide +kernel) (by decide +kernel)
set_option maxRecDepth 20000 in
theorem gX2_handOver_X2_isAlive : GoodIn wsX2_handOver (wsV RX2 72 RX2 yX2_isAlive wsX2_isAlive) := goodIn_app (goodIn_of _ (by decide +kernel)) ggX2_handOver_X2_isAlive
set_option maxRecDepth 20000 in
theorem ggX2_handOver_X2_follow : GoodIn wsX2_handOver wsX2_follow := goodIn_r _ [28, 29, 9, 10, 11, 12, 13, 14, 15, 30, 31, 32, 5, 33, 16, 17, 18, 19, 34, 35, 36, 37, 38, 39, 40, 41, 42, 43, 44, 45, 46, 47] (by decide +kernel) (by decide +kernel)
set_option maxRecDepth 20000 in
theorem gX2_handOver_X2_follow : GoodIn wsX2_handOver (wsV RX2 163 RX2 yX2_follow wsX2_follow) := goodIn_app (goodIn_of _ (by decide +kernel)) ggX2_handOver_X2_follow
theorem dX2_handOver_0 : decode cX2_handOver 0 = .ok (.iconst 0, 1) := by decide +kernel
theorem dX2_handOver_1 : decode cX2_handOver 1 = .ok (.istore_n 3, 1) := by decide +kernel
theorem dX2_handOver_2 : decode cX2_handOver 2 = .ok (.iload_n 3, 1) := by decide +kernel
theorem dX2_handOver_3 : decode cX2_handOver 3 = .ok (.bipush 64, 2) := by decide +kernel
theorem dX2_handOver_5 : decode cX2_handOver 5 = .ok (.if_icmp .ge 17, 3) := by decide +kernel
theorem dX2_handOver_8 : decode cX2_handOver 8 = .ok (.aload_n 0, 1) := by decide +kernel
theorem dX2_handOver_9 : decode cX2_handOver 9 = .ok (.iload_n 1, 1) := by decide +kernel
theorem dX2_handOver_10 : decode cX2_handOver 10 = .ok (.iload_n 2, 1) := by decide +kernel
theorem dX2_handOver_11 : decode cX2_handOver 11 = .ok (.iload_n 3, 1) := by decide +kernel
theorem dX2_handOver_12 : decode cX2_handOver 12 = .ok (.invokevirtual 159, 3) := by decide +kernel
theorem dX2_handOver_15 : decode cX2_handOver 15 = .ok (.pop, 1) := by decide +kernel
theorem dX2_handOver_16 : decode cX2_handOver 16 = .ok (.iinc 3 1, 3) := by decide +kernel
theorem dX2_handOver_19 : decode cX2_handOver 19 = .ok (.goto (-17), 3) := by decide +kernel
theorem dX2_handOver_22 : decode cX2_handOver 22 = .ok (.aload_n 0, 1) := by decide +kernel
theorem dX2_handOver_23 : decode cX2_handOver 23 = .ok (.getfield 22, 3) := by decide +kernel
theorem dX2_handOver_26 : decode cX2_handOver 26 = .ok (.iload_n 1, 1) := by decide +kernel
theorem dX2_handOver_27 : decode cX2_handOver 27 = .ok (.iconst 0, 1) := by decide +kernel
theorem dX2_handOver_28 : decode cX2_handOver 28 = .ok (.invokevirtual 85, 3) := by decide +kernel
theorem dX2_handOver_31 : decode cX2_handOver 31 = .ok (.istore_n 3, 1) := by decide +kernel
theorem dX2_handOver_32 : decode cX2_handOver 32 = .ok (.aload_n 0, 1) := by decide +kernel
theorem dX2_handOver_33 : decode cX2_handOver 33 = .ok (.getfield 22, 3) := by decide +kernel
theorem dX2_handOver_36 : decode cX2_handOver 36 = .ok (.iload_n 2, 1) := by decide +kernel
theorem dX2_handOver_37 : decode cX2_handOver 37 = .ok (.iconst 0, 1) := by decide +kernel
theorem dX2_handOver_38 : decode cX2_handOver 38 = .ok (.iload_n 3, 1) := by decide +kernel
theorem dX2_handOver_39 : decode cX2_handOver 39 = .ok (.invokevirtual 127, 3) := by decide +kernel
theorem dX2_handOver_42 : decode cX2_handOver 42 = .ok (.iload_n 3, 1) := by decide +kernel
theorem dX2_handOver_43 : decode cX2_handOver 43 = .ok (.iload_n 1, 1) := by decide +kernel
theorem dX2_handOver_44 : decode cX2_handOver 44 = .ok (.if_icmp .eq 17, 3) := by decide +kernel
theorem dX2_handOver_47 : decode cX2_handOver 47 = .ok (.aload_n 0, 1) := by decide +kernel
theorem dX2_handOver_48 : decode cX2_handOver 48 = .ok (.iload_n 3, 1) := by decide +kernel
theorem dX2_handOver_49 : decode cX2_handOver 49 = .ok (.invokevirtual 72, 3) := by decide +kernel
theorem dX2_handOver_52 : decode cX2_handOver 52 = .ok (.ifCond .eq 9, 3) := by decide +kernel
theorem dX2_handOver_55 : decode cX2_handOver 55 = .ok (.aload_n 0, 1) := by decide +kernel
theorem dX2_handOver_56 : decode cX2_handOver 56 = .ok (.iload_n 3, 1) := by decide +kernel
theorem dX2_handOver_57 : decode cX2_handOver 57 = .ok (.iload_n 2, 1) := by decide +kernel
theorem dX2_handOver_58 : decode cX2_handOver 58 = .ok (.invokevirtual 163, 3) := by decide +kernel
theorem dX2_handOver_61 : decode cX2_handOver 61 = .ok (.return_, 1) := by decide +kernel
set_option maxRecDepth 20000 in
theorem ggX2_setSuccessors_X1_set : GoodIn wsX2_setSuccessors wsX1_set := goodIn_r _ [6, 7, 8, 21, 22] (by decide +kernel) (by decide +kernel)
set_option maxRecDepth 20000 in
theorem gX2_setSuccessors_X1_set : GoodIn wsX2_setSuccessors (wsV RX2 127 RX1 yX1_set wsX1_set) := goodIn_app (goodIn_of _ (by decide +kernel)) ggX2_setSuccessors_X1_set
theorem dX2_setSuccessors_0 : decode cX2_setSuccessors 0 = .ok (.aload_n 0, 1) := by decide +kernel
theorem dX2_setSuccessors_1 : decode cX2_setSuccessors 1 = .ok (.getfield 18, 3) := by decide +kernel
theorem dX2_setSuccessors_4 : decode cX2_setSuccessors 4 = .ok (.iload_n 1, 1) := by decide +kernel
theorem dX2_setSuccessors_5 : decode cX2_setSuccessors 5 = .ok (.iconst 0, 1) := by decide +kernel
theorem dX2_setSuccessors_6 : decode cX2_setSuccessors 6 = .ok (.iload_n 2, 1) := by decide +kernel
theorem dX2_setSuccessors_7 : decode cX2_setSuccessors 7 = .ok (.invokevirtual 127, 3) := by decide +kernel
theorem dX2_setSuccessors_10 : decode cX2_setSuccessors 10 = .ok (.aload_n 0, 1) := by decide +kernel
theorem dX2_setSuccessors_11 : decode cX2_setSuccessors 11 = .ok (.getfield 18, 3) := by decide +kernel
theorem dX2_setSuccessors_14 : decode cX2_setSuccessors 14 = .ok (.iload_n 1, 1) := by decide +kernel
theorem dX2_setSuccessors_15 : decode cX2_setSuccessors 15 = .ok (.iconst 1, 1) := by decide +kernel
theorem dX2_setSuccessors_16 : decode cX2_setSuccessors 16 = .ok (.iload_n 3, 1) := by decide +kernel
theorem dX2_setSuccessors_17 : decode cX2_setSuccessors 17 = .ok (.invokevirtual 127, 3) := by decide +kernel
theorem dX2_setSuccessors_20 : decode cX2_setSuccessors 20 = .ok (.aload_n 0, 1) := by decide +kernel
theorem dX2_setSuccessors_21 : decode cX2_setSuccessors 21 = .ok (.getfield 18, 3) := by decide +kernel
theorem dX2_setSuccessors_24 : decode cX2_setSuccessors 24 = .ok (.iload_n 1, 1) := by decide +kernel
theorem dX2_setSuccessors_25 : decode cX2_setSuccessors 25 = .ok (.iconst 2, 1) := by decide +kernel
theorem dX2_setSuccessors_26 : decode cX2_setSuccessors 26 = .ok (.iload 4, 2) := by decide +kernel
theorem dX2_setSuccessors_28 : decode cX2_setSuccessors 28 = .ok (.invokevirtual 127, 3) := by decide +kernel
theorem dX2_setSuccessors_31 : decode cX2_setSuccessors 31 = .ok (.return_, 1) := by decide +kernel
set_option maxRecDepth 20000 in
theorem ggX2_follow_X1_at : GoodIn wsX2_follow wsX1_at := goodIn_r _ [6, 7, 8, 30, 31] (by decide +kernel) (by decide +kernel)
set_option maxRecDepth 20000 in
theorem gX2_follow_X1_at : GoodIn wsX2_follow (wsV RX2 85 RX1 yX1_at wsX1_at) := goodIn_app (goodIn_of _ (by decide +kernel)) ggX2_follow_X1_at
set_option maxRecDepth 20000 in
theorem ggX2_follow_X2_setSuccessors : GoodIn wsX2_follow wsX2_setSuccessors := goodIn_r _ [13, 1, 14, 15, 16, 5, 17, 7, 8, 18, 19, 20, 21, 22, 23, 24, 25, 26, 27, 28, 29, 30, 31] (by decide +kernel) (by decide +kernel)
set_option maxRecDepth 20000 in
theorem gX2_follow_X2_setSuccessors : GoodIn wsX2_follow (wsV RX2 149 RX2 yX2_setSuccessors wsX2_setSuccessors) := goodIn_app (goodIn_of _ (by decide +kernel)) ggX2_follow_X2_setSuccessors
theorem dX2_follow_0 : decode cX2_follow 0 = .ok (.aload_n 0, 1) := by decide +kernel
theorem dX2_follow_1 : decode cX2_follow 1 = .ok (.getfield 18, 3) := by decide +kernel
theorem dX2_follow_4 : decode cX2_follow 4 = .ok (.iload_n 2, 1) := by decide +kernel
theorem dX2_follow_5 : decode cX2_follow 5 = .ok (.iconst 0, 1) := by decide +kernel
theorem dX2_follow_6 : decode cX2_follow 6 = .ok (.invokevirtual 85, 3) := by decide +kernel
theorem dX2_follow_9 : decode cX2_follow 9 = .ok (.istore_n 3, 1) := by decide +kernel
theorem dX2_follow_10 : decode cX2_follow 10 = .ok (.aload_n 0, 1) := by decide +kernel
theorem dX2_follow_11 : decode cX2_follow 11 = .ok (.getfield 18, 3) := by decide +kernel
theorem dX2_follow_14 : decode cX2_follow 14 = .ok (.iload_n 2, 1) := by decide +kernel
theorem dX2_follow_15 : decode cX2_follow 15 = .ok (.iconst 1, 1) := by decide +kernel
theorem dX2_follow_16 : decode cX2_follow 16 = .ok (.invokevirtual 85, 3) := by decide +kernel
theorem dX2_follow_19 : decode cX2_follow 19 = .ok (.istore 4, 2) := by decide +kernel
theorem dX2_follow_21 : decode cX2_follow 21 = .ok (.aload_n 0, 1) := by decide +kernel
theorem dX2_follow_22 : decode cX2_follow 22 = .ok (.iload_n 1, 1) := by decide +kernel
theorem dX2_follow_23 : decode cX2_follow 23 = .ok (.iload_n 2, 1) := by decide +kernel
theorem dX2_follow_24 : decode cX2_follow 24 = .ok (.iload_n 3, 1) := by decide +kernel
theorem dX2_follow_25 : decode cX2_follow 25 = .ok (.iload 4, 2) := by decide +kernel
theorem dX2_follow_27 : decode cX2_follow 27 = .ok (.invokevirtual 149, 3) := by decide +kernel
theorem dX2_follow_30 : decode cX2_follow 30 = .ok (.return_, 1) := by decide +kernel
set_option maxRecDepth 20000 in
theorem ggX2_firstLivingSuccessor_X1_at : GoodIn wsX2_firstLivingSuccessor wsX1_at := goodIn_r _ [6, 7, 8, 27, 28] (by decide +kernel) (by decide +kernel)
set_option maxRecDepth 20000 in
theorem gX2_firstLivingSuccessor_X1_at : GoodIn wsX2_firstLivingSuccessor (wsV RX2 85 RX1 yX1_at wsX1_at) := goodIn_app (goodIn_of _ (by decide +kernel)) ggX2_firstLivingSuccessor_X1_at
set_option maxRecDepth 20000 in
theorem ggX2_firstLivingSuccessor_X2_isAlive : GoodIn wsX2_firstLivingSuccessor wsX2_isAlive := goodIn_r _ [13, 14, 15, 16, 17, 18, 19, 20, 21, 22, 23, 24, 25, 26] (by decide +kernel) (by decide +kernel)
set_option maxRecDepth 20000 in
theorem gX2_firstLivingSuccessor_X2_isAlive : GoodIn wsX2_firstLivingSuccessor (wsV RX2 72 RX2 yX2_isAlive wsX2_isAlive) := goodIn_app (goodIn_of _ (by decide +kernel)) ggX2_firstLivingSuccessor_X2_isAlive
theorem dX2_firstLivingSuccessor_0 : decode cX2_firstLivingSuccessor 0 = .ok (.iconst 0, 1) := by decide +kernel
theorem dX2_firstLivingSuccessor_1 : decode cX2_firstLivingSuccessor 1 = .ok (.istore_n 2, 1) := by decide +kernel
theorem dX2_firstLivingSuccessor_2 : decode cX2_firstLivingSuccessor 2 = .ok (.iload_n 2, 1) := by decide +kernel
theorem dX2_firstLivingSuccessor_3 : decode cX2_firstLivingSuccessor 3 = .ok (.iconst 3, 1) := by decide +kernel
theorem dX2_firstLivingSuccessor_4 : decode cX2_firstLivingSuccessor 4 = .ok (.if_icmp .ge 29, 3) := by decide +kernel
theorem dX2_firstLivingSuccessor_7 : decode cX2_firstLivingSuccessor 7 = .ok (.aload_n 0, 1) := by decide +kernel
theorem dX2_firstLivingSuccessor_8 : decode cX2_firstLivingSuccessor 8 = .ok (.getfield 18, 3) := by decide +kernel
theorem dX2_firstLivingSuccessor_11 : decode cX2_firstLivingSuccessor 11 = .ok (.iload_n 1, 1) := by decide +kernel
theorem dX2_firstLivingSuccessor_12 : decode cX2_firstLivingSuccessor 12 = .ok (.iload_n 2, 1) := by decide +kernel
theorem dX2_firstLivingSuccessor_13 : decode cX2_firstLivingSuccessor 13 = .ok (.invokevirtual 85, 3) := by decide +kernel
theorem dX2_firstLivingSuccessor_16 : decode cX2_firstLivingSuccessor 16 = .ok (.istore_n 3, 1) := by decide +kernel
theorem dX2_firstLivingSuccessor_17 : decode cX2_firstLivingSuccessor 17 = .ok (.aload_n 0, 1) := by decide +kernel
theorem dX2_firstLivingSuccessor_18 : decode cX2_firstLivingSuccessor 18 = .ok (.iload_n 3, 1) := by decide +kernel
theorem dX2_firstLivingSuccessor_19 : decode cX2_firstLivingSuccessor 19 = .ok (.invokevirtual 72, 3) := by decide +kernel
theorem dX2_firstLivingSuccessor_22 : decode cX2_firstLivingSuccessor 22 = .ok (.ifCond .eq 5, 3) := by decide +kernel
theorem dX2_firstLivingSuccessor_25 : decode cX2_firstLivingSuccessor 25 = .ok (.iload_n 3, 1) := by decide +kernel
theorem dX2_firstLivingSuccessor_26 : decode cX2_firstLivingSuccessor 26 = .ok (.ireturn, 1) := by decide +kernel
theorem dX2_firstLivingSuccessor_27 : decode cX2_firstLivingSuccessor 27 = .ok (.iinc 2 1, 3) := by decide +kernel
theorem dX2_firstLivingSuccessor_30 : decode cX2_firstLivingSuccessor 30 = .ok (.goto (-28), 3) := by decide +kernel
theorem dX2_firstLivingSuccessor_33 : decode cX2_firstLivingSuccessor 33 = .ok (.iload_n 1, 1) := by decide +kernel
theorem dX2_firstLivingSuccessor_34 : decode cX2_firstLivingSuccessor 34 = .ok (.ireturn, 1) := by decide +kernel
set_option maxRecDepth 20000 in
theorem ggX2_firstHeir_X1_at : GoodIn wsX2_firstHeir wsX1_at := goodIn_r _ [6, 7, 8, 27, 28] (by decide +kernel) (by decide +kernel)
set_option maxRecDepth 20000 in
theorem gX2_firstHeir_X1_at : GoodIn wsX2_firstHeir (wsV RX2 85 RX1 yX1_at wsX1_at) := goodIn_app (goodIn_of _ (by decide +kernel)) ggX2_firstHeir_X1_at
set_option maxRecDepth 20000 in
theorem ggX2_firstHeir_X2_isAlive : GoodIn wsX2_firstHeir wsX2_isAlive := goodIn_r _ [13, 14, 15, 16, 17, 18, 19, 20, 21, 22, 23, 24, 25, 26] (by decide +kernel) (by decide +kernel)
set_option maxRecDepth 20000 in
theorem gX2_firstHeir_X2_isAlive : GoodIn wsX2_firstHeir (wsV RX2 72 RX2 yX2_isAlive wsX2_isAlive) := goodIn_app (goodIn_of _ (by decide +kernel)) ggX2_firstHeir_X2_isAlive
theorem dX2_firstHeir_0 : decode cX2_firstHeir 0 = .ok (.iconst 0, 1) := by decide +kernel
theorem dX2_firstHeir_1 : decode cX2_firstHeir 1 = .ok (.istore_n 3, 1) := by decide +kernel
theorem dX2_firstHeir_2 : decode cX2_firstHeir 2 = .ok (.iload_n 3, 1) := by decide +kernel
theorem dX2_firstHeir_3 : decode cX2_firstHeir 3 = .ok (.iconst 3, 1) := by decide +kernel
theorem dX2_firstHeir_4 : decode cX2_firstHeir 4 = .ok (.if_icmp .ge 44, 3) := by decide +kernel
theorem dX2_firstHeir_7 : decode cX2_firstHeir 7 = .ok (.aload_n 0, 1) := by decide +kernel
theorem dX2_firstHeir_8 : decode cX2_firstHeir 8 = .ok (.getfield 18, 3) := by decide +kernel
theorem dX2_firstHeir_11 : decode cX2_firstHeir 11 = .ok (.iload_n 1, 1) := by decide +kernel
theorem dX2_firstHeir_12 : decode cX2_firstHeir 12 = .ok (.iload_n 3, 1) := by decide +kernel
theorem dX2_firstHeir_13 : decode cX2_firstHeir 13 = .ok (.invokevirtual 85, 3) := by decide +kernel
theorem dX2_firstHeir_16 : decode cX2_firstHeir 16 = .ok (.istore 4, 2) := by decide +kernel
theorem dX2_firstHeir_18 : decode cX2_firstHeir 18 = .ok (.aload_n 0, 1) := by decide +kernel
theorem dX2_firstHeir_19 : decode cX2_firstHeir 19 = .ok (.iload 4, 2) := by decide +kernel
theorem dX2_firstHeir_21 : decode cX2_firstHeir 21 = .ok (.invokevirtual 72, 3) := by decide +kernel
theorem dX2_firstHeir_24 : decode cX2_firstHeir 24 = .ok (.ifCond .eq 18, 3) := by decide +kernel
theorem dX2_firstHeir_27 : decode cX2_firstHeir 27 = .ok (.iload 4, 2) := by decide +kernel
theorem dX2_firstHeir_29 : decode cX2_firstHeir 29 = .ok (.iload_n 1, 1) := by decide +kernel
theorem dX2_firstHeir_30 : decode cX2_firstHeir 30 = .ok (.if_icmp .eq 12, 3) := by decide +kernel
theorem dX2_firstHeir_33 : decode cX2_firstHeir 33 = .ok (.iload 4, 2) := by decide +kernel
theorem dX2_firstHeir_35 : decode cX2_firstHeir 35 = .ok (.iload_n 2, 1) := by decide +kernel
theorem dX2_firstHeir_36 : decode cX2_firstHeir 36 = .ok (.if_icmp .eq 6, 3) := by decide +kernel
theorem dX2_firstHeir_39 : decode cX2_firstHeir 39 = .ok (.iload 4, 2) := by decide +kernel
theorem dX2_firstHeir_41 : decode cX2_firstHeir 41 = .ok (.ireturn, 1) := by decide +kernel
theorem dX2_firstHeir_42 : decode cX2_firstHeir 42 = .ok (.iinc 3 1, 3) := by decide +kernel
theorem dX2_firstHeir_45 : decode cX2_firstHeir 45 = .ok (.goto (-43), 3) := by decide +kernel
theorem dX2_firstHeir_48 : decode cX2_firstHeir 48 = .ok (.iconst (-1), 1) := by decide +kernel
theorem dX2_firstHeir_49 : decode cX2_firstHeir 49 = .ok (.ireturn, 1) := by decide +kernel
set_option maxRecDepth 20000 in
theorem ggX2_letRoundGoBy_X2_isAlive : GoodIn wsX2_letRoundGoBy wsX2_isAlive := goodIn_r _ [5, 6, 94, 95, 96, 97, 98, 99, 100, 101, 102, 103, 104, 105] (by decide +kernel) (by decide +kernel)
set_option maxRecDepth 20000 in
theorem gX2_letRoundGoBy_X2_isAlive : GoodIn wsX2_letRoundGoBy (wsV RX2 72 RX2 yX2_isAlive wsX2_isAlive) := goodIn_app (goodIn_of _ (by decide +kernel)) ggX2_letRoundGoBy_X2_isAlive
set_option maxRecDepth 20000 in
theorem ggX2_letRoundGoBy_X2_dropDeadPredecessor : GoodIn wsX2_letRoundGoBy wsX2_dropDeadPredecessor := goodIn_r _ [10, 11, 12, 13, 14, 15, 16, 17, 18, 1, 2, 3, 4, 5, 6, 19, 20, 21, 22, 94, 95, 96, 97, 98, 99, 100, 101, 102, 103, 104, 105, 106, 107] (by decide +kernel) (by decide +kernel)
set_option maxRecDepth 20000 in
theorem gX2_letRoundGoBy_X2_dropDeadPredecessor : GoodIn wsX2_letRoundGoBy (wsV RX2 103 RX2 yX2_dropDeadPredecessor wsX2_dropDeadPredecessor) := goodIn_app (goodIn_of _ (by decide +kernel)) ggX2_letRoundGoBy_X2_dropDeadPredecessor
set_option maxRecDepth 20000 in
theorem ggX2_letRoundGoBy_X2_mendSuccessors : GoodIn wsX2_letRoundGoBy wsX2_mendSuccessors := goodIn_r _ [26, 11, 27, 28, 29, 4, 30, 31, 12, 13, 14, 15, 16, 17, 18, 1, 2, 3, 5, 6, 32, 33, 34, 35, 36, 37, 38, 39, 40, 41, 42, 43, 19, 20, 21, 22, 44, 45, 46, 47, 94, 95, 96, 97, 98, 99, 100, 101, 102, 103, 104, 105, 106, 107] (by decide +kernel) (by decide +kernel)
set_option maxRecDepth 20000 in
theorem gX2_letRoundGoBy_X2_mendSuccessors : GoodIn wsX2_letRoundGoBy (wsV RX2 106 RX2 yX2_mendSuccessors wsX2_mendSuccessors) := goodIn_app (goodIn_of _ (by decide +kernel)) ggX2_letRoundGoBy_X2_mendSuccessors
set_option maxRecDepth 20000 in
theorem ggX2_letRoundGoBy_X2_renewFingers : GoodIn wsX2_letRoundGoBy wsX2_renewFingers := goodIn_r _ [51, 52, 53, 54, 34, 55, 56, 57, 58, 59, 60, 61, 4, 62, 63, 64, 27, 28, 29, 30, 31, 12, 13, 14, 15, 16, 17, 18, 1, 2, 3, 5, 6, 65, 66, 67, 68, 69, 70, 71, 32, 33, 35, 19, 20, 21, 22, 94, 95, 96, 97, 98, 99, 100, 101, 102, 103, 104, 105, 106, 107] (by decide +kernel) (by decide +kernel)
set_option maxRecDepth 20000 in
theorem gX2_letRoundGoBy_X2_renewFingers : GoodIn wsX2_letRoundGoBy (wsV RX2 109 RX2 yX2_renewFingers wsX2_renewFingers) := goodIn_app (goodIn_of _ (by decide +kernel)) ggX2_letRoundGoBy_X2_renewFingers
set_option maxRecDepth 20000 in
theorem ggX2_letRoundGoBy_X2_spreadValues : GoodIn wsX2_letRoundGoBy wsX2_spreadValues := goodIn_r _ [75, 76, 12, 13, 14, 15, 16, 17, 18, 77, 78, 79, 4, 80, 11, 65, 66, 34, 67, 59, 60, 61, 62, 63, 64, 27, 28, 29, 30, 31, 1, 2, 3, 5, 6, 68, 69, 70, 71, 52, 32, 33, 35, 81, 82, 83, 84, 85, 19, 20, 21, 22, 86, 87, 88, 89, 90, 91, 92, 93, 94, 95, 96, 97, 98, 99, 100, 101, 102, 103, 104, 105, 106, 107] (by decide +kernel) (by decide +kernel)
set_option maxRecDepth 20000 in
theorem gX2_letRoundGoBy_X2_spreadValues : GoodIn wsX2_letRoundGoBy (wsV RX2 112 RX2 yX2_spreadValues wsX2_spreadValues) := goodIn_app (goodIn_of _ (by decide +kernel)) ggX2_letRoundGoBy_X2_spreadValues
theorem dX2_letRoundGoBy_0 : decode cX2_letRoundGoBy 0 = .ok (.iconst 0, 1) := by decide +kernel
theorem dX2_letRoundGoBy_1 : decode cX2_letRoundGoBy 1 = .ok (.istore_n 2, 1) := by decide +kernel
theorem dX2_letRoundGoBy_2 : decode cX2_letRoundGoBy 2 = .ok (.iload_n 2, 1) := by decide +kernel
theorem dX2_letRoundGoBy_3 : decode cX2_letRoundGoBy 3 = .ok (.bipush 64, 2) := by decide +kernel
theorem dX2_letRoundGoBy_5 : decode cX2_letRoundGoBy 5 = .ok (.if_icmp .ge 43, 3) := by decide +kernel
theorem dX2_letRoundGoBy_8 : decode cX2_letRoundGoBy 8 = .ok (.aload_n 0, 1) := by decide +kernel
theorem dX2_letRoundGoBy_9 : decode cX2_letRoundGoBy 9 = .ok (.iload_n 2, 1) := by decide +kernel
theorem dX2_letRoundGoBy_10 : decode cX2_letRoundGoBy 10 = .ok (.invokevirtual 72, 3) := by decide +kernel
theorem dX2_letRoundGoBy_13 : decode cX2_letRoundGoBy 13 = .ok (.ifCond .eq 29, 3) := by decide +kernel
theorem dX2_letRoundGoBy_16 : decode cX2_letRoundGoBy 16 = .ok (.aload_n 0, 1) := by decide +kernel
theorem dX2_letRoundGoBy_17 : decode cX2_letRoundGoBy 17 = .ok (.iload_n 2, 1) := by decide +kernel
theorem dX2_letRoundGoBy_18 : decode cX2_letRoundGoBy 18 = .ok (.invokevirtual 103, 3) := by decide +kernel
theorem dX2_letRoundGoBy_21 : decode cX2_letRoundGoBy 21 = .ok (.aload_n 0, 1) := by decide +kernel
theorem dX2_letRoundGoBy_22 : decode cX2_letRoundGoBy 22 = .ok (.iload_n 2, 1) := by decide +kernel
theorem dX2_letRoundGoBy_23 : decode cX2_letRoundGoBy 23 = .ok (.invokevirtual 106, 3) := by decide +kernel
theorem dX2_letRoundGoBy_26 : decode cX2_letRoundGoBy 26 = .ok (.aload_n 0, 1) := by decide +kernel
theorem dX2_letRoundGoBy_27 : decode cX2_letRoundGoBy 27 = .ok (.iload_n 2, 1) := by decide +kernel
theorem dX2_letRoundGoBy_28 : decode cX2_letRoundGoBy 28 = .ok (.invokevirtual 109, 3) := by decide +kernel
theorem dX2_letRoundGoBy_31 : decode cX2_letRoundGoBy 31 = .ok (.pop, 1) := by decide +kernel
theorem dX2_letRoundGoBy_32 : decode cX2_letRoundGoBy 32 = .ok (.iload_n 1, 1) := by decide +kernel
theorem dX2_letRoundGoBy_33 : decode cX2_letRoundGoBy 33 = .ok (.ifCond .eq 9, 3) := by decide +kernel
theorem dX2_letRoundGoBy_36 : decode cX2_letRoundGoBy 36 = .ok (.aload_n 0, 1) := by decide +kernel
theorem dX2_letRoundGoBy_37 : decode cX2_letRoundGoBy 37 = .ok (.iload_n 2, 1) := by decide +kernel
theorem dX2_letRoundGoBy_38 : decode cX2_letRoundGoBy 38 = .ok (.invokevirtual 112, 3) := by decide +kernel
theorem dX2_letRoundGoBy_41 : decode cX2_letRoundGoBy 41 = .ok (.pop, 1) := by decide +kernel
theorem dX2_letRoundGoBy_42 : decode cX2_letRoundGoBy 42 = .ok (.iinc 2 1, 3) := by decide +kernel
theorem dX2_letRoundGoBy_45 : decode cX2_letRoundGoBy 45 = .ok (.goto (-43), 3) := by decide +kernel
theorem dX2_letRoundGoBy_48 : decode cX2_letRoundGoBy 48 = .ok (.return_, 1) := by decide +kernel
set_option maxRecDepth 20000 in
theorem ggX2_dropDeadPredecessor_X1_at : GoodIn wsX2_dropDeadPredecessor wsX1_at := goodIn_r _ [6, 7, 8, 31, 32] (by decide +kernel) (by decide +kernel)
set_option maxRecDepth 20000 in
theorem gX2_dropDeadPredecessor_X1_at : GoodIn wsX2_dropDeadPredecessor (wsV RX2 85 RX1 yX1_at wsX1_at) := goodIn_app (goodIn_of _ (by decide +kernel)) ggX2_dropDeadPredecessor_X1_at
set_option maxRecDepth 20000 in
theorem ggX2_dropDeadPredecessor_X2_isAlive : GoodIn wsX2_dropDeadPredecessor wsX2_isAlive := goodIn_r _ [13, 14, 19, 20, 21, 22, 23, 24, 25, 26, 27, 28, 29, 30] (by decide +kernel) (by decide +kernel)
set_option maxRecDepth 20000 in
theorem gX2_dropDeadPredecessor_X2_isAlive : GoodIn wsX2_dropDeadPredecessor (wsV RX2 72 RX2 yX2_isAlive wsX2_isAlive) := goodIn_app (goodIn_of _ (by decide +kernel)) ggX2_dropDeadPredecessor_X2_isAlive
set_option maxRecDepth 20000 in
theorem ggX2_dropDeadPredecessor_X1_set : GoodIn wsX2_dropDeadPredecessor wsX1_set := goodIn_r _ [18, 7, 8, 31, 32] (by decide +kernel) (by decide +kernel)
set_option maxRecDepth 20000 in
theorem gX2_dropDeadPredecessor_X1_set : GoodIn wsX2_dropDeadPredecessor (wsV RX2 127 RX1 yX1_set wsX1_set) := goodIn_app (goodIn_of _ (by decide +kernel)) ggX2_dropDeadPredecessor_X1_set
theorem dX2_dropDeadPredecessor_0 : decode cX2_dropDeadPredecessor 0 = .ok (.aload_n 0, 1) := by decide +kernel
theorem dX2_dropDeadPredecessor_1 : decode cX2_dropDeadPredecessor 1 = .ok (.aload_n 0, 1) := by decide +kernel
theorem dX2_dropDeadPredecessor_2 : decode cX2_dropDeadPredecessor 2 = .ok (.getfield 22, 3) := by decide +kernel
theorem dX2_dropDeadPredecessor_5 : decode cX2_dropDeadPredecessor 5 = .ok (.iload_n 1, 1) := by decide +kernel
theorem dX2_dropDeadPredecessor_6 : decode cX2_dropDeadPredecessor 6 = .ok (.iconst 0, 1) := by decide +kernel
theorem dX2_dropDeadPredecessor_7 : decode cX2_dropDeadPredecessor 7 = .ok (.invokevirtual 85, 3) := by decide +kernel
theorem dX2_dropDeadPredecessor_10 : decode cX2_dropDeadPredecessor 10 = .ok (.invokevirtual 72, 3) := by decide +kernel
theorem dX2_dropDeadPredecessor_13 : decode cX2_dropDeadPredecessor 13 = .ok (.ifCond .ne 13, 3) := by decide +kernel
theorem dX2_dropDeadPredecessor_16 : decode cX2_dropDeadPredecessor 16 = .ok (.aload_n 0, 1) := by decide +kernel
theorem dX2_dropDeadPredecessor_17 : decode cX2_dropDeadPredecessor 17 = .ok (.getfield 22, 3) := by decide +kernel
theorem dX2_dropDeadPredecessor_20 : decode cX2_dropDeadPredecessor 20 = .ok (.iload_n 1, 1) := by decide +kernel
theorem dX2_dropDeadPredecessor_21 : decode cX2_dropDeadPredecessor 21 = .ok (.iconst 0, 1) := by decide +kernel
theorem dX2_dropDeadPredecessor_22 : decode cX2_dropDeadPredecessor 22 = .ok (.iconst (-1), 1) := by decide +kernel
theorem dX2_dropDeadPredecessor_23 : decode cX2_dropDeadPredecessor 23 = .ok (.invokevirtual 127, 3) := by decide +kernel
theorem dX2_dropDeadPredecessor_26 : decode cX2_dropDeadPredecessor 26 = .ok (.return_, 1) := by decide +kernel
set_option maxRecDepth 20000 in
theorem ggX2_mendSuccessors_X2_firstLivingSuccessor : GoodIn wsX2_mendSuccessors wsX2_firstLivingSuccessor := goodIn_r _ [6, 7, 8, 9, 10, 11, 12, 13, 14, 15, 16, 17, 5, 18, 19, 40, 41, 42, 43, 44, 45, 46, 47, 48, 49, 50, 51, 52, 53] (by decide +kernel) (by decide +kernel)
set_option maxRecDepth 20000 in
theorem gX2_mendSuccessors_X2_firstLivingSuccessor : GoodIn wsX2_mendSuccessors (wsV RX2 91 RX2 yX2_firstLivingSuccessor wsX2_firstLivingSuccessor) := goodIn_app (goodIn_of _ (by decide +kernel)) ggX2_mendSuccessors_X2_firstLivingSuccessor
set_option maxRecDepth 20000 in
theorem ggX2_mendSuccessors_X1_at : GoodIn wsX2_mendSuccessors wsX1_at := goodIn_r _ [12, 13, 14, 52, 53] (by decide +kernel) (by decide +kernel)
set_option maxRecDepth 20000 in
theorem gX2_mendSuccessors_X1_at : GoodIn wsX2_mendSuccessors (wsV RX2 85 RX1 yX1_at wsX1_at) := goodIn_app (goodIn_of _ (by decide +kernel)) ggX2_mendSuccessors_X1_at
set_option maxRecDepth 20000 in
theorem ggX2_mendSuccessors_X2_isAlive : GoodIn wsX2_mendSuccessors wsX2_isAlive := goodIn_r _ [18, 19, 40, 41, 42, 43, 44, 45, 46, 47, 48, 49, 50, 51] (by decide +kernel) (by decide +kernel)
set_option maxRecDepth 20000 in
theorem gX2_mendSuccessors_X2_isAlive : GoodIn wsX2_mendSuccessors (wsV RX2 72 RX2 yX2_isAlive wsX2_isAlive) := goodIn_app (goodIn_of _ (by decide +kernel)) ggX2_mendSuccessors_X2_isAlive
set_option maxRecDepth 20000 in
theorem ggX2_mendSuccessors_X0_isBetween : GoodIn wsX2_mendSuccessors wsX0_isBetween := goodIn_r _ [23] (by decide +kernel) (by decide +kernel)
set_option maxRecDepth 20000 in
theorem gX2_mendSuccessors_X0_isBetween : GoodIn wsX2_mendSuccessors (va_wsS RX2 166 yX0_isBetween wsX0_isBetween) := goodIn_app (goodIn_of _ (by decide +kernel)) ggX2_mendSuccessors_X0_isBetween
set_option maxRecDepth 20000 in
theorem ggX2_mendSuccessors_X2_follow : GoodIn wsX2_mendSuccessors wsX2_follow := goodIn_r _ [27, 7, 8, 9, 10, 11, 12, 13, 14, 28, 29, 30, 5, 31, 32, 33, 34, 35, 40, 41, 42, 43, 44, 45, 46, 47, 48, 49, 50, 51, 52, 53] (by decide +kernel) (by decide +kernel)
set_option maxRecDepth 20000 in
theorem gX2_mendSuccessors_X2_follow : GoodIn wsX2_mendSuccessors (wsV RX2 163 RX2 yX2_follow wsX2_follow) := goodIn_app (goodIn_of _ (by decide +kernel)) ggX2_mendSuccessors_X2_follow
set_option maxRecDepth 20000 in
theorem ggX2_mendSuccessors_X2_notifyOf : GoodIn wsX2_mendSuccessors wsX2_notifyOf := goodIn_r _ [39, 1, 8, 9, 10, 11, 12, 13, 14, 15, 16, 17, 5, 18, 19, 20, 21, 22, 23, 32, 33, 34, 35, 40, 41, 42, 43, 44, 45, 46, 47, 48, 49, 50, 51, 52, 53] (by decide +kernel) (by decide +kernel)
set_option maxRecDepth 20000 in
theorem gX2_mendSuccessors_X2_notifyOf : GoodIn wsX2_mendSuccessors (wsV RX2 172 RX2 yX2_notifyOf wsX2_notifyOf) := goodIn_app (goodIn_of _ (by decide +kernel)) ggX2_mendSuccessors_X2_notifyOf
theorem dX2_mendSuccessors_0 : decode cX2_mendSuccessors 0 = .ok (.aload_n 0, 1) := by decide +kernel
theorem dX2_mendSuccessors_1 : decode cX2_mendSuccessors 1 = .ok (.iload_n 1, 1) := by decide +kernel
theorem dX2_mendSuccessors_2 : decode cX2_mendSuccessors 2 = .ok (.invokevirtual 91, 3) := by decide +kernel
theorem dX2_mendSuccessors_5 : decode cX2_mendSuccessors 5 = .ok (.istore_n 2, 1) := by decide +kernel
theorem dX2_mendSuccessors_6 : decode cX2_mendSuccessors 6 = .ok (.aload_n 0, 1) := by decide +kernel
theorem dX2_mendSuccessors_7 : decode cX2_mendSuccessors 7 = .ok (.getfield 22, 3) := by decide +kernel
theorem dX2_mendSuccessors_10 : decode cX2_mendSuccessors 10 = .ok (.iload_n 2, 1) := by decide +kernel
theorem dX2_mendSuccessors_11 : decode cX2_mendSuccessors 11 = .ok (.iconst 0, 1) := by decide +kernel
theorem dX2_mendSuccessors_12 : decode cX2_mendSuccessors 12 = .ok (.invokevirtual 85, 3) := by decide +kernel
theorem dX2_mendSuccessors_15 : decode cX2_mendSuccessors 15 = .ok (.istore_n 3, 1) := by decide +kernel
theorem dX2_mendSuccessors_16 : decode cX2_mendSuccessors 16 = .ok (.aload_n 0, 1) := by decide +kernel
theorem dX2_mendSuccessors_17 : decode cX2_mendSuccessors 17 = .ok (.iload_n 3, 1) := by decide +kernel
theorem dX2_mendSuccessors_18 : decode cX2_mendSuccessors 18 = .ok (.invokevirtual 72, 3) := by decide +kernel
theorem dX2_mendSuccessors_21 : decode cX2_mendSuccessors 21 = .ok (.ifCond .eq 14, 3) := by decide +kernel
theorem dX2_mendSuccessors_24 : decode cX2_mendSuccessors 24 = .ok (.iload_n 3, 1) := by decide +kernel
theorem dX2_mendSuccessors_25 : decode cX2_mendSuccessors 25 = .ok (.iload_n 1, 1) := by decide +kernel
theorem dX2_mendSuccessors_26 : decode cX2_mendSuccessors 26 = .ok (.iload_n 2, 1) := by decide +kernel
theorem dX2_mendSuccessors_27 : decode cX2_mendSuccessors 27 = .ok (.invokestatic 166, 3) := by decide +kernel
theorem dX2_mendSuccessors_30 : decode cX2_mendSuccessors 30 = .ok (.ifCond .eq 5, 3) := by decide +kernel
theorem dX2_mendSuccessors_33 : decode cX2_mendSuccessors 33 = .ok (.iload_n 3, 1) := by decide +kernel
theorem dX2_mendSuccessors_34 : decode cX2_mendSuccessors 34 = .ok (.istore_n 2, 1) := by decide +kernel
theorem dX2_mendSuccessors_35 : decode cX2_mendSuccessors 35 = .ok (.aload_n 0, 1) := by decide +kernel
theorem dX2_mendSuccessors_36 : decode cX2_mendSuccessors 36 = .ok (.iload_n 1, 1) := by decide +kernel
theorem dX2_mendSuccessors_37 : decode cX2_mendSuccessors 37 = .ok (.iload_n 2, 1) := by decide +kernel
theorem dX2_mendSuccessors_38 : decode cX2_mendSuccessors 38 = .ok (.invokevirtual 163, 3) := by decide +kernel
theorem dX2_mendSuccessors_41 : decode cX2_mendSuccessors 41 = .ok (.aload_n 0, 1) := by decide +kernel
theorem dX2_mendSuccessors_42 : decode cX2_mendSuccessors 42 = .ok (.iload_n 1, 1) := by decide +kernel
theorem dX2_mendSuccessors_43 : decode cX2_mendSuccessors 43 = .ok (.iload_n 2, 1) := by decide +kernel
theorem dX2_mendSuccessors_44 : decode cX2_mendSuccessors 44 = .ok (.invokevirtual 172, 3) := by decide +kernel
theorem dX2_mendSuccessors_47 : decode cX2_mendSuccessors 47 = .ok (.return_, 1) := by decide +kernel
set_option maxRecDepth 20000 in
theorem ggX2_notifyOf_X1_at : GoodIn wsX2_notifyOf wsX1_at := goodIn_r _ [6, 7, 8, 35, 36] (by decide +kernel) (by decide +kernel)
set_option maxRecDepth 20000 in
theorem gX2_notifyOf_X1_at : GoodIn wsX2_notifyOf (wsV RX2 85 RX1 yX1_at wsX1_at) := goodIn_app (goodIn_of _ (by decide +kernel)) ggX2_notifyOf_X1_at
set_option maxRecDepth 20000 in
theorem ggX2_notifyOf_X2_isAlive : GoodIn wsX2_notifyOf wsX2_isAlive := goodIn_r _ [13, 14, 23, 24, 25, 26, 27, 28, 29, 30, 31, 32, 33, 34] (by decide +kernel) (by decide +kernel)
set_option maxRecDepth 20000 in
theorem gX2_notifyOf_X2_isAlive : GoodIn wsX2_notifyOf (wsV RX2 72 RX2 yX2_isAlive wsX2_isAlive) := goodIn_app (goodIn_of _ (by decide +kernel)) ggX2_notifyOf_X2_isAlive
set_option maxRecDepth 20000 in
theorem ggX2_notifyOf_X0_isBetween : GoodIn wsX2_notifyOf wsX0_isBetween := goodIn_r _ [18] (by decide +kernel) (by decide +kernel)
set_option maxRecDepth 20000 in
theorem gX2_notifyOf_X0_isBetween : GoodIn wsX2_notifyOf (va_wsS RX2 166 yX0_isBetween wsX0_isBetween) := goodIn_app (goodIn_of _ (by decide +kernel)) ggX2_notifyOf_X0_isBetween
set_option maxRecDepth 20000 in
theorem ggX2_notifyOf_X1_set : GoodIn wsX2_notifyOf wsX1_set := goodIn_r _ [22, 7, 8, 35, 36] (by decide +kernel) (by decide +kernel)
set_option maxRecDepth 20000 in
theorem gX2_notifyOf_X1_set : GoodIn wsX2_notifyOf (wsV RX2 127 RX1 yX1_set wsX1_set) := goodIn_app (goodIn_of _ (by decide +kernel)) ggX2_notifyOf_X1_set
theorem dX2_notifyOf_0 : decode cX2_notifyOf 0 = .ok (.aload_n 0, 1) := by decide +kernel
theorem dX2_notifyOf_1 : decode cX2_notifyOf 1 = .ok (.getfield 22, 3) := by decide +kernel
theorem dX2_notifyOf_4 : decode cX2_notifyOf 4 = .ok (.iload_n 2, 1) := by decide +kernel
theorem dX2_notifyOf_5 : decode cX2_notifyOf 5 = .ok (.iconst 0, 1) := by decide +kernel
theorem dX2_notifyOf_6 : decode cX2_notifyOf 6 = .ok (.invokevirtual 85, 3) := by decide +kernel
theorem dX2_notifyOf_9 : decode cX2_notifyOf 9 = .ok (.istore_n 3, 1) := by decide +kernel
theorem dX2_notifyOf_10 : decode cX2_notifyOf 10 = .ok (.aload_n 0, 1) := by decide +kernel
theorem dX2_notifyOf_11 : decode cX2_notifyOf 11 = .ok (.iload_n 3, 1) := by decide +kernel
theorem dX2_notifyOf_12 : decode cX2_notifyOf 12 = .ok (.invokevirtual 72, 3) := by decide +kernel
theorem dX2_notifyOf_15 : decode cX2_notifyOf 15 = .ok (.ifCond .eq 12, 3) := by decide +kernel
theorem dX2_notifyOf_18 : decode cX2_notifyOf 18 = .ok (.iload_n 1, 1) := by decide +kernel
theorem dX2_notifyOf_19 : decode cX2_notifyOf 19 = .ok (.iload_n 3, 1) := by decide +kernel
theorem dX2_notifyOf_20 : decode cX2_notifyOf 20 = .ok (.iload_n 2, 1) := by decide +kernel
theorem dX2_notifyOf_21 : decode cX2_notifyOf 21 = .ok (.invokestatic 166, 3) := by decide +kernel
theorem dX2_notifyOf_24 : decode cX2_notifyOf 24 = .ok (.ifCond .eq 13, 3) := by decide +kernel
theorem dX2_notifyOf_27 : decode cX2_notifyOf 27 = .ok (.aload_n 0, 1) := by decide +kernel
theorem dX2_notifyOf_28 : decode cX2_notifyOf 28 = .ok (.getfield 22, 3) := by decide +kernel
theorem dX2_notifyOf_31 : decode cX2_notifyOf 31 = .ok (.iload_n 2, 1) := by decide +kernel
theorem dX2_notifyOf_32 : decode cX2_notifyOf 32 = .ok (.iconst 0, 1) := by decide +kernel
theorem dX2_notifyOf_33 : decode cX2_notifyOf 33 = .ok (.iload_n 1, 1) := by decide +kernel
theorem dX2_notifyOf_34 : decode cX2_notifyOf 34 = .ok (.invokevirtual 127, 3) := by decide +kernel
theorem dX2_notifyOf_37 : decode cX2_notifyOf 37 = .ok (.return_, 1) := by decide +kernel
set_option maxRecDepth 20000 in
theorem ggX2_renewFingers_X0_fingerStart : GoodIn wsX2_renewFingers wsX0_fingerStart := goodIn_r _ [5, 6, 7, 4, 8] (by decide +kernel) (by decide +kernel)
set_option maxRecDepth 20000 in
theorem gX2_renewFingers_X0_fingerStart : GoodIn wsX2_renewFingers (va_wsS RX2 175 yX0_fingerStart wsX0_fingerStart) := goodIn_app (goodIn_of _ (by decide +kernel)) ggX2_renewFingers_X0_fingerStart
set_option maxRecDepth 20000 in
theorem ggX2_renewFingers_X2_find : GoodIn wsX2_renewFingers wsX2_find := goodIn_r _ [13, 14, 15, 16, 17, 18, 12, 19, 20, 21, 22, 23, 24, 25, 26, 27, 28, 29, 30, 31, 32, 33, 34, 4, 35, 36, 37, 38, 39, 1, 40, 41, 42, 47, 48, 49, 50, 51, 52, 53, 54, 55, 56, 57, 58, 59, 60] (by decide +kernel) (by decide +kernel)
set_option maxRecDepth 20000 in
theorem gX2_renewFingers_X2_find : GoodIn wsX2_renewFingers (wsV RX2 81 RX2 yX2_find wsX2_find) := goodIn_app (goodIn_of _ (by decide +kernel)) ggX2_renewFingers_X2_find
set_option maxRecDepth 20000 in
theorem ggX2_renewFingers_X1_at : GoodIn wsX2_renewFingers wsX1_at := goodIn_r _ [25, 26, 27, 59, 60] (by decide +kernel) (by decide +kernel)
set_option maxRecDepth 20000 in
theorem gX2_renewFingers_X1_at : GoodIn wsX2_renewFingers (wsV RX2 85 RX1 yX1_at wsX1_at) := goodIn_app (goodIn_of _ (by decide +kernel)) ggX2_renewFingers_X1_at
set_option maxRecDepth 20000 in
theorem ggX2_renewFingers_X1_set : GoodIn wsX2_renewFingers wsX1_set := goodIn_r _ [46, 26, 27, 59, 60] (by decide +kernel) (by decide +kernel)
set_option maxRecDepth 20000 in
theorem gX2_renewFingers_X1_set : GoodIn wsX2_renewFingers (wsV RX2 127 RX1 yX1_set wsX1_set) := goodIn_app (goodIn_of _ (by decide +kernel)) ggX2_renewFingers_X1_set
theorem dX2_renewFingers_0 : decode cX2_renewFingers 0 = .ok (.iconst 0, 1) := by decide +kernel
theorem dX2_renewFingers_1 : decode cX2_renewFingers 1 = .ok (.istore_n 2, 1) := by decide +kernel
theorem dX2_renewFingers_2 : decode cX2_renewFingers 2 = .ok (.iconst 0, 1) := by decide +kernel
theorem dX2_renewFingers_3 : decode cX2_renewFingers 3 = .ok (.istore_n 3, 1) := by decide +kernel
theorem dX2_renewFingers_4 : decode cX2_renewFingers 4 = .ok (.iload_n 3, 1) := by decide +kernel
theorem dX2_renewFingers_5 : decode cX2_renewFingers 5 = .ok (.bipush 6, 2) := by decide +kernel
theorem dX2_renewFingers_7 : decode cX2_renewFingers 7 = .ok (.if_icmp .ge 49, 3) := by decide +kernel
theorem dX2_renewFingers_10 : decode cX2_renewFingers 10 = .ok (.aload_n 0, 1) := by decide +kernel
theorem dX2_renewFingers_11 : decode cX2_renewFingers 11 = .ok (.iload_n 1, 1) := by decide +kernel
theorem dX2_renewFingers_12 : decode cX2_renewFingers 12 = .ok (.iload_n 1, 1) := by decide +kernel
theorem dX2_renewFingers_13 : decode cX2_renewFingers 13 = .ok (.iload_n 3, 1) := by decide +kernel
theorem dX2_renewFingers_14 : decode cX2_renewFingers 14 = .ok (.invokestatic 175, 3) := by decide +kernel
theorem dX2_renewFingers_17 : decode cX2_renewFingers 17 = .ok (.invokevirtual 81, 3) := by decide +kernel
theorem dX2_renewFingers_20 : decode cX2_renewFingers 20 = .ok (.istore 4, 2) := by decide +kernel
theorem dX2_renewFingers_22 : decode cX2_renewFingers 22 = .ok (.iload 4, 2) := by decide +kernel
theorem dX2_renewFingers_24 : decode cX2_renewFingers 24 = .ok (.aload_n 0, 1) := by decide +kernel
theorem dX2_renewFingers_25 : decode cX2_renewFingers 25 = .ok (.getfield 25, 3) := by decide +kernel
theorem dX2_renewFingers_28 : decode cX2_renewFingers 28 = .ok (.iload_n 1, 1) := by decide +kernel
theorem dX2_renewFingers_29 : decode cX2_renewFingers 29 = .ok (.iload_n 3, 1) := by decide +kernel
theorem dX2_renewFingers_30 : decode cX2_renewFingers 30 = .ok (.invokevirtual 85, 3) := by decide +kernel
theorem dX2_renewFingers_33 : decode cX2_renewFingers 33 = .ok (.if_icmp .eq 6, 3) := by decide +kernel
theorem dX2_renewFingers_36 : decode cX2_renewFingers 36 = .ok (.iinc 2 1, 3) := by decide +kernel
theorem dX2_renewFingers_39 : decode cX2_renewFingers 39 = .ok (.aload_n 0, 1) := by decide +kernel
theorem dX2_renewFingers_40 : decode cX2_renewFingers 40 = .ok (.getfield 25, 3) := by decide +kernel
theorem dX2_renewFingers_43 : decode cX2_renewFingers 43 = .ok (.iload_n 1, 1) := by decide +kernel
theorem dX2_renewFingers_44 : decode cX2_renewFingers 44 = .ok (.iload_n 3, 1) := by decide +kernel
theorem dX2_renewFingers_45 : decode cX2_renewFingers 45 = .ok (.iload 4, 2) := by decide +kernel
theorem dX2_renewFingers_47 : decode cX2_renewFingers 47 = .ok (.invokevirtual 127, 3) := by decide +kernel
theorem dX2_renewFingers_50 : decode cX2_renewFingers 50 = .ok (.iinc 3 1, 3) := by decide +kernel
theorem dX2_renewFingers_53 : decode cX2_renewFingers 53 = .ok (.goto (-49), 3) := by decide +kernel
theorem dX2_renewFingers_56 : decode cX2_renewFingers 56 = .ok (.iload_n 2, 1) := by decide +kernel
theorem dX2_renewFingers_57 : decode cX2_renewFingers 57 = .ok (.ireturn, 1) := by decide +kernel
set_option maxRecDepth 20000 in
theorem ggX2_spreadValues_X1_at : GoodIn wsX2_spreadValues wsX1_at := goodIn_r _ [6, 7, 8, 72, 73] (by decide +kernel) (by decide +kernel)
set_option maxRecDepth 20000 in
theorem gX2_spreadValues_X1_at : GoodIn wsX2_spreadValues (wsV RX2 85 RX1 yX1_at wsX1_at) := goodIn_app (goodIn_of _ (by decide +kernel)) ggX2_spreadValues_X1_at
set_option maxRecDepth 20000 in
theorem ggX2_spreadValues_X2_spreadValue : GoodIn wsX2_spreadValues wsX2_spreadValue := goodIn_r _ [13, 14, 2, 3, 4, 5, 6, 7, 8, 15, 16, 17, 18, 19, 20, 21, 12, 22, 23, 24, 25, 26, 27, 28, 29, 30, 31, 32, 33, 34, 35, 36, 37, 38, 39, 40, 41, 42, 43, 44, 45, 46, 47, 1, 48, 49, 50, 51, 52, 53, 54, 55, 56, 57, 58, 59, 60, 61, 62, 63, 64, 65, 66, 67, 68, 69, 70, 71, 72, 73] (by decide +kernel) (by decide +kernel)
set_option maxRecDepth 20000 in
theorem gX2_spreadValues_X2_spreadValue : GoodIn wsX2_spreadValues (wsV RX2 178 RX2 yX2_spreadValue wsX2_spreadValue) := goodIn_app (goodIn_of _ (by decide +kernel)) ggX2_spreadValues_X2_spreadValue
theorem dX2_spreadValues_0 : decode cX2_spreadValues 0 = .ok (.iconst 0, 1) := by decide +kernel
theorem dX2_spreadValues_1 : decode cX2_spreadValues 1 = .ok (.istore_n 2, 1) := by decide +kernel
theorem dX2_spreadValues_2 : decode cX2_spreadValues 2 = .ok (.iconst 0, 1) := by decide +kernel
theorem dX2_spreadValues_3 : decode cX2_spreadValues 3 = .ok (.istore_n 3, 1) := by decide +kernel
theorem dX2_spreadValues_4 : decode cX2_spreadValues 4 = .ok (.iload_n 3, 1) := by decide +kernel
theorem dX2_spreadValues_5 : decode cX2_spreadValues 5 = .ok (.bipush 64, 2) := by decide +kernel
theorem dX2_spreadValues_7 : decode cX2_spreadValues 7 = .ok (.if_icmp .ge 31, 3) := by decide +kernel
theorem dX2_spreadValues_10 : decode cX2_spreadValues 10 = .ok (.aload_n 0, 1) := by decide +kernel
theorem dX2_spreadValues_11 : decode cX2_spreadValues 11 = .ok (.getfield 28, 3) := by decide +kernel
theorem dX2_spreadValues_14 : decode cX2_spreadValues 14 = .ok (.iload_n 1, 1) := by decide +kernel
theorem dX2_spreadValues_15 : decode cX2_spreadValues 15 = .ok (.iload_n 3, 1) := by decide +kernel
theorem dX2_spreadValues_16 : decode cX2_spreadValues 16 = .ok (.invokevirtual 85, 3) := by decide +kernel
theorem dX2_spreadValues_19 : decode cX2_spreadValues 19 = .ok (.iconst (-1), 1) := by decide +kernel
theorem dX2_spreadValues_20 : decode cX2_spreadValues 20 = .ok (.if_icmp .eq 12, 3) := by decide +kernel
theorem dX2_spreadValues_23 : decode cX2_spreadValues 23 = .ok (.iload_n 2, 1) := by decide +kernel
theorem dX2_spreadValues_24 : decode cX2_spreadValues 24 = .ok (.aload_n 0, 1) := by decide +kernel
theorem dX2_spreadValues_25 : decode cX2_spreadValues 25 = .ok (.iload_n 1, 1) := by decide +kernel
theorem dX2_spreadValues_26 : decode cX2_spreadValues 26 = .ok (.iload_n 3, 1) := by decide +kernel
theorem dX2_spreadValues_27 : decode cX2_spreadValues 27 = .ok (.invokevirtual 178, 3) := by decide +kernel
theorem dX2_spreadValues_30 : decode cX2_spreadValues 30 = .ok (.iadd, 1) := by decide +kernel
theorem dX2_spreadValues_31 : decode cX2_spreadValues 31 = .ok (.istore_n 2, 1) := by decide +kernel
theorem dX2_spreadValues_32 : decode cX2_spreadValues 32 = .ok (.iinc 3 1, 3) := by decide +kernel
theorem dX2_spreadValues_35 : decode cX2_spreadValues 35 = .ok (.goto (-31), 3) := by decide +kernel
theorem dX2_spreadValues_38 : decode cX2_spreadValues 38 = .ok (.iload_n 2, 1) := by decide +kernel
theorem dX2_spreadValues_39 : decode cX2_spreadValues 39 = .ok (.ireturn, 1) := by decide +kernel
set_option maxRecDepth 20000 in
theorem ggX2_spreadValue_X1_at : GoodIn wsX2_spreadValue wsX1_at := goodIn_r _ [6, 7, 8, 68, 69] (by decide +kernel) (by decide +kernel)
set_option maxRecDepth 20000 in
theorem gX2_spreadValue_X1_at : GoodIn wsX2_spreadValue (wsV RX2 85 RX1 yX1_at wsX1_at) := goodIn_app (goodIn_of _ (by decide +kernel)) ggX2_spreadValue_X1_at
set_option maxRecDepth 20000 in
theorem ggX2_spreadValue_X0_isUpTo : GoodIn wsX2_spreadValue wsX0_isUpTo := goodIn_r _ [12] (by decide +kernel) (by decide +kernel)
set_option maxRecDepth 20000 in
theorem gX2_spreadValue_X0_isUpTo : GoodIn wsX2_spreadValue (va_wsS RX2 181 yX0_isUpTo wsX0_isUpTo) := goodIn_app (goodIn_of _ (by decide +kernel)) ggX2_spreadValue_X0_isUpTo
set_option maxRecDepth 20000 in
theorem ggX2_spreadValue_X2_find : GoodIn wsX2_spreadValue wsX2_find := goodIn_r _ [17, 18, 19, 20, 21, 22, 16, 23, 24, 2, 3, 4, 5, 6, 7, 8, 25, 26, 27, 28, 29, 9, 10, 11, 12, 30, 31, 32, 33, 34, 35, 36, 37, 56, 57, 58, 59, 60, 61, 62, 63, 64, 65, 66, 67, 68, 69] (by decide +kernel) (by decide +kernel)
set_option maxRecDepth 20000 in
theorem gX2_spreadValue_X2_find : GoodIn wsX2_spreadValue (wsV RX2 81 RX2 yX2_find wsX2_find) := goodIn_app (goodIn_of _ (by decide +kernel)) ggX2_spreadValue_X2_find
set_option maxRecDepth 20000 in
theorem ggX2_spreadValue_X2_giveCopy : GoodIn wsX2_spreadValue wsX2_giveCopy := goodIn_r _ [41, 42, 43, 2, 3, 4, 5, 6, 7, 8, 44, 45, 46, 47, 56, 57, 58, 59, 60, 61, 62, 63, 64, 65, 66, 67, 68, 69] (by decide +kernel) (by decide +kernel)
set_option maxRecDepth 20000 in
theorem gX2_spreadValue_X2_giveCopy : GoodIn wsX2_spreadValue (wsV RX2 159 RX2 yX2_giveCopy wsX2_giveCopy) := goodIn_app (goodIn_of _ (by decide +kernel)) ggX2_spreadValue_X2_giveCopy
set_option maxRecDepth 20000 in
theorem ggX2_spreadValue_X2_copyToHeirs : GoodIn wsX2_spreadValue wsX2_copyToHeirs := goodIn_r _ [51, 52, 53, 54, 16, 55, 24, 2, 3, 4, 5, 6, 7, 8, 25, 26, 27, 28, 29, 38, 39, 40, 41, 42, 43, 44, 45, 46, 47, 56, 57, 58, 59, 60, 61, 62, 63, 64, 65, 66, 67, 68, 69] (by decide +kernel) (by decide +kernel)
set_option maxRecDepth 20000 in
theorem gX2_spreadValue_X2_copyToHeirs : GoodIn wsX2_spreadValue (wsV RX2 130 RX2 yX2_copyToHeirs wsX2_copyToHeirs) := goodIn_app (goodIn_of _ (by decide +kernel)) ggX2_spreadValue_X2_copyToHeirs
theorem dX2_spreadValue_0 : decode cX2_spreadValue 0 = .ok (.aload_n 0, 1) := by decide +kernel
theorem dX2_spreadValue_1 : decode cX2_spreadValue 1 = .ok (.getfield 22, 3) := by decide +kernel
theorem dX2_spreadValue_4 : decode cX2_spreadValue 4 = .ok (.iload_n 1, 1) := by decide +kernel
theorem dX2_spreadValue_5 : decode cX2_spreadValue 5 = .ok (.iconst 0, 1) := by decide +kernel
theorem dX2_spreadValue_6 : decode cX2_spreadValue 6 = .ok (.invokevirtual 85, 3) := by decide +kernel
theorem dX2_spreadValue_9 : decode cX2_spreadValue 9 = .ok (.istore_n 3, 1) := by decide +kernel
theorem dX2_spreadValue_10 : decode cX2_spreadValue 10 = .ok (.iload_n 3, 1) := by decide +kernel
theorem dX2_spreadValue_11 : decode cX2_spreadValue 11 = .ok (.iconst (-1), 1) := by decide +kernel
theorem dX2_spreadValue_12 : decode cX2_spreadValue 12 = .ok (.if_icmp .eq 25, 3) := by decide +kernel
theorem dX2_spreadValue_15 : decode cX2_spreadValue 15 = .ok (.iload_n 2, 1) := by decide +kernel
theorem dX2_spreadValue_16 : decode cX2_spreadValue 16 = .ok (.iload_n 3, 1) := by decide +kernel
theorem dX2_spreadValue_17 : decode cX2_spreadValue 17 = .ok (.iload_n 1, 1) := by decide +kernel
theorem dX2_spreadValue_18 : decode cX2_spreadValue 18 = .ok (.invokestatic 181, 3) := by decide +kernel
theorem dX2_spreadValue_21 : decode cX2_spreadValue 21 = .ok (.ifCond .ne 16, 3) := by decide +kernel
theorem dX2_spreadValue_24 : decode cX2_spreadValue 24 = .ok (.aload_n 0, 1) := by decide +kernel
theorem dX2_spreadValue_25 : decode cX2_spreadValue 25 = .ok (.iload_n 1, 1) := by decide +kernel
theorem dX2_spreadValue_26 : decode cX2_spreadValue 26 = .ok (.aload_n 0, 1) := by decide +kernel
theorem dX2_spreadValue_27 : decode cX2_spreadValue 27 = .ok (.iload_n 1, 1) := by decide +kernel
theorem dX2_spreadValue_28 : decode cX2_spreadValue 28 = .ok (.iload_n 2, 1) := by decide +kernel
theorem dX2_spreadValue_29 : decode cX2_spreadValue 29 = .ok (.invokevirtual 81, 3) := by decide +kernel
theorem dX2_spreadValue_32 : decode cX2_spreadValue 32 = .ok (.iload_n 2, 1) := by decide +kernel
theorem dX2_spreadValue_33 : decode cX2_spreadValue 33 = .ok (.invokevirtual 159, 3) := by decide +kernel
theorem dX2_spreadValue_36 : decode cX2_spreadValue 36 = .ok (.ireturn, 1) := by decide +kernel
theorem dX2_spreadValue_37 : decode cX2_spreadValue 37 = .ok (.aload_n 0, 1) := by decide +kernel
theorem dX2_spreadValue_38 : decode cX2_spreadValue 38 = .ok (.iload_n 1, 1) := by decide +kernel
theorem dX2_spreadValue_39 : decode cX2_spreadValue 39 = .ok (.iload_n 2, 1) := by decide +kernel
theorem dX2_spreadValue_40 : decode cX2_spreadValue 40 = .ok (.invokevirtual 130, 3) := by decide +kernel
theorem dX2_spreadValue_43 : decode cX2_spreadValue 43 = .ok (.ireturn, 1) := by decide +kernel
set_option maxRecDepth 20000 in
theorem ggX2_find_X2_firstLivingSuccessor : GoodIn wsX2_find wsX2_firstLivingSuccessor := goodIn_r _ [7, 8, 9, 10, 11, 12, 13, 14, 15, 16, 17, 18, 6, 19, 20, 33, 34, 35, 36, 37, 38, 39, 40, 41, 42, 43, 44, 45, 46] (by decide +kernel) (by decide +kernel)
set_option maxRecDepth 20000 in
theorem gX2_find_X2_firstLivingSuccessor : GoodIn wsX2_find (wsV RX2 91 RX2 yX2_firstLivingSuccessor wsX2_firstLivingSuccessor) := goodIn_app (goodIn_of _ (by decide +kernel)) ggX2_find_X2_firstLivingSuccessor
set_option maxRecDepth 20000 in
theorem ggX2_find_X0_isUpTo : GoodIn wsX2_find wsX0_isUpTo := goodIn_r _ [24] (by decide +kernel) (by decide +kernel)
set_option maxRecDepth 20000 in
theorem gX2_find_X0_isUpTo : GoodIn wsX2_find (va_wsS RX2 181 yX0_isUpTo wsX0_isUpTo) := goodIn_app (goodIn_of _ (by decide +kernel)) ggX2_find_X0_isUpTo
set_option maxRecDepth 20000 in
theorem ggX2_find_X2_hopTowards : GoodIn wsX2_find wsX2_hopTowards := goodIn_r _ [28, 29, 9, 10, 11, 12, 13, 14, 15, 16, 17, 18, 6, 19, 20, 30, 31, 23, 32, 33, 34, 35, 36, 37, 38, 39, 40, 41, 42, 43, 44, 45, 46] (by decide +kernel) (by decide +kernel)
set_option maxRecDepth 20000 in
theorem gX2_find_X2_hopTowards : GoodIn wsX2_find (wsV RX2 184 RX2 yX2_hopTowards wsX2_hopTowards) := goodIn_app (goodIn_of _ (by decide +kernel)) ggX2_find_X2_hopTowards
theorem dX2_find_0 : decode cX2_find 0 = .ok (.iload_n 1, 1) := by decide +kernel
theorem dX2_find_1 : decode cX2_find 1 = .ok (.istore_n 3, 1) := by decide +kernel
theorem dX2_find_2 : decode cX2_find 2 = .ok (.iconst 0, 1) := by decide +kernel
theorem dX2_find_3 : decode cX2_find 3 = .ok (.istore 4, 2) := by decide +kernel
theorem dX2_find_5 : decode cX2_find 5 = .ok (.iload 4, 2) := by decide +kernel
theorem dX2_find_7 : decode cX2_find 7 = .ok (.aload_n 0, 1) := by decide +kernel
theorem dX2_find_8 : decode cX2_find 8 = .ok (.getfield 38, 3) := by decide +kernel
theorem dX2_find_11 : decode cX2_find 11 = .ok (.arraylength, 1) := by decide +kernel
theorem dX2_find_12 : decode cX2_find 12 = .ok (.if_icmp .ge 52, 3) := by decide +kernel
theorem dX2_find_15 : decode cX2_find 15 = .ok (.aload_n 0, 1) := by decide +kernel
theorem dX2_find_16 : decode cX2_find 16 = .ok (.getfield 38, 3) := by decide +kernel
theorem dX2_find_19 : decode cX2_find 19 = .ok (.iload 4, 2) := by decide +kernel
theorem dX2_find_21 : decode cX2_find 21 = .ok (.iload_n 3, 1) := by decide +kernel
theorem dX2_find_22 : decode cX2_find 22 = .ok (.iastore, 1) := by decide +kernel
theorem dX2_find_23 : decode cX2_find 23 = .ok (.aload_n 0, 1) := by decide +kernel
theorem dX2_find_24 : decode cX2_find 24 = .ok (.iload 4, 2) := by decide +kernel
theorem dX2_find_26 : decode cX2_find 26 = .ok (.putfield 42, 3) := by decide +kernel
theorem dX2_find_29 : decode cX2_find 29 = .ok (.aload_n 0, 1) := by decide +kernel
theorem dX2_find_30 : decode cX2_find 30 = .ok (.iload_n 3, 1) := by decide +kernel
theorem dX2_find_31 : decode cX2_find 31 = .ok (.invokevirtual 91, 3) := by decide +kernel
theorem dX2_find_34 : decode cX2_find 34 = .ok (.istore 5, 2) := by decide +kernel
theorem dX2_find_36 : decode cX2_find 36 = .ok (.iload_n 2, 1) := by decide +kernel
theorem dX2_find_37 : decode cX2_find 37 = .ok (.iload_n 3, 1) := by decide +kernel
theorem dX2_find_38 : decode cX2_find 38 = .ok (.iload 5, 2) := by decide +kernel
theorem dX2_find_40 : decode cX2_find 40 = .ok (.invokestatic 181, 3) := by decide +kernel
theorem dX2_find_43 : decode cX2_find 43 = .ok (.ifCond .eq 6, 3) := by decide +kernel
theorem dX2_find_46 : decode cX2_find 46 = .ok (.iload 5, 2) := by decide +kernel
theorem dX2_find_48 : decode cX2_find 48 = .ok (.ireturn, 1) := by decide +kernel
theorem dX2_find_49 : decode cX2_find 49 = .ok (.aload_n 0, 1) := by decide +kernel
theorem dX2_find_50 : decode cX2_find 50 = .ok (.iload_n 2, 1) := by decide +kernel
theorem dX2_find_51 : decode cX2_find 51 = .ok (.iload_n 3, 1) := by decide +kernel
theorem dX2_find_52 : decode cX2_find 52 = .ok (.iload 5, 2) := by decide +kernel
theorem dX2_find_54 : decode cX2_find 54 = .ok (.invokevirtual 184, 3) := by decide +kernel
theorem dX2_find_57 : decode cX2_find 57 = .ok (.istore_n 3, 1) := by decide +kernel
theorem dX2_find_58 : decode cX2_find 58 = .ok (.iinc 4 1, 3) := by decide +kernel
theorem dX2_find_61 : decode cX2_find 61 = .ok (.goto (-56), 3) := by decide +kernel
theorem dX2_find_64 : decode cX2_find 64 = .ok (.iload_n 3, 1) := by decide +kernel
theorem dX2_find_65 : decode cX2_find 65 = .ok (.ireturn, 1) := by decide +kernel
set_option maxRecDepth 20000 in
theorem ggX2_hopTowards_X1_at : GoodIn wsX2_hopTowards wsX1_at := goodIn_r _ [6, 7, 8, 31, 32] (by decide +kernel) (by decide +kernel)
set_option maxRecDepth 20000 in
theorem gX2_hopTowards_X1_at : GoodIn wsX2_hopTowards (wsV RX2 85 RX1 yX1_at wsX1_at) := goodIn_app (goodIn_of _ (by decide +kernel)) ggX2_hopTowards_X1_at
set_option maxRecDepth 20000 in
theorem ggX2_hopTowards_X2_isAlive : GoodIn wsX2_hopTowards wsX2_isAlive := goodIn_r _ [13, 14, 19, 20, 21, 22, 23, 24, 25, 26, 27, 28, 29, 30] (by decide +kernel) (by decide +kernel)
set_option maxRecDepth 20000 in
theorem gX2_hopTowards_X2_isAlive : GoodIn wsX2_hopTowards (wsV RX2 72 RX2 yX2_isAlive wsX2_isAlive) := goodIn_app (goodIn_of _ (by decide +kernel)) ggX2_hopTowards_X2_isAlive
set_option maxRecDepth 20000 in
theorem ggX2_hopTowards_X0_isBetween : GoodIn wsX2_hopTowards wsX0_isBetween := goodIn_r _ [18] (by decide +kernel) (by decide +kernel)
set_option maxRecDepth 20000 in
theorem gX2_hopTowards_X0_isBetween : GoodIn wsX2_hopTowards (va_wsS RX2 166 yX0_isBetween wsX0_isBetween) := goodIn_app (goodIn_of _ (by decide +kernel)) ggX2_hopTowards_X0_isBetween
theorem dX2_hopTowards_0 : decode cX2_hopTowards 0 = .ok (.iconst 5, 1) := by decide +kernel
theorem dX2_hopTowards_1 : decode cX2_hopTowards 1 = .ok (.istore 4, 2) := by decide +kernel
theorem dX2_hopTowards_3 : decode cX2_hopTowards 3 = .ok (.iload 4, 2) := by decide +kernel
theorem dX2_hopTowards_5 : decode cX2_hopTowards 5 = .ok (.ifCond .lt 43, 3) := by decide +kernel
theorem dX2_hopTowards_8 : decode cX2_hopTowards 8 = .ok (.aload_n 0, 1) := by decide +kernel
theorem dX2_hopTowards_9 : decode cX2_hopTowards 9 = .ok (.getfield 25, 3) := by decide +kernel
theorem dX2_hopTowards_12 : decode cX2_hopTowards 12 = .ok (.iload_n 2, 1) := by decide +kernel
theorem dX2_hopTowards_13 : decode cX2_hopTowards 13 = .ok (.iload 4, 2) := by decide +kernel
theorem dX2_hopTowards_15 : decode cX2_hopTowards 15 = .ok (.invokevirtual 85, 3) := by decide +kernel
theorem dX2_hopTowards_18 : decode cX2_hopTowards 18 = .ok (.istore 5, 2) := by decide +kernel
theorem dX2_hopTowards_20 : decode cX2_hopTowards 20 = .ok (.aload_n 0, 1) := by decide +kernel
theorem dX2_hopTowards_21 : decode cX2_hopTowards 21 = .ok (.iload 5, 2) := by decide +kernel
theorem dX2_hopTowards_23 : decode cX2_hopTowards 23 = .ok (.invokevirtual 72, 3) := by decide +kernel
theorem dX2_hopTowards_26 : decode cX2_hopTowards 26 = .ok (.ifCond .eq 16, 3) := by decide +kernel
theorem dX2_hopTowards_29 : decode cX2_hopTowards 29 = .ok (.iload 5, 2) := by decide +kernel
theorem dX2_hopTowards_31 : decode cX2_hopTowards 31 = .ok (.iload_n 2, 1) := by decide +kernel
theorem dX2_hopTowards_32 : decode cX2_hopTowards 32 = .ok (.iload_n 1, 1) := by decide +kernel
theorem dX2_hopTowards_33 : decode cX2_hopTowards 33 = .ok (.invokestatic 166, 3) := by decide +kernel
theorem dX2_hopTowards_36 : decode cX2_hopTowards 36 = .ok (.ifCond .eq 6, 3) := by decide +kernel
theorem dX2_hopTowards_39 : decode cX2_hopTowards 39 = .ok (.iload 5, 2) := by decide +kernel
theorem dX2_hopTowards_41 : decode cX2_hopTowards 41 = .ok (.ireturn, 1) := by decide +kernel
theorem dX2_hopTowards_42 : decode cX2_hopTowards 42 = .ok (.iinc 4 (-1), 3) := by decide +kernel
theorem dX2_hopTowards_45 : decode cX2_hopTowards 45 = .ok (.goto (-42), 3) := by decide +kernel
theorem dX2_hopTowards_48 : decode cX2_hopTowards 48 = .ok (.iload_n 3, 1) := by decide +kernel
theorem dX2_hopTowards_49 : decode cX2_hopTowards 49 = .ok (.ireturn, 1) := by decide +kernel
set_option maxRecDepth 20000 in
theorem ggX2_giveCopy_X1_at : GoodIn wsX2_giveCopy wsX1_at := goodIn_r _ [7, 8, 9, 26, 27] (by decide +kernel) (by decide +kernel)
set_option maxRecDepth 20000 in
theorem gX2_giveCopy_X1_at : GoodIn wsX2_giveCopy (wsV RX2 85 RX1 yX1_at wsX1_at) := goodIn_app (goodIn_of _ (by decide +kernel)) ggX2_giveCopy_X1_at
set_option maxRecDepth 20000 in
theorem ggX2_giveCopy_X1_set : GoodIn wsX2_giveCopy wsX1_set := goodIn_r _ [13, 8, 9, 26, 27] (by decide +kernel) (by decide +kernel)
set_option maxRecDepth 20000 in
theorem gX2_giveCopy_X1_set : GoodIn wsX2_giveCopy (wsV RX2 127 RX1 yX1_set wsX1_set) := goodIn_app (goodIn_of _ (by decide +kernel)) ggX2_giveCopy_X1_set
theorem dX2_giveCopy_0 : decode cX2_giveCopy 0 = .ok (.aload_n 0, 1) := by decide +kernel
theorem dX2_giveCopy_1 : decode cX2_giveCopy 1 = .ok (.getfield 31, 3) := by decide +kernel
theorem dX2_giveCopy_4 : decode cX2_giveCopy 4 = .ok (.iload_n 1, 1) := by decide +kernel
theorem dX2_giveCopy_5 : decode cX2_giveCopy 5 = .ok (.iload_n 3, 1) := by decide +kernel
theorem dX2_giveCopy_6 : decode cX2_giveCopy 6 = .ok (.invokevirtual 85, 3) := by decide +kernel
theorem dX2_giveCopy_9 : decode cX2_giveCopy 9 = .ok (.istore 4, 2) := by decide +kernel
theorem dX2_giveCopy_11 : decode cX2_giveCopy 11 = .ok (.iload 4, 2) := by decide +kernel
theorem dX2_giveCopy_13 : decode cX2_giveCopy 13 = .ok (.aload_n 0, 1) := by decide +kernel
theorem dX2_giveCopy_14 : decode cX2_giveCopy 14 = .ok (.getfield 31, 3) := by decide +kernel
theorem dX2_giveCopy_17 : decode cX2_giveCopy 17 = .ok (.iload_n 2, 1) := by decide +kernel
theorem dX2_giveCopy_18 : decode cX2_giveCopy 18 = .ok (.iload_n 3, 1) := by decide +kernel
theorem dX2_giveCopy_19 : decode cX2_giveCopy 19 = .ok (.invokevirtual 85, 3) := by decide +kernel
theorem dX2_giveCopy_22 : decode cX2_giveCopy 22 = .ok (.if_icmp .gt 5, 3) := by decide +kernel
theorem dX2_giveCopy_25 : decode cX2_giveCopy 25 = .ok (.iconst 0, 1) := by decide +kernel
theorem dX2_giveCopy_26 : decode cX2_giveCopy 26 = .ok (.ireturn, 1) := by decide +kernel
theorem dX2_giveCopy_27 : decode cX2_giveCopy 27 = .ok (.aload_n 0, 1) := by decide +kernel
theorem dX2_giveCopy_28 : decode cX2_giveCopy 28 = .ok (.getfield 28, 3) := by decide +kernel
theorem dX2_giveCopy_31 : decode cX2_giveCopy 31 = .ok (.iload_n 2, 1) := by decide +kernel
theorem dX2_giveCopy_32 : decode cX2_giveCopy 32 = .ok (.iload_n 3, 1) := by decide +kernel
theorem dX2_giveCopy_33 : decode cX2_giveCopy 33 = .ok (.aload_n 0, 1) := by decide +kernel
theorem dX2_giveCopy_34 : decode cX2_giveCopy 34 = .ok (.getfield 28, 3) := by decide +kernel
theorem dX2_giveCopy_37 : decode cX2_giveCopy 37 = .ok (.iload_n 1, 1) := by decide +kernel
theorem dX2_giveCopy_38 : decode cX2_giveCopy 38 = .ok (.iload_n 3, 1) := by decide +kernel
theorem dX2_giveCopy_39 : decode cX2_giveCopy 39 = .ok (.invokevirtual 85, 3) := by decide +kernel
theorem dX2_giveCopy_42 : decode cX2_giveCopy 42 = .ok (.invokevirtual 127, 3) := by decide +kernel
theorem dX2_giveCopy_45 : decode cX2_giveCopy 45 = .ok (.aload_n 0, 1) := by decide +kernel
theorem dX2_giveCopy_46 : decode cX2_giveCopy 46 = .ok (.getfield 31, 3) := by decide +kernel
theorem dX2_giveCopy_49 : decode cX2_giveCopy 49 = .ok (.iload_n 2, 1) := by decide +kernel
theorem dX2_giveCopy_50 : decode cX2_giveCopy 50 = .ok (.iload_n 3, 1) := by decide +kernel
theorem dX2_giveCopy_51 : decode cX2_giveCopy 51 = .ok (.iload 4, 2) := by decide +kernel
theorem dX2_giveCopy_53 : decode cX2_giveCopy 53 = .ok (.invokevirtual 127, 3) := by decide +kernel
theorem dX2_giveCopy_56 : decode cX2_giveCopy 56 = .ok (.iconst 1, 1) := by decide +kernel
theorem dX2_giveCopy_57 : decode cX2_giveCopy 57 = .ok (.ireturn, 1) := by decide +kernel
set_option maxRecDepth 20000 in
theorem ggX2_copyToHeirs_X2_firstHeir : GoodIn wsX2_copyToHeirs wsX2_firstHeir := goodIn_r _ [5, 6, 7, 8, 9, 10, 11, 12, 13, 14, 15, 16, 4, 17, 18, 29, 30, 31, 32, 33, 34, 35, 36, 37, 38, 39, 40, 41, 42] (by decide +kernel) (by decide +kernel)
set_option maxRecDepth 20000 in
theorem gX2_copyToHeirs_X2_firstHeir : GoodIn wsX2_copyToHeirs (wsV RX2 187 RX2 yX2_firstHeir wsX2_firstHeir) := goodIn_app (goodIn_of _ (by decide +kernel)) ggX2_copyToHeirs_X2_firstHeir
set_option maxRecDepth 20000 in
theorem ggX2_copyToHeirs_X2_giveCopy : GoodIn wsX2_copyToHeirs wsX2_giveCopy := goodIn_r _ [22, 23, 24, 7, 8, 9, 10, 11, 12, 13, 25, 26, 27, 28, 29, 30, 31, 32, 33, 34, 35, 36, 37, 38, 39, 40, 41, 42] (by decide +kernel) (by decide +kernel)
set_option maxRecDepth 20000 in
theorem gX2_copyToHeirs_X2_giveCopy : GoodIn wsX2_copyToHeirs (wsV RX2 159 RX2 yX2_giveCopy wsX2_giveCopy) := goodIn_app (goodIn_of _ (by decide +kernel)) ggX2_copyToHeirs_X2_giveCopy
theorem dX2_copyToHeirs_0 : decode cX2_copyToHeirs 0 = .ok (.aload_n 0, 1) := by decide +kernel
theorem dX2_copyToHeirs_1 : decode cX2_copyToHeirs 1 = .ok (.iload_n 1, 1) := by decide +kernel
theorem dX2_copyToHeirs_2 : decode cX2_copyToHeirs 2 = .ok (.iconst (-1), 1) := by decide +kernel
theorem dX2_copyToHeirs_3 : decode cX2_copyToHeirs 3 = .ok (.invokevirtual 187, 3) := by decide +kernel
theorem dX2_copyToHeirs_6 : decode cX2_copyToHeirs 6 = .ok (.istore_n 3, 1) := by decide +kernel
theorem dX2_copyToHeirs_7 : decode cX2_copyToHeirs 7 = .ok (.aload_n 0, 1) := by decide +kernel
theorem dX2_copyToHeirs_8 : decode cX2_copyToHeirs 8 = .ok (.iload_n 1, 1) := by decide +kernel
theorem dX2_copyToHeirs_9 : decode cX2_copyToHeirs 9 = .ok (.iload_n 3, 1) := by decide +kernel
theorem dX2_copyToHeirs_10 : decode cX2_copyToHeirs 10 = .ok (.invokevirtual 187, 3) := by decide +kernel
theorem dX2_copyToHeirs_13 : decode cX2_copyToHeirs 13 = .ok (.istore 4, 2) := by decide +kernel
theorem dX2_copyToHeirs_15 : decode cX2_copyToHeirs 15 = .ok (.iconst 0, 1) := by decide +kernel
theorem dX2_copyToHeirs_16 : decode cX2_copyToHeirs 16 = .ok (.istore 5, 2) := by decide +kernel
theorem dX2_copyToHeirs_18 : decode cX2_copyToHeirs 18 = .ok (.iload_n 3, 1) := by decide +kernel
theorem dX2_copyToHeirs_19 : decode cX2_copyToHeirs 19 = .ok (.iconst (-1), 1) := by decide +kernel
theorem dX2_copyToHeirs_20 : decode cX2_copyToHeirs 20 = .ok (.if_icmp .eq 15, 3) := by decide +kernel
theorem dX2_copyToHeirs_23 : decode cX2_copyToHeirs 23 = .ok (.iload 5, 2) := by decide +kernel
theorem dX2_copyToHeirs_25 : decode cX2_copyToHeirs 25 = .ok (.aload_n 0, 1) := by decide +kernel
theorem dX2_copyToHeirs_26 : decode cX2_copyToHeirs 26 = .ok (.iload_n 1, 1) := by decide +kernel
theorem dX2_copyToHeirs_27 : decode cX2_copyToHeirs 27 = .ok (.iload_n 3, 1) := by decide +kernel
theorem dX2_copyToHeirs_28 : decode cX2_copyToHeirs 28 = .ok (.iload_n 2, 1) := by decide +kernel
theorem dX2_copyToHeirs_29 : decode cX2_copyToHeirs 29 = .ok (.invokevirtual 159, 3) := by decide +kernel
theorem dX2_copyToHeirs_32 : decode cX2_copyToHeirs 32 = .ok (.iadd, 1) := by decide +kernel
theorem dX2_copyToHeirs_33 : decode cX2_copyToHeirs 33 = .ok (.istore 5, 2) := by decide +kernel
theorem dX2_copyToHeirs_35 : decode cX2_copyToHeirs 35 = .ok (.iload 4, 2) := by decide +kernel
theorem dX2_copyToHeirs_37 : decode cX2_copyToHeirs 37 = .ok (.iconst (-1), 1) := by decide +kernel
theorem dX2_copyToHeirs_38 : decode cX2_copyToHeirs 38 = .ok (.if_icmp .eq 16, 3) := by decide +kernel
theorem dX2_copyToHeirs_41 : decode cX2_copyToHeirs 41 = .ok (.iload 5, 2) := by decide +kernel
theorem dX2_copyToHeirs_43 : decode cX2_copyToHeirs 43 = .ok (.aload_n 0, 1) := by decide +kernel
theorem dX2_copyToHeirs_44 : decode cX2_copyToHeirs 44 = .ok (.iload_n 1, 1) := by decide +kernel
theorem dX2_copyToHeirs_45 : decode cX2_copyToHeirs 45 = .ok (.iload 4, 2) := by decide +kernel
theorem dX2_copyToHeirs_47 : decode cX2_copyToHeirs 47 = .ok (.iload_n 2, 1) := by decide +kernel
theorem dX2_copyToHeirs_48 : decode cX2_copyToHeirs 48 = .ok (.invokevirtual 159, 3) := by decide +kernel
theorem dX2_copyToHeirs_51 : decode cX2_copyToHeirs 51 = .ok (.iadd, 1) := by decide +kernel
theorem dX2_copyToHeirs_52 : decode cX2_copyToHeirs 52 = .ok (.istore 5, 2) := by decide +kernel
theorem dX2_copyToHeirs_54 : decode cX2_copyToHeirs 54 = .ok (.iload 5, 2) := by decide +kernel
theorem dX2_copyToHeirs_56 : decode cX2_copyToHeirs 56 = .ok (.ireturn, 1) := by decide +kernel
set_option maxRecDepth 20000 in
theorem ggX2_firstLivingUpFrom_X0_onward : GoodIn wsX2_firstLivingUpFrom wsX0_onward := goodIn_r _ [4] (by decide +kernel) (by decide +kernel)
set_option maxRecDepth 20000 in
theorem gX2_firstLivingUpFrom_X0_onward : GoodIn wsX2_firstLivingUpFrom (va_wsS RX2 190 yX0_onward wsX0_onward) := goodIn_app (goodIn_of _ (by decide +kernel)) ggX2_firstLivingUpFrom_X0_onward
set_option maxRecDepth 20000 in
theorem ggX2_firstLivingUpFrom_X2_isAlive : GoodIn wsX2_firstLivingUpFrom wsX2_isAlive := goodIn_r _ [9, 10, 11, 12, 13, 14, 15, 16, 17, 18, 19, 20, 21, 22] (by decide +kernel) (by decide +kernel)
set_option maxRecDepth 20000 in
theorem gX2_firstLivingUpFrom_X2_isAlive : GoodIn wsX2_firstLivingUpFrom (wsV RX2 72 RX2 yX2_isAlive wsX2_isAlive) := goodIn_app (goodIn_of _ (by decide +kernel)) ggX2_firstLivingUpFrom_X2_isAlive
theorem dX2_firstLivingUpFrom_0 : decode cX2_firstLivingUpFrom 0 = .ok (.iconst 0, 1) := by decide +kernel
theorem dX2_firstLivingUpFrom_1 : decode cX2_firstLivingUpFrom 1 = .ok (.istore_n 2, 1) := by decide +kernel
theorem dX2_firstLivingUpFrom_2 : decode cX2_firstLivingUpFrom 2 = .ok (.iload_n 2, 1) := by decide +kernel
theorem dX2_firstLivingUpFrom_3 : decode cX2_firstLivingUpFrom 3 = .ok (.bipush 64, 2) := by decide +kernel
theorem dX2_firstLivingUpFrom_5 : decode cX2_firstLivingUpFrom 5 = .ok (.if_icmp .ge 25, 3) := by decide +kernel
theorem dX2_firstLivingUpFrom_8 : decode cX2_firstLivingUpFrom 8 = .ok (.iload_n 1, 1) := by decide +kernel
theorem dX2_firstLivingUpFrom_9 : decode cX2_firstLivingUpFrom 9 = .ok (.iload_n 2, 1) := by decide +kernel
theorem dX2_firstLivingUpFrom_10 : decode cX2_firstLivingUpFrom 10 = .ok (.invokestatic 190, 3) := by decide +kernel
theorem dX2_firstLivingUpFrom_13 : decode cX2_firstLivingUpFrom 13 = .ok (.istore_n 3, 1) := by decide +kernel
theorem dX2_firstLivingUpFrom_14 : decode cX2_firstLivingUpFrom 14 = .ok (.aload_n 0, 1) := by decide +kernel
theorem dX2_firstLivingUpFrom_15 : decode cX2_firstLivingUpFrom 15 = .ok (.iload_n 3, 1) := by decide +kernel
theorem dX2_firstLivingUpFrom_16 : decode cX2_firstLivingUpFrom 16 = .ok (.invokevirtual 72, 3) := by decide +kernel
theorem dX2_firstLivingUpFrom_19 : decode cX2_firstLivingUpFrom 19 = .ok (.ifCond .eq 5, 3) := by decide +kernel
theorem dX2_firstLivingUpFrom_22 : decode cX2_firstLivingUpFrom 22 = .ok (.iload_n 3, 1) := by decide +kernel
theorem dX2_firstLivingUpFrom_23 : decode cX2_firstLivingUpFrom 23 = .ok (.ireturn, 1) := by decide +kernel
theorem dX2_firstLivingUpFrom_24 : decode cX2_firstLivingUpFrom 24 = .ok (.iinc 2 1, 3) := by decide +kernel
theorem dX2_firstLivingUpFrom_27 : decode cX2_firstLivingUpFrom 27 = .ok (.goto (-25), 3) := by decide +kernel
theorem dX2_firstLivingUpFrom_30 : decode cX2_firstLivingUpFrom 30 = .ok (.iconst (-1), 1) := by decide +kernel
theorem dX2_firstLivingUpFrom_31 : decode cX2_firstLivingUpFrom 31 = .ok (.ireturn, 1) := by decide +kernel
set_option maxRecDepth 20000 in
theorem ggX2_firstLivingDownFrom_X0_onward : GoodIn wsX2_firstLivingDownFrom wsX0_onward := goodIn_r _ [4] (by decide +kernel) (by decide +kernel)
set_option maxRecDepth 20000 in
theorem gX2_firstLivingDownFrom_X0_onward : GoodIn wsX2_firstLivingDownFrom (va_wsS RX2 190 yX0_onward wsX0_onward) := goodIn_app (goodIn_of _ (by decide +kernel)) ggX2_firstLivingDownFrom_X0_onward
set_option maxRecDepth 20000 in
theorem ggX2_firstLivingDownFrom_X2_isAlive : GoodIn wsX2_firstLivingDownFrom wsX2_isAlive := goodIn_r _ [9, 10, 11, 12, 13, 14, 15, 16, 17, 18, 19, 20, 21, 22] (by decide +kernel) (by decide +kernel)
set_option maxRecDepth 20000 in
theorem gX2_firstLivingDownFrom_X2_isAlive : GoodIn wsX2_firstLivingDownFrom (wsV RX2 72 RX2 yX2_isAlive wsX2_isAlive) := goodIn_app (goodIn_of _ (by decide +kernel)) ggX2_firstLivingDownFrom_X2_isAlive
theorem dX2_firstLivingDownFrom_0 : decode cX2_firstLivingDownFrom 0 = .ok (.iconst 0, 1) := by decide +kernel
theorem dX2_firstLivingDownFrom_1 : decode cX2_firstLivingDownFrom 1 = .ok (.istore_n 2, 1) := by decide +kernel
theorem dX2_firstLivingDownFrom_2 : decode cX2_firstLivingDownFrom 2 = .ok (.iload_n 2, 1) := by decide +kernel
theorem dX2_firstLivingDownFrom_3 : decode cX2_firstLivingDownFrom 3 = .ok (.bipush 64, 2) := by decide +kernel
theorem dX2_firstLivingDownFrom_5 : decode cX2_firstLivingDownFrom 5 = .ok (.if_icmp .ge 26, 3) := by decide +kernel
theorem dX2_firstLivingDownFrom_8 : decode cX2_firstLivingDownFrom 8 = .ok (.iload_n 1, 1) := by decide +kernel
theorem dX2_firstLivingDownFrom_9 : decode cX2_firstLivingDownFrom 9 = .ok (.iload_n 2, 1) := by decide +kernel
theorem dX2_firstLivingDownFrom_10 : decode cX2_firstLivingDownFrom 10 = .ok (.ineg, 1) := by decide +kernel
theorem dX2_firstLivingDownFrom_11 : decode cX2_firstLivingDownFrom 11 = .ok (.invokestatic 190, 3) := by decide +kernel
theorem dX2_firstLivingDownFrom_14 : decode cX2_firstLivingDownFrom 14 = .ok (.istore_n 3, 1) := by decide +kernel
theorem dX2_firstLivingDownFrom_15 : decode cX2_firstLivingDownFrom 15 = .ok (.aload_n 0, 1) := by decide +kernel
theorem dX2_firstLivingDownFrom_16 : decode cX2_firstLivingDownFrom 16 = .ok (.iload_n 3, 1) := by decide +kernel
theorem dX2_firstLivingDownFrom_17 : decode cX2_firstLivingDownFrom 17 = .ok (.invokevirtual 72, 3) := by decide +kernel
theorem dX2_firstLivingDownFrom_20 : decode cX2_firstLivingDownFrom 20 = .ok (.ifCond .eq 5, 3) := by decide +kernel
theorem dX2_firstLivingDownFrom_23 : decode cX2_firstLivingDownFrom 23 = .ok (.iload_n 3, 1) := by decide +kernel
theorem dX2_firstLivingDownFrom_24 : decode cX2_firstLivingDownFrom 24 = .ok (.ireturn, 1) := by decide +kernel
theorem dX2_firstLivingDownFrom_25 : decode cX2_firstLivingDownFrom 25 = .ok (.iinc 2 1, 3) := by decide +kernel
theorem dX2_firstLivingDownFrom_28 : decode cX2_firstLivingDownFrom 28 = .ok (.goto (-26), 3) := by decide +kernel
theorem dX2_firstLivingDownFrom_31 : decode cX2_firstLivingDownFrom 31 = .ok (.iconst (-1), 1) := by decide +kernel
theorem dX2_firstLivingDownFrom_32 : decode cX2_firstLivingDownFrom 32 = .ok (.ireturn, 1) := by decide +kernel
set_option maxRecDepth 20000 in
theorem ggX2_countWrongPointers_X2_isAlive : GoodIn wsX2_countWrongPointers wsX2_isAlive := goodIn_r _ [5, 6, 41, 42, 43, 44, 45, 46, 47, 48, 49, 50, 51, 52] (by decide +kernel) (by decide +kernel)
set_option maxRecDepth 20000 in
theorem gX2_countWrongPointers_X2_isAlive : GoodIn wsX2_countWrongPointers (wsV RX2 72 RX2 yX2_isAlive wsX2_isAlive) := goodIn_app (goodIn_of _ (by decide +kernel)) ggX2_countWrongPointers_X2_isAlive
set_option maxRecDepth 20000 in
theorem ggX2_countWrongPointers_X2_countWrongPointersOf : GoodIn wsX2_countWrongPointers wsX2_countWrongPointersOf := goodIn_r _ [10, 11, 12, 13, 14, 15, 4, 16, 17, 18, 19, 20, 21, 22, 23, 24, 1, 2, 3, 5, 6, 25, 26, 27, 28, 29, 30, 31, 32, 33, 34, 35, 36, 37, 38, 39, 40, 41, 42, 43, 44, 45, 46, 47, 48, 49, 50, 51, 52, 53, 54] (by decide +kernel) (by decide +kernel)
set_option maxRecDepth 20000 in
theorem gX2_countWrongPointers_X2_countWrongPointersOf : GoodIn wsX2_countWrongPointers (wsV RX2 193 RX2 yX2_countWrongPointersOf wsX2_countWrongPointersOf) := goodIn_app (goodIn_of _ (by decide +kernel)) ggX2_countWrongPointers_X2_countWrongPointersOf
theorem dX2_countWrongPointers_0 : decode cX2_countWrongPointers 0 = .ok (.iconst 0, 1) := by decide +kernel
theorem dX2_countWrongPointers_1 : decode cX2_countWrongPointers 1 = .ok (.istore_n 1, 1) := by decide +kernel
theorem dX2_countWrongPointers_2 : decode cX2_countWrongPointers 2 = .ok (.iconst 0, 1) := by decide +kernel
theorem dX2_countWrongPointers_3 : decode cX2_countWrongPointers 3 = .ok (.istore_n 2, 1) := by decide +kernel
theorem dX2_countWrongPointers_4 : decode cX2_countWrongPointers 4 = .ok (.iload_n 2, 1) := by decide +kernel
theorem dX2_countWrongPointers_5 : decode cX2_countWrongPointers 5 = .ok (.bipush 64, 2) := by decide +kernel
theorem dX2_countWrongPointers_7 : decode cX2_countWrongPointers 7 = .ok (.if_icmp .ge 25, 3) := by decide +kernel
theorem dX2_countWrongPointers_10 : decode cX2_countWrongPointers 10 = .ok (.aload_n 0, 1) := by decide +kernel
theorem dX2_countWrongPointers_11 : decode cX2_countWrongPointers 11 = .ok (.iload_n 2, 1) := by decide +kernel
theorem dX2_countWrongPointers_12 : decode cX2_countWrongPointers 12 = .ok (.invokevirtual 72, 3) := by decide +kernel
theorem dX2_countWrongPointers_15 : decode cX2_countWrongPointers 15 = .ok (.ifCond .eq 11, 3) := by decide +kernel
theorem dX2_countWrongPointers_18 : decode cX2_countWrongPointers 18 = .ok (.iload_n 1, 1) := by decide +kernel
theorem dX2_countWrongPointers_19 : decode cX2_countWrongPointers 19 = .ok (.aload_n 0, 1) := by decide +kernel
theorem dX2_countWrongPointers_20 : decode cX2_countWrongPointers 20 = .ok (.iload_n 2, 1) := by decide +kernel
theorem dX2_countWrongPointers_21 : decode cX2_countWrongPointers 21 = .ok (.invokevirtual 193, 3) := by decide +kernel
theorem dX2_countWrongPointers_24 : decode cX2_countWrongPointers 24 = .ok (.iadd, 1) := by decide +kernel
theorem dX2_countWrongPointers_25 : decode cX2_countWrongPointers 25 = .ok (.istore_n 1, 1) := by decide +kernel
theorem dX2_countWrongPointers_26 : decode cX2_countWrongPointers 26 = .ok (.iinc 2 1, 3) := by decide +kernel
theorem dX2_countWrongPointers_29 : decode cX2_countWrongPointers 29 = .ok (.goto (-25), 3) := by decide +kernel
theorem dX2_countWrongPointers_32 : decode cX2_countWrongPointers 32 = .ok (.iload_n 1, 1) := by decide +kernel
theorem dX2_countWrongPointers_33 : decode cX2_countWrongPointers 33 = .ok (.ireturn, 1) := by decide +kernel
set_option maxRecDepth 20000 in
theorem ggX2_countWrongPointersOf_X2_firstLivingSuccessor : GoodIn wsX2_countWrongPointersOf wsX2_firstLivingSuccessor := goodIn_r _ [7, 8, 9, 10, 11, 12, 13, 14, 15, 16, 17, 18, 6, 19, 20, 37, 38, 39, 40, 41, 42, 43, 44, 45, 46, 47, 48, 49, 50] (by decide +kernel) (by decide +kernel)
set_option maxRecDepth 20000 in
theorem gX2_countWrongPointersOf_X2_firstLivingSuccessor : GoodIn wsX2_countWrongPointersOf (wsV RX2 91 RX2 yX2_firstLivingSuccessor wsX2_firstLivingSuccessor) := goodIn_app (goodIn_of _ (by decide +kernel)) ggX2_countWrongPointersOf_X2_firstLivingSuccessor
set_option maxRecDepth 20000 in
theorem ggX2_countWrongPointersOf_X0_onward : GoodIn wsX2_countWrongPointersOf wsX0_onward := goodIn_r _ [24] (by decide +kernel) (by decide +kernel)
set_option maxRecDepth 20000 in
theorem gX2_countWrongPointersOf_X0_onward : GoodIn wsX2_countWrongPointersOf (va_wsS RX2 190 yX0_onward wsX0_onward) := goodIn_app (goodIn_of _ (by decide +kernel)) ggX2_countWrongPointersOf_X0_onward
set_option maxRecDepth 20000 in
theorem ggX2_countWrongPointersOf_X2_firstLivingUpFrom : GoodIn wsX2_countWrongPointersOf wsX2_firstLivingUpFrom := goodIn_r _ [28, 21, 22, 23, 24, 16, 17, 18, 6, 19, 20, 37, 38, 39, 40, 41, 42, 43, 44, 45, 46, 47, 48] (by decide +kernel) (by decide +kernel)
set_option maxRecDepth 20000 in
theorem gX2_countWrongPointersOf_X2_firstLivingUpFrom : GoodIn wsX2_countWrongPointersOf (wsV RX2 133 RX2 yX2_firstLivingUpFrom wsX2_firstLivingUpFrom) := goodIn_app (goodIn_of _ (by decide +kernel)) ggX2_countWrongPointersOf_X2_firstLivingUpFrom
set_option maxRecDepth 20000 in
theorem ggX2_countWrongPointersOf_X1_at : GoodIn wsX2_countWrongPointersOf wsX1_at := goodIn_r _ [13, 14, 15, 49, 50] (by decide +kernel) (by decide +kernel)
set_option maxRecDepth 20000 in
theorem gX2_countWrongPointersOf_X1_at : GoodIn wsX2_countWrongPointersOf (wsV RX2 85 RX1 yX1_at wsX1_at) := goodIn_app (goodIn_of _ (by decide +kernel)) ggX2_countWrongPointersOf_X1_at
set_option maxRecDepth 20000 in
theorem ggX2_countWrongPointersOf_X2_firstLivingDownFrom : GoodIn wsX2_countWrongPointersOf wsX2_firstLivingDownFrom := goodIn_r _ [32, 21, 22, 23, 24, 16, 17, 18, 6, 19, 20, 37, 38, 39, 40, 41, 42, 43, 44, 45, 46, 47, 48] (by decide +kernel) (by decide +kernel)
set_option maxRecDepth 20000 in
theorem gX2_countWrongPointersOf_X2_firstLivingDownFrom : GoodIn wsX2_countWrongPointersOf (wsV RX2 196 RX2 yX2_firstLivingDownFrom wsX2_firstLivingDownFrom) := goodIn_app (goodIn_of _ (by decide +kernel)) ggX2_countWrongPointersOf_X2_firstLivingDownFrom
set_option maxRecDepth 20000 in
theorem ggX2_countWrongPointersOf_X0_fingerStart : GoodIn wsX2_countWrongPointersOf wsX0_fingerStart := goodIn_r _ [35, 36, 22, 23, 24] (by decide +kernel) (by decide +kernel)
set_option maxRecDepth 20000 in
theorem gX2_countWrongPointersOf_X0_fingerStart : GoodIn wsX2_countWrongPointersOf (va_wsS RX2 175 yX0_fingerStart wsX0_fingerStart) := goodIn_app (goodIn_of _ (by decide +kernel)) ggX2_countWrongPointersOf_X0_fingerStart
theorem dX2_countWrongPointersOf_0 : decode cX2_countWrongPointersOf 0 = .ok (.iconst 0, 1) := by decide +kernel
theorem dX2_countWrongPointersOf_1 : decode cX2_countWrongPointersOf 1 = .ok (.istore_n 2, 1) := by decide +kernel
theorem dX2_countWrongPointersOf_2 : decode cX2_countWrongPointersOf 2 = .ok (.aload_n 0, 1) := by decide +kernel
theorem dX2_countWrongPointersOf_3 : decode cX2_countWrongPointersOf 3 = .ok (.iload_n 1, 1) := by decide +kernel
theorem dX2_countWrongPointersOf_4 : decode cX2_countWrongPointersOf 4 = .ok (.invokevirtual 91, 3) := by decide +kernel
theorem dX2_countWrongPointersOf_7 : decode cX2_countWrongPointersOf 7 = .ok (.aload_n 0, 1) := by decide +kernel
theorem dX2_countWrongPointersOf_8 : decode cX2_countWrongPointersOf 8 = .ok (.iload_n 1, 1) := by decide +kernel
theorem dX2_countWrongPointersOf_9 : decode cX2_countWrongPointersOf 9 = .ok (.iconst 1, 1) := by decide +kernel
theorem dX2_countWrongPointersOf_10 : decode cX2_countWrongPointersOf 10 = .ok (.invokestatic 190, 3) := by decide +kernel
theorem dX2_countWrongPointersOf_13 : decode cX2_countWrongPointersOf 13 = .ok (.invokevirtual 133, 3) := by decide +kernel
theorem dX2_countWrongPointersOf_16 : decode cX2_countWrongPointersOf 16 = .ok (.if_icmp .eq 6, 3) := by decide +kernel
theorem dX2_countWrongPointersOf_19 : decode cX2_countWrongPointersOf 19 = .ok (.iinc 2 1, 3) := by decide +kernel
theorem dX2_countWrongPointersOf_22 : decode cX2_countWrongPointersOf 22 = .ok (.aload_n 0, 1) := by decide +kernel
theorem dX2_countWrongPointersOf_23 : decode cX2_countWrongPointersOf 23 = .ok (.getfield 22, 3) := by decide +kernel
theorem dX2_countWrongPointersOf_26 : decode cX2_countWrongPointersOf 26 = .ok (.iload_n 1, 1) := by decide +kernel
theorem dX2_countWrongPointersOf_27 : decode cX2_countWrongPointersOf 27 = .ok (.iconst 0, 1) := by decide +kernel
theorem dX2_countWrongPointersOf_28 : decode cX2_countWrongPointersOf 28 = .ok (.invokevirtual 85, 3) := by decide +kernel
theorem dX2_countWrongPointersOf_31 : decode cX2_countWrongPointersOf 31 = .ok (.aload_n 0, 1) := by decide +kernel
theorem dX2_countWrongPointersOf_32 : decode cX2_countWrongPointersOf 32 = .ok (.iload_n 1, 1) := by decide +kernel
theorem dX2_countWrongPointersOf_33 : decode cX2_countWrongPointersOf 33 = .ok (.iconst (-1), 1) := by decide +kernel
theorem dX2_countWrongPointersOf_34 : decode cX2_countWrongPointersOf 34 = .ok (.invokestatic 190, 3) := by decide +kernel
theorem dX2_countWrongPointersOf_37 : decode cX2_countWrongPointersOf 37 = .ok (.invokevirtual 196, 3) := by decide +kernel
theorem dX2_countWrongPointersOf_40 : decode cX2_countWrongPointersOf 40 = .ok (.if_icmp .eq 6, 3) := by decide +kernel
theorem dX2_countWrongPointersOf_43 : decode cX2_countWrongPointersOf 43 = .ok (.iinc 2 1, 3) := by decide +kernel
theorem dX2_countWrongPointersOf_46 : decode cX2_countWrongPointersOf 46 = .ok (.iconst 0, 1) := by decide +kernel
theorem dX2_countWrongPointersOf_47 : decode cX2_countWrongPointersOf 47 = .ok (.istore_n 3, 1) := by decide +kernel
theorem dX2_countWrongPointersOf_48 : decode cX2_countWrongPointersOf 48 = .ok (.iload_n 3, 1) := by decide +kernel
theorem dX2_countWrongPointersOf_49 : decode cX2_countWrongPointersOf 49 = .ok (.bipush 6, 2) := by decide +kernel
theorem dX2_countWrongPointersOf_51 : decode cX2_countWrongPointersOf 51 = .ok (.if_icmp .ge 33, 3) := by decide +kernel
theorem dX2_countWrongPointersOf_54 : decode cX2_countWrongPointersOf 54 = .ok (.aload_n 0, 1) := by decide +kernel
theorem dX2_countWrongPointersOf_55 : decode cX2_countWrongPointersOf 55 = .ok (.getfield 25, 3) := by decide +kernel
theorem dX2_countWrongPointersOf_58 : decode cX2_countWrongPointersOf 58 = .ok (.iload_n 1, 1) := by decide +kernel
theorem dX2_countWrongPointersOf_59 : decode cX2_countWrongPointersOf 59 = .ok (.iload_n 3, 1) := by decide +kernel
theorem dX2_countWrongPointersOf_60 : decode cX2_countWrongPointersOf 60 = .ok (.invokevirtual 85, 3) := by decide +kernel
theorem dX2_countWrongPointersOf_63 : decode cX2_countWrongPointersOf 63 = .ok (.aload_n 0, 1) := by decide +kernel
theorem dX2_countWrongPointersOf_64 : decode cX2_countWrongPointersOf 64 = .ok (.iload_n 1, 1) := by decide +kernel
theorem dX2_countWrongPointersOf_65 : decode cX2_countWrongPointersOf 65 = .ok (.iload_n 3, 1) := by decide +kernel
theorem dX2_countWrongPointersOf_66 : decode cX2_countWrongPointersOf 66 = .ok (.invokestatic 175, 3) := by decide +kernel
theorem dX2_countWrongPointersOf_69 : decode cX2_countWrongPointersOf 69 = .ok (.invokevirtual 133, 3) := by decide +kernel
theorem dX2_countWrongPointersOf_72 : decode cX2_countWrongPointersOf 72 = .ok (.if_icmp .eq 6, 3) := by decide +kernel
theorem dX2_countWrongPointersOf_75 : decode cX2_countWrongPointersOf 75 = .ok (.iinc 2 1, 3) := by decide +kernel
theorem dX2_countWrongPointersOf_78 : decode cX2_countWrongPointersOf 78 = .ok (.iinc 3 1, 3) := by decide +kernel
theorem dX2_countWrongPointersOf_81 : decode cX2_countWrongPointersOf 81 = .ok (.goto (-33), 3) := by decide +kernel
theorem dX2_countWrongPointersOf_84 : decode cX2_countWrongPointersOf 84 = .ok (.iload_n 2, 1) := by decide +kernel
theorem dX2_countWrongPointersOf_85 : decode cX2_countWrongPointersOf 85 = .ok (.ireturn, 1) := by decide +kernel
theorem dJ9_max_7cf53_0 : decode cJ9_max_7cf53 0 = .ok (.iload_n 0, 1) := by decide +kernel
theorem dJ9_max_7cf53_1 : decode cJ9_max_7cf53 1 = .ok (.iload_n 1, 1) := by decide +kernel
theorem dJ9_max_7cf53_2 : decode cJ9_max_7cf53 2 = .ok (.if_icmp .lt 7, 3) := by decide +kernel
theorem dJ9_max_7cf53_5 : decode cJ9_max_7cf53 5 = .ok (.iload_n 0, 1) := by decide +kernel
theorem dJ9_max_7cf53_6 : decode cJ9_max_7cf53 6 = .ok (.goto 4, 3) := by decide +kernel
theorem dJ9_max_7cf53_9 : decode cJ9_max_7cf53 9 = .ok (.iload_n 1, 1) := by decide +kernel
theorem dJ9_max_7cf53_10 : decode cJ9_max_7cf53 10 = .ok (.ireturn, 1) := by decide +kernel
theorem dJ9_min_7cf53_0 : decode cJ9_min_7cf53 0 = .ok (.iload_n 0, 1) := by decide +kernel
theorem dJ9_min_7cf53_1 : decode cJ9_min_7cf53 1 = .ok (.iload_n 1, 1) := by decide +kernel
theorem dJ9_min_7cf53_2 : decode cJ9_min_7cf53 2 = .ok (.if_icmp .gt 7, 3) := by decide +kernel
theorem dJ9_min_7cf53_5 : decode cJ9_min_7cf53 5 = .ok (.iload_n 0, 1) := by decide +kernel
theorem dJ9_min_7cf53_6 : decode cJ9_min_7cf53 6 = .ok (.goto 4, 3) := by decide +kernel
theorem dJ9_min_7cf53_9 : decode cJ9_min_7cf53 9 = .ok (.iload_n 1, 1) := by decide +kernel
theorem dJ9_min_7cf53_10 : decode cJ9_min_7cf53 10 = .ok (.ireturn, 1) := by decide +kernel
theorem dJ7_fill_53178_0 : decode cJ7_fill_53178 0 = .ok (.iconst 0, 1) := by decide +kernel
theorem dJ7_fill_53178_1 : decode cJ7_fill_53178 1 = .ok (.istore_n 2, 1) := by decide +kernel
theorem dJ7_fill_53178_2 : decode cJ7_fill_53178 2 = .ok (.aload_n 0, 1) := by decide +kernel
theorem dJ7_fill_53178_3 : decode cJ7_fill_53178 3 = .ok (.arraylength, 1) := by decide +kernel
theorem dJ7_fill_53178_4 : decode cJ7_fill_53178 4 = .ok (.istore_n 3, 1) := by decide +kernel
theorem dJ7_fill_53178_5 : decode cJ7_fill_53178 5 = .ok (.iload_n 2, 1) := by decide +kernel
theorem dJ7_fill_53178_6 : decode cJ7_fill_53178 6 = .ok (.iload_n 3, 1) := by decide +kernel
theorem dJ7_fill_53178_7 : decode cJ7_fill_53178 7 = .ok (.if_icmp .ge 13, 3) := by decide +kernel
theorem dJ7_fill_53178_10 : decode cJ7_fill_53178 10 = .ok (.aload_n 0, 1) := by decide +kernel
theorem dJ7_fill_53178_11 : decode cJ7_fill_53178 11 = .ok (.iload_n 2, 1) := by decide +kernel
theorem dJ7_fill_53178_12 : decode cJ7_fill_53178 12 = .ok (.iload_n 1, 1) := by decide +kernel
theorem dJ7_fill_53178_13 : decode cJ7_fill_53178 13 = .ok (.iastore, 1) := by decide +kernel
theorem dJ7_fill_53178_14 : decode cJ7_fill_53178 14 = .ok (.iinc 2 1, 3) := by decide +kernel
theorem dJ7_fill_53178_17 : decode cJ7_fill_53178 17 = .ok (.goto (-12), 3) := by decide +kernel
theorem dJ7_fill_53178_20 : decode cJ7_fill_53178 20 = .ok (.return_, 1) := by decide +kernel
