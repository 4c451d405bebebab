theorem dX0_onward_0 : decode cX0_onward 0 = .ok (.iload_n 0, 1) := by decide +kernel
theorem dX0_onward_1 : decode cX0_onward 1 = .ok (.iload_n 1, 1) := by decide +kernel
theorem dX0_onward_2 : decode cX0_onward 2 = .ok (.iadd, 1) := by decide +kernel
theorem dX0_onward_3 : decode cX0_onward 3 = .ok (.bipush 63, 2) := by decide +kernel
theorem dX0_onward_5 : decode cX0_onward 5 = .ok (.iand, 1) := by decide +kernel
theorem dX0_onward_6 : decode cX0_onward 6 = .ok (.ireturn, 1) := by decide +kernel
set_option maxRecDepth 20000 in
theorem ggX0_fingerStart_X0_onward : GoodIn wsX0_fingerStart wsX0_onward := goodIn_r _ [4] (by decide +kernel) (by decide +kernel)
set_option maxRecDepth 20000 in
theorem gX0_fingerStart_X0_onward : GoodIn wsX0_fingerStart (va_wsS RX0 11 yX0_onward wsX0_onward) := goodIn_app (goodIn_of _ (by decide +kernel)) ggX0_fingerStart_X0_onward
theorem dX0_fingerStart_0 : decode cX0_fingerStart 0 = .ok (.iload_n 0, 1) := by decide +kernel
theorem dX0_fingerStart_1 : decode cX0_fingerStart 1 = .ok (.iconst 1, 1) := by decide +kernel
theorem dX0_fingerStart_2 : decode cX0_fingerStart 2 = .ok (.iload_n 1, 1) := by decide +kernel
theorem dX0_fingerStart_3 : decode cX0_fingerStart 3 = .ok (.ishl, 1) := by decide +kernel
theorem dX0_fingerStart_4 : decode cX0_fingerStart 4 = .ok (.invokestatic 11, 3) := by decide +kernel
theorem dX0_fingerStart_7 : decode cX0_fingerStart 7 = .ok (.ireturn, 1) := by decide +kernel
theorem dX0_isUpTo_0 : decode cX0_isUpTo 0 = .ok (.iload_n 0, 1) := by decide +kernel
theorem dX0_isUpTo_1 : decode cX0_isUpTo 1 = .ok (.iload_n 1, 1) := by decide +kernel
theorem dX0_isUpTo_2 : decode cX0_isUpTo 2 = .ok (.isub, 1) := by decide +kernel
theorem dX0_isUpTo_3 : decode cX0_isUpTo 3 = .ok (.iconst 1, 1) := by decide +kernel
theorem dX0_isUpTo_4 : decode cX0_isUpTo 4 = .ok (.isub, 1) := by decide +kernel
theorem dX0_isUpTo_5 : decode cX0_isUpTo 5 = .ok (.bipush 63, 2) := by decide +kernel
theorem dX0_isUpTo_7 : decode cX0_isUpTo 7 = .ok (.iand, 1) := by decide +kernel
theorem dX0_isUpTo_8 : decode cX0_isUpTo 8 = .ok (.iload_n 2, 1) := by decide +kernel
theorem dX0_isUpTo_9 : decode cX0_isUpTo 9 = .ok (.iload_n 1, 1) := by decide +kernel
theorem dX0_isUpTo_10 : decode cX0_isUpTo 10 = .ok (.isub, 1) := by decide +kernel
theorem dX0_isUpTo_11 : decode cX0_isUpTo 11 = .ok (.iconst 1, 1) := by decide +kernel
theorem dX0_isUpTo_12 : decode cX0_isUpTo 12 = .ok (.isub, 1) := by decide +kernel
theorem dX0_isUpTo_13 : decode cX0_isUpTo 13 = .ok (.bipush 63, 2) := by decide +kernel
theorem dX0_isUpTo_15 : decode cX0_isUpTo 15 = .ok (.iand, 1) := by decide +kernel
theorem dX0_isUpTo_16 : decode cX0_isUpTo 16 = .ok (.if_icmp .gt 7, 3) := by decide +kernel
theorem dX0_isUpTo_19 : decode cX0_isUpTo 19 = .ok (.iconst 1, 1) := by decide +kernel
theorem dX0_isUpTo_20 : decode cX0_isUpTo 20 = .ok (.goto 4, 3) := by decide +kernel
theorem dX0_isUpTo_23 : decode cX0_isUpTo 23 = .ok (.iconst 0, 1) := by decide +kernel
theorem dX0_isUpTo_24 : decode cX0_isUpTo 24 = .ok (.ireturn, 1) := by decide +kernel
theorem dX0_isBetween_0 : decode cX0_isBetween 0 = .ok (.iload_n 0, 1) := by decide +kernel
theorem dX0_isBetween_1 : decode cX0_isBetween 1 = .ok (.iload_n 1, 1) := by decide +kernel
theorem dX0_isBetween_2 : decode cX0_isBetween 2 = .ok (.isub, 1) := by decide +kernel
theorem dX0_isBetween_3 : decode cX0_isBetween 3 = .ok (.iconst 1, 1) := by decide +kernel
theorem dX0_isBetween_4 : decode cX0_isBetween 4 = .ok (.isub, 1) := by decide +kernel
theorem dX0_isBetween_5 : decode cX0_isBetween 5 = .ok (.bipush 63, 2) := by decide +kernel
theorem dX0_isBetween_7 : decode cX0_isBetween 7 = .ok (.iand, 1) := by decide +kernel
theorem dX0_isBetween_8 : decode cX0_isBetween 8 = .ok (.iload_n 2, 1) := by decide +kernel
theorem dX0_isBetween_9 : decode cX0_isBetween 9 = .ok (.iload_n 1, 1) := by decide +kernel
theorem dX0_isBetween_10 : decode cX0_isBetween 10 = .ok (.isub, 1) := by decide +kernel
theorem dX0_isBetween_11 : decode cX0_isBetween 11 = .ok (.iconst 1, 1) := by decide +kernel
theorem dX0_isBetween_12 : decode cX0_isBetween 12 = .ok (.isub, 1) := by decide +kernel
theorem dX0_isBetween_13 : decode cX0_isBetween 13 = .ok (.bipush 63, 2) := by decide +kernel
theorem dX0_isBetween_15 : decode cX0_isBetween 15 = .ok (.iand, 1) := by decide +kernel
theorem dX0_isBetween_16 : decode cX0_isBetween 16 = .ok (.if_icmp .ge 7, 3) := by decide +kernel
theorem dX0_isBetween_19 : decode cX0_isBetween 19 = .ok (.iconst 1, 1) := by decide +kernel
theorem dX0_isBetween_20 : decode cX0_isBetween 20 = .ok (.goto 4, 3) := by decide +kernel
theorem dX0_isBetween_23 : decode cX0_isBetween 23 = .ok (.iconst 0, 1) := by decide +kernel
theorem dX0_isBetween_24 : decode cX0_isBetween 24 = .ok (.ireturn, 1) := by decide +kernel
set_option maxRecDepth 20000 in
theorem ggX1_init_J7_fill_53178 : GoodIn wsX1_init wsJ7_fill_53178 := goodIn_r _ [17] (by decide +kernel) (by decide +kernel)
set_option maxRecDepth 20000 in
theorem gX1_init_J7_fill_53178 : GoodIn wsX1_init (va_wsS RX1 28 yJ7_fill_53178 wsJ7_fill_53178) := goodIn_app (goodIn_of _ (by decide +kernel)) ggX1_init_J7_fill_53178
theorem dX1_init_0 : decode cX1_init 0 = .ok (.aload_n 0, 1) := by decide +kernel
theorem dX1_init_1 : decode cX1_init 1 = .ok (.invokespecial 3, 3) := by decide +kernel
theorem dX1_init_4 : decode cX1_init 4 = .ok (.aload_n 0, 1) := by decide +kernel
theorem dX1_init_5 : decode cX1_init 5 = .ok (.iconst 1, 1) := by decide +kernel
theorem dX1_init_6 : decode cX1_init 6 = .ok (.iload_n 1, 1) := by decide +kernel
theorem dX1_init_7 : decode cX1_init 7 = .ok (.bipush 64, 2) := by decide +kernel
theorem dX1_init_9 : decode cX1_init 9 = .ok (.invokestatic 9, 3) := by decide +kernel
theorem dX1_init_12 : decode cX1_init 12 = .ok (.invokestatic 15, 3) := by decide +kernel
theorem dX1_init_15 : decode cX1_init 15 = .ok (.putfield 18, 3) := by decide +kernel
theorem dX1_init_18 : decode cX1_init 18 = .ok (.aload_n 0, 1) := by decide +kernel
theorem dX1_init_19 : decode cX1_init 19 = .ok (.bipush 64, 2) := by decide +kernel
theorem dX1_init_21 : decode cX1_init 21 = .ok (.aload_n 0, 1) := by decide +kernel
theorem dX1_init_22 : decode cX1_init 22 = .ok (.getfield 18, 3) := by decide +kernel
theorem dX1_init_25 : decode cX1_init 25 = .ok (.imul, 1) := by decide +kernel
theorem dX1_init_26 : decode cX1_init 26 = .ok (.newarray .int, 2) := by decide +kernel
theorem dX1_init_28 : decode cX1_init 28 = .ok (.putfield 24, 3) := by decide +kernel
theorem dX1_init_31 : decode cX1_init 31 = .ok (.aload_n 0, 1) := by decide +kernel
theorem dX1_init_32 : decode cX1_init 32 = .ok (.getfield 24, 3) := by decide +kernel
theorem dX1_init_35 : decode cX1_init 35 = .ok (.iconst (-1), 1) := by decide +kernel
theorem dX1_init_36 : decode cX1_init 36 = .ok (.invokestatic 28, 3) := by decide +kernel
theorem dX1_init_39 : decode cX1_init 39 = .ok (.return_, 1) := by decide +kernel
theorem dX1_at_0 : decode cX1_at 0 = .ok (.iload_n 1, 1) := by decide +kernel
theorem dX1_at_1 : decode cX1_at 1 = .ok (.ifCond .lt 21, 3) := by decide +kernel
theorem dX1_at_4 : decode cX1_at 4 = .ok (.iload_n 1, 1) := by decide +kernel
theorem dX1_at_5 : decode cX1_at 5 = .ok (.bipush 64, 2) := by decide +kernel
theorem dX1_at_7 : decode cX1_at 7 = .ok (.if_icmp .ge 15, 3) := by decide +kernel
theorem dX1_at_10 : decode cX1_at 10 = .ok (.iload_n 2, 1) := by decide +kernel
theorem dX1_at_11 : decode cX1_at 11 = .ok (.ifCond .lt 11, 3) := by decide +kernel
theorem dX1_at_14 : decode cX1_at 14 = .ok (.iload_n 2, 1) := by decide +kernel
theorem dX1_at_15 : decode cX1_at 15 = .ok (.aload_n 0, 1) := by decide +kernel
theorem dX1_at_16 : decode cX1_at 16 = .ok (.getfield 18, 3) := by decide +kernel
theorem dX1_at_19 : decode cX1_at 19 = .ok (.if_icmp .lt 5, 3) := by decide +kernel
theorem dX1_at_22 : decode cX1_at 22 = .ok (.iconst (-1), 1) := by decide +kernel
theorem dX1_at_23 : decode cX1_at 23 = .ok (.ireturn, 1) := by decide +kernel
theorem dX1_at_24 : decode cX1_at 24 = .ok (.iload_n 1, 1) := by decide +kernel
theorem dX1_at_25 : decode cX1_at 25 = .ok (.aload_n 0, 1) := by decide +kernel
theorem dX1_at_26 : decode cX1_at 26 = .ok (.getfield 18, 3) := by decide +kernel
theorem dX1_at_29 : decode cX1_at 29 = .ok (.imul, 1) := by decide +kernel
theorem dX1_at_30 : decode cX1_at 30 = .ok (.iload_n 2, 1) := by decide +kernel
theorem dX1_at_31 : decode cX1_at 31 = .ok (.iadd, 1) := by decide +kernel
theorem dX1_at_32 : decode cX1_at 32 = .ok (.istore_n 3, 1) := by decide +kernel
theorem dX1_at_33 : decode cX1_at 33 = .ok (.iload_n 3, 1) := by decide +kernel
theorem dX1_at_34 : decode cX1_at 34 = .ok (.aload_n 0, 1) := by decide +kernel
theorem dX1_at_35 : decode cX1_at 35 = .ok (.getfield 24, 3) := by decide +kernel
theorem dX1_at_38 : decode cX1_at 38 = .ok (.arraylength, 1) := by decide +kernel
theorem dX1_at_39 : decode cX1_at 39 = .ok (.if_icmp .ge 12, 3) := by decide +kernel
theorem dX1_at_42 : decode cX1_at 42 = .ok (.aload_n 0, 1) := by decide +kernel
theorem dX1_at_43 : decode cX1_at 43 = .ok (.getfield 24, 3) := by decide +kernel
theorem dX1_at_46 : decode cX1_at 46 = .ok (.iload_n 3, 1) := by decide +kernel
theorem dX1_at_47 : decode cX1_at 47 = .ok (.iaload, 1) := by decide +kernel
theorem dX1_at_48 : decode cX1_at 48 = .ok (.goto 4, 3) := by decide +kernel
theorem dX1_at_51 : decode cX1_at 51 = .ok (.iconst (-1), 1) := by decide +kernel
theorem dX1_at_52 : decode cX1_at 52 = .ok (.ireturn, 1) := by decide +kernel
theorem dX1_set_0 : decode cX1_set 0 = .ok (.iload_n 1, 1) := by decide +kernel
theorem dX1_set_1 : decode cX1_set 1 = .ok (.ifCond .lt 21, 3) := by decide +kernel
theorem dX1_set_4 : decode cX1_set 4 = .ok (.iload_n 1, 1) := by decide +kernel
theorem dX1_set_5 : decode cX1_set 5 = .ok (.bipush 64, 2) := by decide +kernel
theorem dX1_set_7 : decode cX1_set 7 = .ok (.if_icmp .ge 15, 3) := by decide +kernel
theorem dX1_set_10 : decode cX1_set 10 = .ok (.iload_n 2, 1) := by decide +kernel
theorem dX1_set_11 : decode cX1_set 11 = .ok (.ifCond .lt 11, 3) := by decide +kernel
theorem dX1_set_14 : decode cX1_set 14 = .ok (.iload_n 2, 1) := by decide +kernel
theorem dX1_set_15 : decode cX1_set 15 = .ok (.aload_n 0, 1) := by decide +kernel
theorem dX1_set_16 : decode cX1_set 16 = .ok (.getfield 18, 3) := by decide +kernel
theorem dX1_set_19 : decode cX1_set 19 = .ok (.if_icmp .lt 4, 3) := by decide +kernel
theorem dX1_set_22 : decode cX1_set 22 = .ok (.return_, 1) := by decide +kernel
theorem dX1_set_23 : decode cX1_set 23 = .ok (.iload_n 1, 1) := by decide +kernel
theorem dX1_set_24 : decode cX1_set 24 = .ok (.aload_n 0, 1) := by decide +kernel
theorem dX1_set_25 : decode cX1_set 25 = .ok (.getfield 18, 3) := by decide +kernel
theorem dX1_set_28 : decode cX1_set 28 = .ok (.imul, 1) := by decide +kernel
theorem dX1_set_29 : decode cX1_set 29 = .ok (.iload_n 2, 1) := by decide +kernel
theorem dX1_set_30 : decode cX1_set 30 = .ok (.iadd, 1) := by decide +kernel
theorem dX1_set_31 : decode cX1_set 31 = .ok (.istore 4, 2) := by decide +kernel
theorem dX1_set_33 : decode cX1_set 33 = .ok (.iload 4, 2) := by decide +kernel
theorem dX1_set_35 : decode cX1_set 35 = .ok (.aload_n 0, 1) := by decide +kernel
theorem dX1_set_36 : decode cX1_set 36 = .ok (.getfield 24, 3) := by decide +kernel
theorem dX1_set_39 : decode cX1_set 39 = .ok (.arraylength, 1) := by decide +kernel
theorem dX1_set_40 : decode cX1_set 40 = .ok (.if_icmp .ge 11, 3) := by decide +kernel
theorem dX1_set_43 : decode cX1_set 43 = .ok (.aload_n 0, 1) := by decide +kernel
theorem dX1_set_44 : decode cX1_set 44 = .ok (.getfield 24, 3) := by decide +kernel
theorem dX1_set_47 : decode cX1_set 47 = .ok (.iload 4, 2) := by decide +kernel
theorem dX1_set_49 : decode cX1_set 49 = .ok (.iload_n 3, 1) := by decide +kernel
theorem dX1_set_50 : decode cX1_set 50 = .ok (.iastore, 1) := by decide +kernel
theorem dX1_set_51 : decode cX1_set 51 = .ok (.return_, 1) := by decide +kernel
set_option maxRecDepth 20000 in
theorem ggX1_clear_X1_set : GoodIn wsX1_clear wsX1_set := goodIn_r _ [6, 1, 7, 8, 9] (by decide +kernel) (by decide +kernel)
set_option maxRecDepth 20000 in
theorem gX1_clear_X1_set : GoodIn wsX1_clear (wsV RX1 34 RX1 yX1_set wsX1_set) := goodIn_app (goodIn_of _ (by decide +kernel)) ggX1_clear_X1_set
theorem dX1_clear_0 : decode cX1_clear 0 = .ok (.iconst 0, 1) := by decide +kernel
theorem dX1_clear_1 : decode cX1_clear 1 = .ok (.istore_n 2, 1) := by decide +kernel
theorem dX1_clear_2 : decode cX1_clear 2 = .ok (.iload_n 2, 1) := by decide +kernel
theorem dX1_clear_3 : decode cX1_clear 3 = .ok (.aload_n 0, 1) := by decide +kernel
theorem dX1_clear_4 : decode cX1_clear 4 = .ok (.getfield 18, 3) := by decide +kernel
theorem dX1_clear_7 : decode cX1_clear 7 = .ok (.if_icmp .ge 16, 3) := by decide +kernel
theorem dX1_clear_10 : decode cX1_clear 10 = .ok (.aload_n 0, 1) := by decide +kernel
theorem dX1_clear_11 : decode cX1_clear 11 = .ok (.iload_n 1, 1) := by decide +kernel
theorem dX1_clear_12 : decode cX1_clear 12 = .ok (.iload_n 2, 1) := by decide +kernel
theorem dX1_clear_13 : decode cX1_clear 13 = .ok (.iconst (-1), 1) := by decide +kernel
theorem dX1_clear_14 : decode cX1_clear 14 = .ok (.invokevirtual 34, 3) := by decide +kernel
theorem dX1_clear_17 : decode cX1_clear 17 = .ok (.iinc 2 1, 3) := by decide +kernel
theorem dX1_clear_20 : decode cX1_clear 20 = .ok (.goto (-18), 3) := by decide +kernel
theorem dX1_clear_23 : decode cX1_clear 23 = .ok (.return_, 1) := by decide +kernel
set_option maxRecDepth 20000 in
theorem ggX2_init_X1_init : GoodIn wsX2_init wsX1_init := goodIn_r _ [23, 24, 2, 3, 25, 26, 27, 28, 29, 30, 31, 32, 15, 33, 34, 35, 36, 37, 50, 51] (by decide +kernel) (by decide +kernel)
set_option maxRecDepth 20000 in
theorem gX2_init_X1_init : GoodIn wsX2_init (wsX1_init) := ggX2_init_X1_init
theorem dX2_init_0 : decode cX2_init 0 = .ok (.aload_n 0, 1) := by decide +kernel
theorem dX2_init_1 : decode cX2_init 1 = .ok (.invokespecial 1, 3) := by decide +kernel
theorem dX2_init_4 : decode cX2_init 4 = .ok (.aload_n 0, 1) := by decide +kernel
theorem dX2_init_5 : decode cX2_init 5 = .ok (.bipush 64, 2) := by decide +kernel
theorem dX2_init_7 : decode cX2_init 7 = .ok (.newarray .boolean, 2) := by decide +kernel
theorem dX2_init_9 : decode cX2_init 9 = .ok (.putfield 9, 3) := by decide +kernel
theorem dX2_init_12 : decode cX2_init 12 = .ok (.aload_n 0, 1) := by decide +kernel
theorem dX2_init_13 : decode cX2_init 13 = .ok (.new 13, 3) := by decide +kernel
theorem dX2_init_16 : decode cX2_init 16 = .ok (.dup, 1) := by decide +kernel
theorem dX2_init_17 : decode cX2_init 17 = .ok (.iconst 3, 1) := by decide +kernel
theorem dX2_init_18 : decode cX2_init 18 = .ok (.invokespecial 15, 3) := by decide +kernel
theorem dX2_init_21 : decode cX2_init 21 = .ok (.putfield 18, 3) := by decide +kernel
theorem dX2_init_24 : decode cX2_init 24 = .ok (.aload_n 0, 1) := by decide +kernel
theorem dX2_init_25 : decode cX2_init 25 = .ok (.new 13, 3) := by decide +kernel
theorem dX2_init_28 : decode cX2_init 28 = .ok (.dup, 1) := by decide +kernel
theorem dX2_init_29 : decode cX2_init 29 = .ok (.iconst 1, 1) := by decide +kernel
theorem dX2_init_30 : decode cX2_init 30 = .ok (.invokespecial 15, 3) := by decide +kernel
theorem dX2_init_33 : decode cX2_init 33 = .ok (.putfield 22, 3) := by decide +kernel
theorem dX2_init_36 : decode cX2_init 36 = .ok (.aload_n 0, 1) := by decide +kernel
theorem dX2_init_37 : decode cX2_init 37 = .ok (.new 13, 3) := by decide +kernel
theorem dX2_init_40 : decode cX2_init 40 = .ok (.dup, 1) := by decide +kernel
theorem dX2_init_41 : decode cX2_init 41 = .ok (.bipush 6, 2) := by decide +kernel
theorem dX2_init_43 : decode cX2_init 43 = .ok (.invokespecial 15, 3) := by decide +kernel
theorem dX2_init_46 : decode cX2_init 46 = .ok (.putfield 25, 3) := by decide +kernel
theorem dX2_init_49 : decode cX2_init 49 = .ok (.aload_n 0, 1) := by decide +kernel
theorem dX2_init_50 : decode cX2_init 50 = .ok (.new 13, 3) := by decide +kernel
theorem dX2_init_53 : decode cX2_init 53 = .ok (.dup, 1) := by decide +kernel
theorem dX2_init_54 : decode cX2_init 54 = .ok (.bipush 64, 2) := by decide +kernel
theorem dX2_init_56 : decode cX2_init 56 = .ok (.invokespecial 15, 3) := by decide +kernel
theorem dX2_init_59 : decode cX2_init 59 = .ok (.putfield 28, 3) := by decide +kernel
theorem dX2_init_62 : decode cX2_init 62 = .ok (.aload_n 0, 1) := by decide +kernel
theorem dX2_init_63 : decode cX2_init 63 = .ok (.new 13, 3) := by decide +kernel
theorem dX2_init_66 : decode cX2_init 66 = .ok (.dup, 1) := by decide +kernel
theorem dX2_init_67 : decode cX2_init 67 = .ok (.bipush 64, 2) := by decide +kernel
theorem dX2_init_69 : decode cX2_init 69 = .ok (.invokespecial 15, 3) := by decide +kernel
theorem dX2_init_72 : decode cX2_init 72 = .ok (.putfield 31, 3) := by decide +kernel
theorem dX2_init_75 : decode cX2_init 75 = .ok (.aload_n 0, 1) := by decide +kernel
theorem dX2_init_76 : decode cX2_init 76 = .ok (.iconst 0, 1) := by decide +kernel
theorem dX2_init_77 : decode cX2_init 77 = .ok (.putfield 34, 3) := by decide +kernel
theorem dX2_init_80 : decode cX2_init 80 = .ok (.aload_n 0, 1) := by decide +kernel
theorem dX2_init_81 : decode cX2_init 81 = .ok (.bipush 64, 2) := by decide +kernel
theorem dX2_init_83 : decode cX2_init 83 = .ok (.newarray .int, 2) := by decide +kernel
theorem dX2_init_85 : decode cX2_init 85 = .ok (.putfield 38, 3) := by decide +kernel
theorem dX2_init_88 : decode cX2_init 88 = .ok (.aload_n 0, 1) := by decide +kernel
theorem dX2_init_89 : decode cX2_init 89 = .ok (.iconst 0, 1) := by decide +kernel
theorem dX2_init_90 : decode cX2_init 90 = .ok (.putfield 42, 3) := by decide +kernel
theorem dX2_init_93 : decode cX2_init 93 = .ok (.aload_n 0, 1) := by decide +kernel
theorem dX2_init_94 : decode cX2_init 94 = .ok (.new 13, 3) := by decide +kernel
theorem dX2_init_97 : decode cX2_init 97 = .ok (.dup, 1) := by decide +kernel
theorem dX2_init_98 : decode cX2_init 98 = .ok (.iconst 3, 1) := by decide +kernel
theorem dX2_init_99 : decode cX2_init 99 = .ok (.invokespecial 15, 3) := by decide +kernel
theorem dX2_init_102 : decode cX2_init 102 = .ok (.putfield 45, 3) := by decide +kernel
theorem dX2_init_105 : decode cX2_init 105 = .ok (.aload_n 0, 1) := by decide +kernel
theorem dX2_init_106 : decode cX2_init 106 = .ok (.new 13, 3) := by decide +kernel
theorem dX2_init_109 : decode cX2_init 109 = .ok (.dup, 1) := by decide +kernel
theorem dX2_init_110 : decode cX2_init 110 = .ok (.iconst 1, 1) := by decide +kernel
theorem dX2_init_111 : decode cX2_init 111 = .ok (.invokespecial 15, 3) := by decide +kernel
theorem dX2_init_114 : decode cX2_init 114 = .ok (.putfield 48, 3) := by decide +kernel
theorem dX2_init_117 : decode cX2_init 117 = .ok (.aload_n 0, 1) := by decide +kernel
theorem dX2_init_118 : decode cX2_init 118 = .ok (.new 13, 3) := by decide +kernel
theorem dX2_init_121 : decode cX2_init 121 = .ok (.dup, 1) := by decide +kernel
theorem dX2_init_122 : decode cX2_init 122 = .ok (.bipush 6, 2) := by decide +kernel
theorem dX2_init_124 : decode cX2_init 124 = .ok (.invokespecial 15, 3) := by decide +kernel
theorem dX2_init_127 : decode cX2_init 127 = .ok (.putfield 51, 3) := by decide +kernel
theorem dX2_init_130 : decode cX2_init 130 = .ok (.return_, 1) := by decide +kernel
set_option maxRecDepth 20000 in
theorem ggX2_create_X2_requireIdentifier : GoodIn wsX2_create wsX2_requireIdentifier := goodIn_ca (goodIn_r _ [6, 7, 8, 5, 9, 10, 11] (by decide +kernel) (by decide +kernel)) (goodIn_sub (fun _ h => List.mem_cons_of_mem _ (List.mem_append_right _ h)) (by decide +kernel))
set_option maxRecDepth 20000 in
theorem gX2_create_X2_requireIdentifier : GoodIn wsX2_create (va_wsS RX2 54 yX2_requireIdentifier wsX2_requireIdentifier) := goodIn_app (goodIn_of _ (by decide +kernel)) ggX2_create_X2_requireIdentifier
set_option maxRecDepth 20000 in
theorem ggX2_create_X2_countLiving : GoodIn wsX2_create wsX2_countLiving := goodIn_r _ [15, 16, 17, 18, 5, 19, 20, 50, 51, 52, 53, 54, 55, 56, 57, 58, 59, 60, 61] (by decide +kernel) (by decide +kernel)
set_option maxRecDepth 20000 in
theorem gX2_create_X2_countLiving : GoodIn wsX2_create (wsV RX2 57 RX2 yX2_countLiving wsX2_countLiving) := goodIn_app (goodIn_of _ (by decide +kernel)) ggX2_create_X2_countLiving
set_option maxRecDepth 20000 in
theorem ggX2_create_X2_beginLife : GoodIn wsX2_create wsX2_beginLife := goodIn_r _ [24, 25, 26, 27, 28, 29, 30, 31, 5, 32, 33, 34, 35, 36, 37, 38, 39, 40, 41, 42, 43, 44, 45, 46, 47, 48, 49, 20, 50, 51, 52, 53, 54, 55, 56, 57, 58, 59, 60, 61, 62, 63] (by decide +kernel) (by decide +kernel)
set_option maxRecDepth 20000 in
theorem gX2_create_X2_beginLife : GoodIn wsX2_create (wsV RX2 68 RX2 yX2_beginLife wsX2_beginLife) := goodIn_app (goodIn_of _ (by decide +kernel)) ggX2_create_X2_beginLife
theorem dX2_create_0 : decode cX2_create 0 = .ok (.iload_n 1, 1) := by decide +kernel
theorem dX2_create_1 : decode cX2_create 1 = .ok (.invokestatic 54, 3) := by decide +kernel
theorem dX2_create_4 : decode cX2_create 4 = .ok (.aload_n 0, 1) := by decide +kernel
theorem dX2_create_5 : decode cX2_create 5 = .ok (.invokevirtual 57, 3) := by decide +kernel
theorem dX2_create_8 : decode cX2_create 8 = .ok (.ifCond .le 13, 3) := by decide +kernel
theorem dX2_create_11 : decode cX2_create 11 = .ok (.new 61, 3) := by decide +kernel
theorem dX2_create_14 : decode cX2_create 14 = .ok (.dup, 1) := by decide +kernel
theorem dX2_create_15 : decode cX2_create 15 = .ok (.ldc 63, 2) := by decide +kernel
theorem dX2_create_17 : decode cX2_create 17 = .ok (.invokespecial 65, 3) := by decide +kernel
theorem dX2_create_20 : decode cX2_create 20 = .ok (.athrow, 1) := by decide +kernel
theorem dX2_create_21 : decode cX2_create 21 = .ok (.aload_n 0, 1) := by decide +kernel
theorem dX2_create_22 : decode cX2_create 22 = .ok (.iload_n 1, 1) := by decide +kernel
theorem dX2_create_23 : decode cX2_create 23 = .ok (.iload_n 1, 1) := by decide +kernel
theorem dX2_create_24 : decode cX2_create 24 = .ok (.iload_n 1, 1) := by decide +kernel
theorem dX2_create_25 : decode cX2_create 25 = .ok (.iload_n 1, 1) := by decide +kernel
theorem dX2_create_26 : decode cX2_create 26 = .ok (.invokevirtual 68, 3) := by decide +kernel
theorem dX2_create_29 : decode cX2_create 29 = .ok (.aload_n 0, 1) := by decide +kernel
theorem dX2_create_30 : decode cX2_create 30 = .ok (.invokevirtual 57, 3) := by decide +kernel
theorem dX2_create_33 : decode cX2_create 33 = .ok (.ireturn, 1) := by decide +kernel
set_option maxRecDepth 20000 in
theorem ggX2_join_X2_requireIdentifier : GoodIn wsX2_join wsX2_requireIdentifier := goodIn_ca (goodIn_r _ [7, 8, 9, 6, 10, 11, 12] (by decide +kernel) (by decide +kernel)) (goodIn_sub (fun _ h => List.mem_cons_of_mem _ (List.mem_append_right _ h)) (by decide +kernel))
set_option maxRecDepth 20000 in
theorem gX2_join_X2_requireIdentifier : GoodIn wsX2_join (va_wsS RX2 54 yX2_requireIdentifier wsX2_requireIdentifier) := goodIn_app (goodIn_of _ (by decide +kernel)) ggX2_join_X2_requireIdentifier
set_option maxRecDepth 20000 in
theorem ggX2_join_X2_isAlive : GoodIn wsX2_join wsX2_isAlive := goodIn_r _ [16, 17, 75, 76, 77, 78, 79, 80, 81, 82, 83, 84, 85, 86] (by decide +kernel) (by decide +kernel)
set_option maxRecDepth 20000 in
theorem gX2_join_X2_isAlive : GoodIn wsX2_join (wsV RX2 72 RX2 yX2_isAlive wsX2_isAlive) := goodIn_app (goodIn_of _ (by decide +kernel)) ggX2_join_X2_isAlive
set_option maxRecDepth 20000 in
theorem ggX2_join_X2_requireAlive : GoodIn wsX2_join wsX2_requireAlive := goodIn_ca (goodIn_r _ [21, 1, 2, 13, 14, 15, 6, 16, 17, 75, 76, 77, 78, 79, 80, 81, 82, 83, 84, 85, 86] (by decide +kernel) (by decide +kernel)) (goodIn_sub (fun _ h => List.mem_cons_of_mem _ (List.mem_append_left _ (List.mem_append_right _ h))) (by decide +kernel))
set_option maxRecDepth 20000 in
theorem gX2_join_X2_requireAlive : GoodIn wsX2_join (wsV RX2 78 RX2 yX2_requireAlive wsX2_requireAlive) := goodIn_app (goodIn_of _ (by decide +kernel)) ggX2_join_X2_requireAlive
set_option maxRecDepth 20000 in
theorem ggX2_join_X2_find : GoodIn wsX2_join wsX2_find := goodIn_r _ [25, 26, 27, 28, 29, 30, 6, 31, 3, 32, 33, 34, 35, 36, 37, 38, 13, 14, 15, 16, 17, 39, 40, 41, 42, 43, 44, 45, 46, 47, 48, 49, 50, 75, 76, 77, 78, 79, 80, 81, 82, 83, 84, 85, 86, 87, 88] (by decide +kernel) (by decide +kernel)
set_option maxRecDepth 20000 in
theorem gX2_join_X2_find : GoodIn wsX2_join (wsV RX2 81 RX2 yX2_find wsX2_find) := goodIn_app (goodIn_of _ (by decide +kernel)) ggX2_join_X2_find
set_option maxRecDepth 20000 in
theorem ggX2_join_X1_at : GoodIn wsX2_join wsX1_at := goodIn_r _ [36, 37, 38, 87, 88] (by decide +kernel) (by decide +kernel)
set_option maxRecDepth 20000 in
theorem gX2_join_X1_at : GoodIn wsX2_join (wsV RX2 85 RX1 yX1_at wsX1_at) := goodIn_app (goodIn_of _ (by decide +kernel)) ggX2_join_X1_at
set_option maxRecDepth 20000 in
theorem ggX2_join_X2_beginLife : GoodIn wsX2_join wsX2_beginLife := goodIn_r _ [54, 55, 47, 56, 57, 58, 59, 60, 6, 61, 3, 62, 63, 64, 35, 65, 37, 38, 66, 67, 68, 69, 70, 71, 72, 73, 74, 17, 75, 76, 77, 78, 79, 80, 81, 82, 83, 84, 85, 86, 87, 88] (by decide +kernel) (by decide +kernel)
set_option maxRecDepth 20000 in
theorem gX2_join_X2_beginLife : GoodIn wsX2_join (wsV RX2 68 RX2 yX2_beginLife wsX2_beginLife) := goodIn_app (goodIn_of _ (by decide +kernel)) ggX2_join_X2_beginLife
theorem dX2_join_0 : decode cX2_join 0 = .ok (.iload_n 1, 1) := by decide +kernel
theorem dX2_join_1 : decode cX2_join 1 = .ok (.invokestatic 54, 3) := by decide +kernel
theorem dX2_join_4 : decode cX2_join 4 = .ok (.iload_n 2, 1) := by decide +kernel
theorem dX2_join_5 : decode cX2_join 5 = .ok (.invokestatic 54, 3) := by decide +kernel
theorem dX2_join_8 : decode cX2_join 8 = .ok (.aload_n 0, 1) := by decide +kernel
theorem dX2_join_9 : decode cX2_join 9 = .ok (.iload_n 1, 1) := by decide +kernel
theorem dX2_join_10 : decode cX2_join 10 = .ok (.invokevirtual 72, 3) := by decide +kernel
theorem dX2_join_13 : decode cX2_join 13 = .ok (.ifCond .eq 13, 3) := by decide +kernel
theorem dX2_join_16 : decode cX2_join 16 = .ok (.new 61, 3) := by decide +kernel
theorem dX2_join_19 : decode cX2_join 19 = .ok (.dup, 1) := by decide +kernel
theorem dX2_join_20 : decode cX2_join 20 = .ok (.ldc 76, 2) := by decide +kernel
theorem dX2_join_22 : decode cX2_join 22 = .ok (.invokespecial 65, 3) := by decide +kernel
theorem dX2_join_25 : decode cX2_join 25 = .ok (.athrow, 1) := by decide +kernel
theorem dX2_join_26 : decode cX2_join 26 = .ok (.aload_n 0, 1) := by decide +kernel
theorem dX2_join_27 : decode cX2_join 27 = .ok (.iload_n 2, 1) := by decide +kernel
theorem dX2_join_28 : decode cX2_join 28 = .ok (.invokevirtual 78, 3) := by decide +kernel
theorem dX2_join_31 : decode cX2_join 31 = .ok (.aload_n 0, 1) := by decide +kernel
theorem dX2_join_32 : decode cX2_join 32 = .ok (.iload_n 2, 1) := by decide +kernel
theorem dX2_join_33 : decode cX2_join 33 = .ok (.iload_n 1, 1) := by decide +kernel
theorem dX2_join_34 : decode cX2_join 34 = .ok (.invokevirtual 81, 3) := by decide +kernel
theorem dX2_join_37 : decode cX2_join 37 = .ok (.istore_n 3, 1) := by decide +kernel
theorem dX2_join_38 : decode cX2_join 38 = .ok (.aload_n 0, 1) := by decide +kernel
theorem dX2_join_39 : decode cX2_join 39 = .ok (.iload_n 1, 1) := by decide +kernel
theorem dX2_join_40 : decode cX2_join 40 = .ok (.iload_n 3, 1) := by decide +kernel
theorem dX2_join_41 : decode cX2_join 41 = .ok (.aload_n 0, 1) := by decide +kernel
theorem dX2_join_42 : decode cX2_join 42 = .ok (.getfield 18, 3) := by decide +kernel
theorem dX2_join_45 : decode cX2_join 45 = .ok (.iload_n 3, 1) := by decide +kernel
theorem dX2_join_46 : decode cX2_join 46 = .ok (.iconst 0, 1) := by decide +kernel
theorem dX2_join_47 : decode cX2_join 47 = .ok (.invokevirtual 85, 3) := by decide +kernel
theorem dX2_join_50 : decode cX2_join 50 = .ok (.aload_n 0, 1) := by decide +kernel
theorem dX2_join_51 : decode cX2_join 51 = .ok (.getfield 18, 3) := by decide +kernel
theorem dX2_join_54 : decode cX2_join 54 = .ok (.iload_n 3, 1) := by decide +kernel
theorem dX2_join_55 : decode cX2_join 55 = .ok (.iconst 1, 1) := by decide +kernel
theorem dX2_join_56 : decode cX2_join 56 = .ok (.invokevirtual 85, 3) := by decide +kernel
theorem dX2_join_59 : decode cX2_join 59 = .ok (.invokevirtual 68, 3) := by decide +kernel
theorem dX2_join_62 : decode cX2_join 62 = .ok (.iload_n 3, 1) := by decide +kernel
theorem dX2_join_63 : decode cX2_join 63 = .ok (.ireturn, 1) := by decide +kernel
set_option maxRecDepth 20000 in
theorem ggX2_fail_X2_requireIdentifier : GoodIn wsX2_fail wsX2_requireIdentifier := goodIn_ca (goodIn_r _ [4, 5, 6, 3, 7, 8, 9] (by decide +kernel) (by decide +kernel)) (goodIn_sub (fun _ h => List.mem_cons_of_mem _ (List.mem_append_left _ (List.mem_append_right _ h))) (by decide +kernel))
set_option maxRecDepth 20000 in
theorem gX2_fail_X2_requireIdentifier : GoodIn wsX2_fail (va_wsS RX2 54 yX2_requireIdentifier wsX2_requireIdentifier) := goodIn_app (goodIn_of _ (by decide +kernel)) ggX2_fail_X2_requireIdentifier
set_option maxRecDepth 20000 in
theorem ggX2_fail_X2_requireAlive : GoodIn wsX2_fail wsX2_requireAlive := goodIn_ca (goodIn_r _ [13, 14, 15, 16, 17, 18, 3, 19, 20, 33, 34, 35, 36, 37, 38, 39, 40, 41, 42, 43, 44] (by decide +kernel) (by decide +kernel)) (goodIn_sub (fun _ h => List.mem_cons_of_mem _ (List.mem_append_right _ h)) (by decide +kernel))
set_option maxRecDepth 20000 in
theorem gX2_fail_X2_requireAlive : GoodIn wsX2_fail (wsV RX2 78 RX2 yX2_requireAlive wsX2_requireAlive) := goodIn_app (goodIn_of _ (by decide +kernel)) ggX2_fail_X2_requireAlive
set_option maxRecDepth 20000 in
theorem ggX2_fail_X2_endLife : GoodIn wsX2_fail wsX2_endLife := goodIn_r _ [24, 25, 26, 27, 3, 28, 20, 33, 34, 35, 36, 37, 38, 39, 40, 41, 42, 43, 44] (by decide +kernel) (by decide +kernel)
set_option maxRecDepth 20000 in
theorem gX2_fail_X2_endLife : GoodIn wsX2_fail (wsV RX2 88 RX2 yX2_endLife wsX2_endLife) := goodIn_app (goodIn_of _ (by decide +kernel)) ggX2_fail_X2_endLife
set_option maxRecDepth 20000 in
theorem ggX2_fail_X2_countLiving : GoodIn wsX2_fail wsX2_countLiving := goodIn_r _ [32, 16, 17, 18, 3, 19, 20, 33, 34, 35, 36, 37, 38, 39, 40, 41, 42, 43, 44] (by decide +kernel) (by decide +kernel)
set_option maxRecDepth 20000 in
theorem gX2_fail_X2_countLiving : GoodIn wsX2_fail (wsV RX2 57 RX2 yX2_countLiving wsX2_countLiving) := goodIn_app (goodIn_of _ (by decide +kernel)) ggX2_fail_X2_countLiving
theorem dX2_fail_0 : decode cX2_fail 0 = .ok (.iload_n 1, 1) := by decide +kernel
theorem dX2_fail_1 : decode cX2_fail 1 = .ok (.invokestatic 54, 3) := by decide +kernel
theorem dX2_fail_4 : decode cX2_fail 4 = .ok (.aload_n 0, 1) := by decide +kernel
theorem dX2_fail_5 : decode cX2_fail 5 = .ok (.iload_n 1, 1) := by decide +kernel
theorem dX2_fail_6 : decode cX2_fail 6 = .ok (.invokevirtual 78, 3) := by decide +kernel
theorem dX2_fail_9 : decode cX2_fail 9 = .ok (.aload_n 0, 1) := by decide +kernel
theorem dX2_fail_10 : decode cX2_fail 10 = .ok (.iload_n 1, 1) := by decide +kernel
theorem dX2_fail_11 : decode cX2_fail 11 = .ok (.invokevirtual 88, 3) := by decide +kernel
theorem dX2_fail_14 : decode cX2_fail 14 = .ok (.aload_n 0, 1) := by decide +kernel
theorem dX2_fail_15 : decode cX2_fail 15 = .ok (.invokevirtual 57, 3) := by decide +kernel
theorem dX2_fail_18 : decode cX2_fail 18 = .ok (.ireturn, 1) := by decide +kernel
set_option maxRecDepth 20000 in
theorem ggX2_leave_X2_requireIdentifier : GoodIn wsX2_leave wsX2_requireIdentifier := goodIn_ca (goodIn_r _ [4, 5, 6, 3, 7, 8, 9] (by decide +kernel) (by decide +kernel)) (goodIn_sub (fun _ h => List.mem_cons_of_mem _ (List.mem_append_left _ (List.mem_append_right _ h))) (by decide +kernel))
set_option maxRecDepth 20000 in
theorem gX2_leave_X2_requireIdentifier : GoodIn wsX2_leave (va_wsS RX2 54 yX2_requireIdentifier wsX2_requireIdentifier) := goodIn_app (goodIn_of _ (by decide +kernel)) ggX2_leave_X2_requireIdentifier
set_option maxRecDepth 20000 in
theorem ggX2_leave_X2_requireAlive : GoodIn wsX2_leave wsX2_requireAlive := goodIn_ca (goodIn_r _ [13, 14, 15, 16, 17, 18, 3, 19, 20, 68, 69, 70, 71, 72, 73, 74, 75, 76, 77, 78, 79] (by decide +kernel) (by decide +kernel)) (goodIn_sub (fun _ h => List.mem_cons_of_mem _ (List.mem_append_right _ h)) (by decide +kernel))
set_option maxRecDepth 20000 in
theorem gX2_leave_X2_requireAlive : GoodIn wsX2_leave (wsV RX2 78 RX2 yX2_requireAlive wsX2_requireAlive) := goodIn_app (goodIn_of _ (by decide +kernel)) ggX2_leave_X2_requireAlive
set_option maxRecDepth 20000 in
theorem ggX2_leave_X2_firstLivingSuccessor : GoodIn wsX2_leave wsX2_firstLivingSuccessor := goodIn_r _ [24, 25, 26, 27, 28, 29, 30, 31, 32, 16, 17, 18, 3, 19, 20, 68, 69, 70, 71, 72, 73, 74, 75, 76, 77, 78, 79, 80, 81] (by decide +kernel) (by decide +kernel)
set_option maxRecDepth 20000 in
theorem gX2_leave_X2_firstLivingSuccessor : GoodIn wsX2_leave (wsV RX2 91 RX2 yX2_firstLivingSuccessor wsX2_firstLivingSuccessor) := goodIn_app (goodIn_of _ (by decide +kernel)) ggX2_leave_X2_firstLivingSuccessor
set_option maxRecDepth 20000 in
theorem ggX2_leave_X2_handOver : GoodIn wsX2_leave wsX2_handOver := goodIn_r _ [36, 37, 38, 39, 40, 3, 41, 42, 43, 26, 27, 28, 29, 30, 31, 32, 44, 45, 46, 47, 16, 17, 18, 19, 20, 48, 49, 50, 51, 25, 52, 53, 54, 55, 68, 69, 70, 71, 72, 73, 74, 75, 76, 77, 78, 79, 80, 81] (by decide +kernel) (by decide +kernel)
set_option maxRecDepth 20000 in
theorem gX2_leave_X2_handOver : GoodIn wsX2_leave (wsV RX2 95 RX2 yX2_handOver wsX2_handOver) := goodIn_app (goodIn_of _ (by decide +kernel)) ggX2_leave_X2_handOver
set_option maxRecDepth 20000 in
theorem ggX2_leave_X2_endLife : GoodIn wsX2_leave wsX2_endLife := goodIn_r _ [59, 60, 61, 62, 3, 63, 20, 68, 69, 70, 71, 72, 73, 74, 75, 76, 77, 78, 79] (by decide +kernel) (by decide +kernel)
set_option maxRecDepth 20000 in
theorem gX2_leave_X2_endLife : GoodIn wsX2_leave (wsV RX2 88 RX2 yX2_endLife wsX2_endLife) := goodIn_app (goodIn_of _ (by decide +kernel)) ggX2_leave_X2_endLife
set_option maxRecDepth 20000 in
theorem ggX2_leave_X2_countLiving : GoodIn wsX2_leave wsX2_countLiving := goodIn_r _ [67, 16, 17, 18, 3, 19, 20, 68, 69, 70, 71, 72, 73, 74, 75, 76, 77, 78, 79] (by decide +kernel) (by decide +kernel)
set_option maxRecDepth 20000 in
theorem gX2_leave_X2_countLiving : GoodIn wsX2_leave (wsV RX2 57 RX2 yX2_countLiving wsX2_countLiving) := goodIn_app (goodIn_of _ (by decide +kernel)) ggX2_leave_X2_countLiving
theorem dX2_leave_0 : decode cX2_leave 0 = .ok (.iload_n 1, 1) := by decide +kernel
theorem dX2_leave_1 : decode cX2_leave 1 = .ok (.invokestatic 54, 3) := by decide +kernel
theorem dX2_leave_4 : decode cX2_leave 4 = .ok (.aload_n 0, 1) := by decide +kernel
theorem dX2_leave_5 : decode cX2_leave 5 = .ok (.iload_n 1, 1) := by decide +kernel
theorem dX2_leave_6 : decode cX2_leave 6 = .ok (.invokevirtual 78, 3) := by decide +kernel
theorem dX2_leave_9 : decode cX2_leave 9 = .ok (.aload_n 0, 1) := by decide +kernel
theorem dX2_leave_10 : decode cX2_leave 10 = .ok (.iload_n 1, 1) := by decide +kernel
theorem dX2_leave_11 : decode cX2_leave 11 = .ok (.invokevirtual 91, 3) := by decide +kernel
theorem dX2_leave_14 : decode cX2_leave 14 = .ok (.istore_n 2, 1) := by decide +kernel
theorem dX2_leave_15 : decode cX2_leave 15 = .ok (.iload_n 2, 1) := by decide +kernel
theorem dX2_leave_16 : decode cX2_leave 16 = .ok (.iload_n 1, 1) := by decide +kernel
theorem dX2_leave_17 : decode cX2_leave 17 = .ok (.if_icmp .eq 9, 3) := by decide +kernel
theorem dX2_leave_20 : decode cX2_leave 20 = .ok (.aload_n 0, 1) := by decide +kernel
theorem dX2_leave_21 : decode cX2_leave 21 = .ok (.iload_n 1, 1) := by decide +kernel
theorem dX2_leave_22 : decode cX2_leave 22 = .ok (.iload_n 2, 1) := by decide +kernel
theorem dX2_leave_23 : decode cX2_leave 23 = .ok (.invokevirtual 95, 3) := by decide +kernel
theorem dX2_leave_26 : decode cX2_leave 26 = .ok (.aload_n 0, 1) := by decide +kernel
theorem dX2_leave_27 : decode cX2_leave 27 = .ok (.iload_n 1, 1) := by decide +kernel
theorem dX2_leave_28 : decode cX2_leave 28 = .ok (.invokevirtual 88, 3) := by decide +kernel
theorem dX2_leave_31 : decode cX2_leave 31 = .ok (.aload_n 0, 1) := by decide +kernel
theorem dX2_leave_32 : decode cX2_leave 32 = .ok (.invokevirtual 57, 3) := by decide +kernel
theorem dX2_leave_35 : decode cX2_leave 35 = .ok (.ireturn, 1) := by decide +kernel
set_option maxRecDepth 20000 in
theorem ggX2_living_X2_countLiving : GoodIn wsX2_living wsX2_countLiving := goodIn_r _ [5, 6, 7, 8, 4, 9, 10, 11, 12, 13, 14, 15, 16, 17, 18, 19, 20, 21, 22] (by decide +kernel) (by decide +kernel)
set_option maxRecDepth 20000 in
theorem gX2_living_X2_countLiving : GoodIn wsX2_living (wsV RX2 57 RX2 yX2_countLiving wsX2_countLiving) := goodIn_app (goodIn_of _ (by decide +kernel)) ggX2_living_X2_countLiving
theorem dX2_living_0 : decode cX2_living 0 = .ok (.aload_n 0, 1) := by decide +kernel
theorem dX2_living_1 : decode cX2_living 1 = .ok (.invokevirtual 57, 3) := by decide +kernel
theorem dX2_living_4 : decode cX2_living 4 = .ok (.ireturn, 1) := by decide +kernel
set_option maxRecDepth 20000 in
theorem ggX2_isLiving_X2_requireIdentifier : GoodIn wsX2_isLiving wsX2_requireIdentifier := goodIn_ca (goodIn_r _ [4, 5, 6, 3, 7, 8, 9] (by decide +kernel) (by decide +kernel)) (goodIn_sub (fun _ h => List.mem_cons_of_mem _ (List.mem_append_right _ h)) (by decide +kernel))
set_option maxRecDepth 20000 in
theorem gX2_isLiving_X2_requireIdentifier : GoodIn wsX2_isLiving (va_wsS RX2 54 yX2_requireIdentifier wsX2_requireIdentifier) := goodIn_app (goodIn_of _ (by decide +kernel)) ggX2_isLiving_X2_requireIdentifier
set_option maxRecDepth 20000 in
theorem ggX2_isLiving_X2_isAlive : GoodIn wsX2_isLiving wsX2_isAlive := goodIn_r _ [13, 14, 15, 16, 17, 18, 19, 20, 21, 22, 23, 24, 25, 26] (by decide +kernel) (by decide +kernel)
set_option maxRecDepth 20000 in
theorem gX2_isLiving_X2_isAlive : GoodIn wsX2_isLiving (wsV RX2 72 RX2 yX2_isAlive wsX2_isAlive) := goodIn_app (goodIn_of _ (by decide +kernel)) ggX2_isLiving_X2_isAlive
theorem dX2_isLiving_0 : decode cX2_isLiving 0 = .ok (.iload_n 1, 1) := by decide +kernel
theorem dX2_isLiving_1 : decode cX2_isLiving 1 = .ok (.invokestatic 54, 3) := by decide +kernel
theorem dX2_isLiving_4 : decode cX2_isLiving 4 = .ok (.aload_n 0, 1) := by decide +kernel
theorem dX2_isLiving_5 : decode cX2_isLiving 5 = .ok (.iload_n 1, 1) := by decide +kernel
theorem dX2_isLiving_6 : decode cX2_isLiving 6 = .ok (.invokevirtual 72, 3) := by decide +kernel
theorem dX2_isLiving_9 : decode cX2_isLiving 9 = .ok (.ireturn, 1) := by decide +kernel
set_option maxRecDepth 20000 in
theorem ggX2_successor_X2_requireIdentifier : GoodIn wsX2_successor wsX2_requireIdentifier := goodIn_ca (goodIn_r _ [5, 6, 7, 4, 8, 9, 10] (by decide +kernel) (by decide +kernel)) (goodIn_sub (fun _ h => List.mem_cons_of_mem _ (List.mem_append_left _ (List.mem_append_right _ h))) (by decide +kernel))
set_option maxRecDepth 20000 in
theorem gX2_successor_X2_requireIdentifier : GoodIn wsX2_successor (va_wsS RX2 54 yX2_requireIdentifier wsX2_requireIdentifier) := goodIn_app (goodIn_of _ (by decide +kernel)) ggX2_successor_X2_requireIdentifier
set_option maxRecDepth 20000 in
theorem ggX2_successor_X2_requireRange : GoodIn wsX2_successor wsX2_requireRange := goodIn_ca (goodIn_r _ [8, 9, 10] (by decide +kernel) (by decide +kernel)) (goodIn_sub (fun _ h => List.mem_cons_of_mem _ (List.mem_append_left _ (List.mem_append_right _ h))) (by decide +kernel))
set_option maxRecDepth 20000 in
theorem gX2_successor_X2_requireRange : GoodIn wsX2_successor (va_wsS RX2 99 yX2_requireRange wsX2_requireRange) := goodIn_app (goodIn_of _ (by decide +kernel)) ggX2_successor_X2_requireRange
set_option maxRecDepth 20000 in
theorem ggX2_successor_X2_requireAlive : GoodIn wsX2_successor wsX2_requireAlive := goodIn_ca (goodIn_r _ [14, 15, 16, 17, 18, 19, 4, 20, 21, 29, 30, 31, 32, 33, 34, 35, 36, 37, 38, 39, 40] (by decide +kernel) (by decide +kernel)) (goodIn_sub (fun _ h => List.mem_cons_of_mem _ (List.mem_append_right _ h)) (by decide +kernel))
set_option maxRecDepth 20000 in
theorem gX2_successor_X2_requireAlive : GoodIn wsX2_successor (wsV RX2 78 RX2 yX2_requireAlive wsX2_requireAlive) := goodIn_app (goodIn_of _ (by decide +kernel)) ggX2_successor_X2_requireAlive
set_option maxRecDepth 20000 in
theorem ggX2_successor_X1_at : GoodIn wsX2_successor wsX1_at := goodIn_r _ [26, 27, 28, 41, 42] (by decide +kernel) (by decide +kernel)
set_option maxRecDepth 20000 in
theorem gX2_successor_X1_at : GoodIn wsX2_successor (wsV RX2 85 RX1 yX1_at wsX1_at) := goodIn_app (goodIn_of _ (by decide +kernel)) ggX2_successor_X1_at
theorem dX2_successor_0 : decode cX2_successor 0 = .ok (.iload_n 1, 1) := by decide +kernel
theorem dX2_successor_1 : decode cX2_successor 1 = .ok (.invokestatic 54, 3) := by decide +kernel
theorem dX2_successor_4 : decode cX2_successor 4 = .ok (.iload_n 2, 1) := by decide +kernel
theorem dX2_successor_5 : decode cX2_successor 5 = .ok (.iconst 0, 1) := by decide +kernel
theorem dX2_successor_6 : decode cX2_successor 6 = .ok (.iconst 2, 1) := by decide +kernel
theorem dX2_successor_7 : decode cX2_successor 7 = .ok (.invokestatic 99, 3) := by decide +kernel
theorem dX2_successor_10 : decode cX2_successor 10 = .ok (.aload_n 0, 1) := by decide +kernel
theorem dX2_successor_11 : decode cX2_successor 11 = .ok (.iload_n 1, 1) := by decide +kernel
theorem dX2_successor_12 : decode cX2_successor 12 = .ok (.invokevirtual 78, 3) := by decide +kernel
theorem dX2_successor_15 : decode cX2_successor 15 = .ok (.aload_n 0, 1) := by decide +kernel
theorem dX2_successor_16 : decode cX2_successor 16 = .ok (.getfield 18, 3) := by decide +kernel
theorem dX2_successor_19 : decode cX2_successor 19 = .ok (.iload_n 1, 1) := by decide +kernel
theorem dX2_successor_20 : decode cX2_successor 20 = .ok (.iload_n 2, 1) := by decide +kernel
theorem dX2_successor_21 : decode cX2_successor 21 = .ok (.invokevirtual 85, 3) := by decide +kernel
theorem dX2_successor_24 : decode cX2_successor 24 = .ok (.ireturn, 1) := by decide +kernel
set_option maxRecDepth 20000 in
theorem ggX2_liveSuccessor_X2_requireIdentifier : GoodIn wsX2_liveSuccessor wsX2_requireIdentifier := goodIn_ca (goodIn_r _ [4, 5, 6, 3, 7, 8, 9] (by decide +kernel) (by decide +kernel)) (goodIn_sub (fun _ h => List.mem_cons_of_mem _ (List.mem_append_left _ (List.mem_append_right _ h))) (by decide +kernel))
set_option maxRecDepth 20000 in
theorem gX2_liveSuccessor_X2_requireIdentifier : GoodIn wsX2_liveSuccessor (va_wsS RX2 54 yX2_requireIdentifier wsX2_requireIdentifier) := goodIn_app (goodIn_of _ (by decide +kernel)) ggX2_liveSuccessor_X2_requireIdentifier
set_option maxRecDepth 20000 in
theorem ggX2_liveSuccessor_X2_requireAlive : GoodIn wsX2_liveSuccessor wsX2_requireAlive := goodIn_ca (goodIn_r _ [13, 14, 15, 16, 17, 18, 3, 19, 20, 33, 34, 35, 36, 37, 38, 39, 40, 41, 42, 43, 44] (by decide +kernel) (by decide +kernel)) (goodIn_sub (fun _ h => List.mem_cons_of_mem _ (List.mem_append_right _ h)) (by decide +kernel))
set_option maxRecDepth 20000 in
theorem gX2_liveSuccessor_X2_requireAlive : GoodIn wsX2_liveSuccessor (wsV RX2 78 RX2 yX2_requireAlive wsX2_requireAlive) := goodIn_app (goodIn_of _ (by decide +kernel)) ggX2_liveSuccessor_X2_requireAlive
set_option maxRecDepth 20000 in
theorem ggX2_liveSuccessor_X2_firstLivingSuccessor : GoodIn wsX2_liveSuccessor wsX2_firstLivingSuccessor := goodIn_r _ [24, 25, 26, 27, 28, 29, 30, 31, 32, 16, 17, 18, 3, 19, 20, 33, 34, 35, 36, 37, 38, 39, 40, 41, 42, 43, 44, 45, 46] (by decide +kernel) (by decide +kernel)
set_option maxRecDepth 20000 in
theorem gX2_liveSuccessor_X2_firstLivingSuccessor : GoodIn wsX2_liveSuccessor (wsV RX2 91 RX2 yX2_firstLivingSuccessor wsX2_firstLivingSuccessor) := goodIn_app (goodIn_of _ (by decide +kernel)) ggX2_liveSuccessor_X2_firstLivingSuccessor
theorem dX2_liveSuccessor_0 : decode cX2_liveSuccessor 0 = .ok (.iload_n 1, 1) := by decide +kernel
theorem dX2_liveSuccessor_1 : decode cX2_liveSuccessor 1 = .ok (.invokestatic 54, 3) := by decide +kernel
theorem dX2_liveSuccessor_4 : decode cX2_liveSuccessor 4 = .ok (.aload_n 0, 1) := by decide +kernel
theorem dX2_liveSuccessor_5 : decode cX2_liveSuccessor 5 = .ok (.iload_n 1, 1) := by decide +kernel
theorem dX2_liveSuccessor_6 : decode cX2_liveSuccessor 6 = .ok (.invokevirtual 78, 3) := by decide +kernel
theorem dX2_liveSuccessor_9 : decode cX2_liveSuccessor 9 = .ok (.aload_n 0, 1) := by decide +kernel
theorem dX2_liveSuccessor_10 : decode cX2_liveSuccessor 10 = .ok (.iload_n 1, 1) := by decide +kernel
theorem dX2_liveSuccessor_11 : decode cX2_liveSuccessor 11 = .ok (.invokevirtual 91, 3) := by decide +kernel
theorem dX2_liveSuccessor_14 : decode cX2_liveSuccessor 14 = .ok (.ireturn, 1) := by decide +kernel
set_option maxRecDepth 20000 in
theorem ggX2_predecessor_X2_requireIdentifier : GoodIn wsX2_predecessor wsX2_requireIdentifier := goodIn_ca (goodIn_r _ [5, 6, 7, 4, 8, 9, 10] (by decide +kernel) (by decide +kernel)) (goodIn_sub (fun _ h => List.mem_cons_of_mem _ (List.mem_append_left _ (List.mem_append_right _ h))) (by decide +kernel))
set_option maxRecDepth 20000 in
theorem gX2_predecessor_X2_requireIdentifier : GoodIn wsX2_predecessor (va_wsS RX2 54 yX2_requireIdentifier wsX2_requireIdentifier) := goodIn_app (goodIn_of _ (by decide +kernel)) ggX2_predecessor_X2_requireIdentifier
set_option maxRecDepth 20000 in
theorem ggX2_predecessor_X2_requireAlive : GoodIn wsX2_predecessor wsX2_requireAlive := goodIn_ca (goodIn_r _ [14, 15, 16, 17, 18, 19, 4, 20, 21, 29, 30, 31, 32, 33, 34, 35, 36, 37, 38, 39, 40] (by decide +kernel) (by decide +kernel)) (goodIn_sub (fun _ h => List.mem_cons_of_mem _ (List.mem_append_right _ h)) (by decide +kernel))
set_option maxRecDepth 20000 in
theorem gX2_predecessor_X2_requireAlive : GoodIn wsX2_predecessor (wsV RX2 78 RX2 yX2_requireAlive wsX2_requireAlive) := goodIn_app (goodIn_of _ (by decide +kernel)) ggX2_predecessor_X2_requireAlive
set_option maxRecDepth 20000 in
theorem ggX2_predecessor_X1_at : GoodIn wsX2_predecessor wsX1_at := goodIn_r _ [26, 27, 28, 41, 42] (by decide +kernel) (by decide +kernel)
set_option maxRecDepth 20000 in
theorem gX2_predecessor_X1_at : GoodIn wsX2_predecessor (wsV RX2 85 RX1 yX1_at wsX1_at) := goodIn_app (goodIn_of _ (by decide +kernel)) ggX2_predecessor_X1_at
theorem dX2_predecessor_0 : decode cX2_predecessor 0 = .ok (.iload_n 1, 1) := by decide +kernel
theorem dX2_predecessor_1 : decode cX2_predecessor 1 = .ok (.invokestatic 54, 3) := by decide +kernel
theorem dX2_predecessor_4 : decode cX2_predecessor 4 = .ok (.aload_n 0, 1) := by decide +kernel
theorem dX2_predecessor_5 : decode cX2_predecessor 5 = .ok (.iload_n 1, 1) := by decide +kernel
theorem dX2_predecessor_6 : decode cX2_predecessor 6 = .ok (.invokevirtual 78, 3) := by decide +kernel
theorem dX2_predecessor_9 : decode cX2_predecessor 9 = .ok (.aload_n 0, 1) := by decide +kernel
theorem dX2_predecessor_10 : decode cX2_predecessor 10 = .ok (.getfield 22, 3) := by decide +kernel
theorem dX2_predecessor_13 : decode cX2_predecessor 13 = .ok (.iload_n 1, 1) := by decide +kernel
theorem dX2_predecessor_14 : decode cX2_predecessor 14 = .ok (.iconst 0, 1) := by decide +kernel
theorem dX2_predecessor_15 : decode cX2_predecessor 15 = .ok (.invokevirtual 85, 3) := by decide +kernel
theorem dX2_predecessor_18 : decode cX2_predecessor 18 = .ok (.ireturn, 1) := by decide +kernel
set_option maxRecDepth 20000 in
theorem ggX2_finger_X2_requireIdentifier : GoodIn wsX2_finger wsX2_requireIdentifier := goodIn_ca (goodIn_r _ [5, 6, 7, 4, 8, 9, 10] (by decide +kernel) (by decide +kernel)) (goodIn_sub (fun _ h => List.mem_cons_of_mem _ (List.mem_append_left _ (List.mem_append_right _ h))) (by decide +kernel))
set_option maxRecDepth 20000 in
theorem gX2_finger_X2_requireIdentifier : GoodIn wsX2_finger (va_wsS RX2 54 yX2_requireIdentifier wsX2_requireIdentifier) := goodIn_app (goodIn_of _ (by decide +kernel)) ggX2_finger_X2_requireIdentifier
set_option maxRecDepth 20000 in
theorem ggX2_finger_X2_requireRange : GoodIn wsX2_finger wsX2_requireRange := goodIn_ca (goodIn_r _ [8, 9, 10] (by decide +kernel) (by decide +kernel)) (goodIn_sub (fun _ h => List.mem_cons_of_mem _ (List.mem_append_left _ (List.mem_append_right _ h))) (by decide +kernel))
set_option maxRecDepth 20000 in
theorem gX2_finger_X2_requireRange : GoodIn wsX2_finger (va_wsS RX2 99 yX2_requireRange wsX2_requireRange) := goodIn_app (goodIn_of _ (by decide +kernel)) ggX2_finger_X2_requireRange
set_option maxRecDepth 20000 in
theorem ggX2_finger_X2_requireAlive : GoodIn wsX2_finger wsX2_requireAlive := goodIn_ca (goodIn_r _ [14, 15, 16, 17, 18, 19, 4, 20, 21, 29, 30, 31, 32, 33, 34, 35, 36, 37, 38, 39, 40] (by decide +kernel) (by decide +kernel)) (goodIn_sub (fun _ h => List.mem_cons_of_mem _ (List.mem_append_right _ h)) (by decide +kernel))
set_option maxRecDepth 20000 in
theorem gX2_finger_X2_requireAlive : GoodIn wsX2_finger (wsV RX2 78 RX2 yX2_requireAlive wsX2_requireAlive) := goodIn_app (goodIn_of _ (by decide +kernel)) ggX2_finger_X2_requireAlive
set_option maxRecDepth 20000 in
theorem ggX2_finger_X1_at : GoodIn wsX2_finger wsX1_at := goodIn_r _ [26, 27, 28, 41, 42] (by decide +kernel) (by decide +kernel)
set_option maxRecDepth 20000 in
theorem gX2_finger_X1_at : GoodIn wsX2_finger (wsV RX2 85 RX1 yX1_at wsX1_at) := goodIn_app (goodIn_of _ (by decide +kernel)) ggX2_finger_X1_at
theorem dX2_finger_0 : decode cX2_finger 0 = .ok (.iload_n 1, 1) := by decide +kernel
theorem dX2_finger_1 : decode cX2_finger 1 = .ok (.invokestatic 54, 3) := by decide +kernel
theorem dX2_finger_4 : decode cX2_finger 4 = .ok (.iload_n 2, 1) := by decide +kernel
theorem dX2_finger_5 : decode cX2_finger 5 = .ok (.iconst 0, 1) := by decide +kernel
theorem dX2_finger_6 : decode cX2_finger 6 = .ok (.iconst 5, 1) := by decide +kernel
theorem dX2_finger_7 : decode cX2_finger 7 = .ok (.invokestatic 99, 3) := by decide +kernel
theorem dX2_finger_10 : decode cX2_finger 10 = .ok (.aload_n 0, 1) := by decide +kernel
theorem dX2_finger_11 : decode cX2_finger 11 = .ok (.iload_n 1, 1) := by decide +kernel
theorem dX2_finger_12 : decode cX2_finger 12 = .ok (.invokevirtual 78, 3) := by decide +kernel
theorem dX2_finger_15 : decode cX2_finger 15 = .ok (.aload_n 0, 1) := by decide +kernel
theorem dX2_finger_16 : decode cX2_finger 16 = .ok (.getfield 25, 3) := by decide +kernel
theorem dX2_finger_19 : decode cX2_finger 19 = .ok (.iload_n 1, 1) := by decide +kernel
theorem dX2_finger_20 : decode cX2_finger 20 = .ok (.iload_n 2, 1) := by decide +kernel
theorem dX2_finger_21 : decode cX2_finger 21 = .ok (.invokevirtual 85, 3) := by decide +kernel
theorem dX2_finger_24 : decode cX2_finger 24 = .ok (.ireturn, 1) := by decide +kernel
set_option maxRecDepth 20000 in
theorem ggX2_check_X2_requireIdentifier : GoodIn wsX2_check wsX2_requireIdentifier := goodIn_ca (goodIn_r _ [5, 6, 7, 4, 8, 9, 10] (by decide +kernel) (by decide +kernel)) (goodIn_sub (fun _ h => List.mem_cons_of_mem _ (List.mem_append_left _ (List.mem_append_right _ h))) (by decide +kernel))
set_option maxRecDepth 20000 in
theorem gX2_check_X2_requireIdentifier : GoodIn wsX2_check (va_wsS RX2 54 yX2_requireIdentifier wsX2_requireIdentifier) := goodIn_app (goodIn_of _ (by decide +kernel)) ggX2_check_X2_requireIdentifier
set_option maxRecDepth 20000 in
theorem ggX2_check_X2_requireAlive : GoodIn wsX2_check wsX2_requireAlive := goodIn_ca (goodIn_r _ [14, 15, 16, 17, 18, 19, 4, 20, 21, 37, 38, 39, 40, 41, 42, 43, 44, 45, 46, 47, 48] (by decide +kernel) (by decide +kernel)) (goodIn_sub (fun _ h => List.mem_cons_of_mem _ (List.mem_append_right _ h)) (by decide +kernel))
set_option maxRecDepth 20000 in
theorem gX2_check_X2_requireAlive : GoodIn wsX2_check (wsV RX2 78 RX2 yX2_requireAlive wsX2_requireAlive) := goodIn_app (goodIn_of _ (by decide +kernel)) ggX2_check_X2_requireAlive
set_option maxRecDepth 20000 in
theorem ggX2_check_X2_dropDeadPredecessor : GoodIn wsX2_check wsX2_dropDeadPredecessor := goodIn_r _ [25, 1, 26, 27, 28, 29, 30, 31, 32, 17, 18, 19, 4, 20, 21, 33, 34, 35, 36, 37, 38, 39, 40, 41, 42, 43, 44, 45, 46, 47, 48, 49, 50] (by decide +kernel) (by decide +kernel)
set_option maxRecDepth 20000 in
theorem gX2_check_X2_dropDeadPredecessor : GoodIn wsX2_check (wsV RX2 103 RX2 yX2_dropDeadPredecessor wsX2_dropDeadPredecessor) := goodIn_app (goodIn_of _ (by decide +kernel)) ggX2_check_X2_dropDeadPredecessor
set_option maxRecDepth 20000 in
theorem ggX2_check_X1_at : GoodIn wsX2_check wsX1_at := goodIn_r _ [30, 31, 32, 49, 50] (by decide +kernel) (by decide +kernel)
set_option maxRecDepth 20000 in
theorem gX2_check_X1_at : GoodIn wsX2_check (wsV RX2 85 RX1 yX1_at wsX1_at) := goodIn_app (goodIn_of _ (by decide +kernel)) ggX2_check_X1_at
theorem dX2_check_0 : decode cX2_check 0 = .ok (.iload_n 1, 1) := by decide +kernel
theorem dX2_check_1 : decode cX2_check 1 = .ok (.invokestatic 54, 3) := by decide +kernel
theorem dX2_check_4 : decode cX2_check 4 = .ok (.aload_n 0, 1) := by decide +kernel
theorem dX2_check_5 : decode cX2_check 5 = .ok (.iload_n 1, 1) := by decide +kernel
theorem dX2_check_6 : decode cX2_check 6 = .ok (.invokevirtual 78, 3) := by decide +kernel
theorem dX2_check_9 : decode cX2_check 9 = .ok (.aload_n 0, 1) := by decide +kernel
theorem dX2_check_10 : decode cX2_check 10 = .ok (.iload_n 1, 1) := by decide +kernel
theorem dX2_check_11 : decode cX2_check 11 = .ok (.invokevirtual 103, 3) := by decide +kernel
theorem dX2_check_14 : decode cX2_check 14 = .ok (.aload_n 0, 1) := by decide +kernel
theorem dX2_check_15 : decode cX2_check 15 = .ok (.getfield 22, 3) := by decide +kernel
theorem dX2_check_18 : decode cX2_check 18 = .ok (.iload_n 1, 1) := by decide +kernel
theorem dX2_check_19 : decode cX2_check 19 = .ok (.iconst 0, 1) := by decide +kernel
theorem dX2_check_20 : decode cX2_check 20 = .ok (.invokevirtual 85, 3) := by decide +kernel
theorem dX2_check_23 : decode cX2_check 23 = .ok (.iconst (-1), 1) := by decide +kernel
theorem dX2_check_24 : decode cX2_check 24 = .ok (.if_icmp .eq 7, 3) := by decide +kernel
theorem dX2_check_27 : decode cX2_check 27 = .ok (.iconst 1, 1) := by decide +kernel
theorem dX2_check_28 : decode cX2_check 28 = .ok (.goto 4, 3) := by decide +kernel
theorem dX2_check_31 : decode cX2_check 31 = .ok (.iconst 0, 1) := by decide +kernel
theorem dX2_check_32 : decode cX2_check 32 = .ok (.ireturn, 1) := by decide +kernel
set_option maxRecDepth 20000 in
theorem ggX2_stabilize_X2_requireIdentifier : GoodIn wsX2_stabilize wsX2_requireIdentifier := goodIn_ca (goodIn_r _ [5, 6, 7, 4, 8, 9, 10] (by decide +kernel) (by decide +kernel)) (goodIn_sub (fun _ h => List.mem_cons_of_mem _ (List.mem_append_left _ (List.mem_append_right _ h))) (by decide +kernel))
set_option maxRecDepth 20000 in
theorem gX2_stabilize_X2_requireIdentifier : GoodIn wsX2_stabilize (va_wsS RX2 54 yX2_requireIdentifier wsX2_requireIdentifier) := goodIn_app (goodIn_of _ (by decide +kernel)) ggX2_stabilize_X2_requireIdentifier
set_option maxRecDepth 20000 in
theorem ggX2_stabilize_X2_requireAlive : GoodIn wsX2_stabilize wsX2_requireAlive := goodIn_ca (goodIn_r _ [14, 15, 16, 17, 18, 19, 4, 20, 21, 58, 59, 60, 61, 62, 63, 64, 65, 66, 67, 68, 69] (by decide +kernel) (by decide +kernel)) (goodIn_sub (fun _ h => List.mem_cons_of_mem _ (List.mem_append_right _ h)) (by decide +kernel))
set_option maxRecDepth 20000 in
theorem gX2_stabilize_X2_requireAlive : GoodIn wsX2_stabilize (wsV RX2 78 RX2 yX2_requireAlive wsX2_requireAlive) := goodIn_app (goodIn_of _ (by decide +kernel)) ggX2_stabilize_X2_requireAlive
set_option maxRecDepth 20000 in
theorem ggX2_stabilize_X2_mendSuccessors : GoodIn wsX2_stabilize wsX2_mendSuccessors := goodIn_r _ [25, 26, 27, 28, 29, 4, 30, 1, 31, 32, 33, 34, 35, 36, 37, 17, 18, 19, 20, 21, 38, 39, 40, 41, 42, 43, 44, 45, 46, 47, 48, 49, 50, 51, 52, 53, 54, 55, 56, 57, 58, 59, 60, 61, 62, 63, 64, 65, 66, 67, 68, 69, 70, 71] (by decide +kernel) (by decide +kernel)
set_option maxRecDepth 20000 in
theorem gX2_stabilize_X2_mendSuccessors : GoodIn wsX2_stabilize (wsV RX2 106 RX2 yX2_mendSuccessors wsX2_mendSuccessors) := goodIn_app (goodIn_of _ (by decide +kernel)) ggX2_stabilize_X2_mendSuccessors
set_option maxRecDepth 20000 in
theorem ggX2_stabilize_X1_at : GoodIn wsX2_stabilize wsX1_at := goodIn_r _ [35, 36, 37, 70, 71] (by decide +kernel) (by decide +kernel)
set_option maxRecDepth 20000 in
theorem gX2_stabilize_X1_at : GoodIn wsX2_stabilize (wsV RX2 85 RX1 yX1_at wsX1_at) := goodIn_app (goodIn_of _ (by decide +kernel)) ggX2_stabilize_X1_at
theorem dX2_stabilize_0 : decode cX2_stabilize 0 = .ok (.iload_n 1, 1) := by decide +kernel
theorem dX2_stabilize_1 : decode cX2_stabilize 1 = .ok (.invokestatic 54, 3) := by decide +kernel
theorem dX2_stabilize_4 : decode cX2_stabilize 4 = .ok (.aload_n 0, 1) := by decide +kernel
theorem dX2_stabilize_5 : decode cX2_stabilize 5 = .ok (.iload_n 1, 1) := by decide +kernel
theorem dX2_stabilize_6 : decode cX2_stabilize 6 = .ok (.invokevirtual 78, 3) := by decide +kernel
theorem dX2_stabilize_9 : decode cX2_stabilize 9 = .ok (.aload_n 0, 1) := by decide +kernel
theorem dX2_stabilize_10 : decode cX2_stabilize 10 = .ok (.iload_n 1, 1) := by decide +kernel
theorem dX2_stabilize_11 : decode cX2_stabilize 11 = .ok (.invokevirtual 106, 3) := by decide +kernel
theorem dX2_stabilize_14 : decode cX2_stabilize 14 = .ok (.aload_n 0, 1) := by decide +kernel
theorem dX2_stabilize_15 : decode cX2_stabilize 15 = .ok (.getfield 18, 3) := by decide +kernel
theorem dX2_stabilize_18 : decode cX2_stabilize 18 = .ok (.iload_n 1, 1) := by decide +kernel
theorem dX2_stabilize_19 : decode cX2_stabilize 19 = .ok (.iconst 0, 1) := by decide +kernel
theorem dX2_stabilize_20 : decode cX2_stabilize 20 = .ok (.invokevirtual 85, 3) := by decide +kernel
theorem dX2_stabilize_23 : decode cX2_stabilize 23 = .ok (.ireturn, 1) := by decide +kernel
set_option maxRecDepth 20000 in
theorem ggX2_fix_X2_requireIdentifier : GoodIn wsX2_fix wsX2_requireIdentifier := goodIn_ca (goodIn_r _ [4, 5, 6, 3, 7, 8, 9] (by decide +kernel) (by decide +kernel)) (goodIn_sub (fun _ h => List.mem_cons_of_mem _ (List.mem_append_left _ (List.mem_append_right _ h))) (by decide +kernel))
set_option maxRecDepth 20000 in
theorem gX2_fix_X2_requireIdentifier : GoodIn wsX2_fix (va_wsS RX2 54 yX2_requireIdentifier wsX2_requireIdentifier) := goodIn_app (goodIn_of _ (by decide +kernel)) ggX2_fix_X2_requireIdentifier
set_option maxRecDepth 20000 in
theorem ggX2_fix_X2_requireAlive : GoodIn wsX2_fix wsX2_requireAlive := goodIn_ca (goodIn_r _ [13, 14, 15, 16, 17, 18, 3, 19, 20, 65, 66, 67, 68, 69, 70, 71, 72, 73, 74, 75, 76] (by decide +kernel) (by decide +kernel)) (goodIn_sub (fun _ h => List.mem_cons_of_mem _ (List.mem_append_right _ h)) (by decide +kernel))
set_option maxRecDepth 20000 in
theorem gX2_fix_X2_requireAlive : GoodIn wsX2_fix (wsV RX2 78 RX2 yX2_requireAlive wsX2_requireAlive) := goodIn_app (goodIn_of _ (by decide +kernel)) ggX2_fix_X2_requireAlive
set_option maxRecDepth 20000 in
theorem ggX2_fix_X2_renewFingers : GoodIn wsX2_fix wsX2_renewFingers := goodIn_r _ [24, 25, 26, 27, 28, 29, 30, 31, 32, 33, 34, 35, 3, 36, 37, 38, 39, 40, 41, 42, 43, 44, 45, 46, 47, 48, 49, 50, 16, 17, 18, 19, 20, 51, 52, 53, 54, 55, 56, 57, 58, 59, 60, 61, 62, 63, 64, 65, 66, 67, 68, 69, 70, 71, 72, 73, 74, 75, 76, 77, 78] (by decide +kernel) (by decide +kernel)
set_option maxRecDepth 20000 in
theorem gX2_fix_X2_renewFingers : GoodIn wsX2_fix (wsV RX2 109 RX2 yX2_renewFingers wsX2_renewFingers) := goodIn_app (goodIn_of _ (by decide +kernel)) ggX2_fix_X2_renewFingers
theorem dX2_fix_0 : decode cX2_fix 0 = .ok (.iload_n 1, 1) := by decide +kernel
theorem dX2_fix_1 : decode cX2_fix 1 = .ok (.invokestatic 54, 3) := by decide +kernel
theorem dX2_fix_4 : decode cX2_fix 4 = .ok (.aload_n 0, 1) := by decide +kernel
theorem dX2_fix_5 : decode cX2_fix 5 = .ok (.iload_n 1, 1) := by decide +kernel
theorem dX2_fix_6 : decode cX2_fix 6 = .ok (.invokevirtual 78, 3) := by decide +kernel
theorem dX2_fix_9 : decode cX2_fix 9 = .ok (.aload_n 0, 1) := by decide +kernel
theorem dX2_fix_10 : decode cX2_fix 10 = .ok (.iload_n 1, 1) := by decide +kernel
theorem dX2_fix_11 : decode cX2_fix 11 = .ok (.invokevirtual 109, 3) := by decide +kernel
theorem dX2_fix_14 : decode cX2_fix 14 = .ok (.ireturn, 1) := by decide +kernel
set_option maxRecDepth 20000 in
theorem ggX2_replicate_X2_requireIdentifier : GoodIn wsX2_replicate wsX2_requireIdentifier := goodIn_ca (goodIn_r _ [4, 5, 6, 3, 7, 8, 9] (by decide +kernel) (by decide +kernel)) (goodIn_sub (fun _ h => List.mem_cons_of_mem _ (List.mem_append_left _ (List.mem_append_right _ h))) (by decide +kernel))
set_option maxRecDepth 20000 in
theorem gX2_replicate_X2_requireIdentifier : GoodIn wsX2_replicate (va_wsS RX2 54 yX2_requireIdentifier wsX2_requireIdentifier) := goodIn_app (goodIn_of _ (by decide +kernel)) ggX2_replicate_X2_requireIdentifier
set_option maxRecDepth 20000 in
theorem ggX2_replicate_X2_requireAlive : GoodIn wsX2_replicate wsX2_requireAlive := goodIn_ca (goodIn_r _ [13, 14, 15, 16, 17, 18, 3, 19, 20, 78, 79, 80, 81, 82, 83, 84, 85, 86, 87, 88, 89] (by decide +kernel) (by decide +kernel)) (goodIn_sub (fun _ h => List.mem_cons_of_mem _ (List.mem_append_right _ h)) (by decide +kernel))
set_option maxRecDepth 20000 in
theorem gX2_replicate_X2_requireAlive : GoodIn wsX2_replicate (wsV RX2 78 RX2 yX2_requireAlive wsX2_requireAlive) := goodIn_app (goodIn_of _ (by decide +kernel)) ggX2_replicate_X2_requireAlive
set_option maxRecDepth 20000 in
theorem ggX2_replicate_X2_spreadValues : GoodIn wsX2_replicate wsX2_spreadValues := goodIn_r _ [24, 25, 26, 27, 28, 29, 30, 31, 32, 33, 34, 35, 3, 36, 37, 38, 39, 40, 41, 42, 43, 44, 45, 46, 47, 48, 49, 50, 51, 52, 16, 17, 18, 19, 20, 53, 54, 55, 56, 57, 58, 59, 60, 61, 62, 63, 64, 65, 66, 67, 68, 69, 70, 71, 72, 73, 74, 75, 76, 77, 78, 79, 80, 81, 82, 83, 84, 85, 86, 87, 88, 89, 90, 91] (by decide +kernel) (by decide +kernel)
set_option maxRecDepth 20000 in
theorem gX2_replicate_X2_spreadValues : GoodIn wsX2_replicate (wsV RX2 112 RX2 yX2_spreadValues wsX2_spreadValues) := goodIn_app (goodIn_of _ (by decide +kernel)) ggX2_replicate_X2_spreadValues
theorem dX2_replicate_0 : decode cX2_replicate 0 = .ok (.iload_n 1, 1) := by decide +kernel
theorem dX2_replicate_1 : decode cX2_replicate 1 = .ok (.invokestatic 54, 3) := by decide +kernel
theorem dX2_replicate_4 : decode cX2_replicate 4 = .ok (.aload_n 0, 1) := by decide +kernel
theorem dX2_replicate_5 : decode cX2_replicate 5 = .ok (.iload_n 1, 1) := by decide +kernel
theorem dX2_replicate_6 : decode cX2_replicate 6 = .ok (.invokevirtual 78, 3) := by decide +kernel
theorem dX2_replicate_9 : decode cX2_replicate 9 = .ok (.aload_n 0, 1) := by decide +kernel
theorem dX2_replicate_10 : decode cX2_replicate 10 = .ok (.iload_n 1, 1) := by decide +kernel
theorem dX2_replicate_11 : decode cX2_replicate 11 = .ok (.invokevirtual 112, 3) := by decide +kernel
theorem dX2_replicate_14 : decode cX2_replicate 14 = .ok (.ireturn, 1) := by decide +kernel
set_option maxRecDepth 20000 in
theorem ggX2_goRounds_X2_requireRange : GoodIn wsX2_goRounds wsX2_requireRange := goodIn_ca (goodIn_r _ [4, 5, 6] (by decide +kernel) (by decide +kernel)) (goodIn_sub (fun _ h => List.mem_cons_of_mem _ (List.mem_append_right _ h)) (by decide +kernel))
set_option maxRecDepth 20000 in
theorem gX2_goRounds_X2_requireRange : GoodIn wsX2_goRounds (va_wsS RX2 99 yX2_requireRange wsX2_requireRange) := goodIn_app (goodIn_of _ (by decide +kernel)) ggX2_goRounds_X2_requireRange
set_option maxRecDepth 20000 in
theorem ggX2_goRounds_X2_letRoundGoBy : GoodIn wsX2_goRounds wsX2_letRoundGoBy := goodIn_r _ [10, 11, 12, 13, 3, 14, 15, 16, 17, 18, 19, 20, 21, 22, 23, 24, 25, 26, 27, 28, 29, 30, 31, 32, 33, 34, 35, 36, 37, 38, 39, 40, 41, 42, 43, 44, 45, 46, 47, 48, 49, 50, 51, 52, 53, 54, 55, 56, 57, 58, 59, 60, 61, 62, 63, 64, 65, 66, 67, 68, 69, 70, 71, 72, 73, 74, 75, 76, 77, 78, 79, 80, 81, 82, 83, 84, 85, 86, 87, 88, 89, 90, 91, 92, 93, 94, 95, 96, 97, 98, 99, 100, 101, 102, 120, 121, 122, 123, 124, 125, 126, 127, 128, 129, 130, 131, 132, 133] (by decide +kernel) (by decide +kernel)
set_option maxRecDepth 20000 in
theorem gX2_goRounds_X2_letRoundGoBy : GoodIn wsX2_goRounds (wsV RX2 115 RX2 yX2_letRoundGoBy wsX2_letRoundGoBy) := goodIn_app (goodIn_of _ (by decide +kernel)) ggX2_goRounds_X2_letRoundGoBy
set_option maxRecDepth 20000 in
theorem ggX2_goRounds_X2_countWrongPointers : GoodIn wsX2_goRounds wsX2_countWrongPointers := goodIn_r _ [106, 11, 12, 13, 3, 14, 15, 107, 108, 109, 110, 20, 61, 36, 37, 38, 39, 40, 21, 22, 23, 24, 25, 26, 27, 111, 66, 43, 67, 112, 113, 114, 115, 116, 117, 118, 119, 62, 63, 64, 65, 120, 121, 122, 123, 124, 125, 126, 127, 128, 129, 130, 131, 132, 133] (by decide +kernel) (by decide +kernel)
set_option maxRecDepth 20000 in
theorem gX2_goRounds_X2_countWrongPointers : GoodIn wsX2_goRounds (wsV RX2 119 RX2 yX2_countWrongPointers wsX2_countWrongPointers) := goodIn_app (goodIn_of _ (by decide +kernel)) ggX2_goRounds_X2_countWrongPointers
theorem dX2_goRounds_0 : decode cX2_goRounds 0 = .ok (.iload_n 1, 1) := by decide +kernel
theorem dX2_goRounds_1 : decode cX2_goRounds 1 = .ok (.iconst 1, 1) := by decide +kernel
theorem dX2_goRounds_2 : decode cX2_goRounds 2 = .ok (.bipush 20, 2) := by decide +kernel
theorem dX2_goRounds_4 : decode cX2_goRounds 4 = .ok (.invokestatic 99, 3) := by decide +kernel
theorem dX2_goRounds_7 : decode cX2_goRounds 7 = .ok (.iconst 0, 1) := by decide +kernel
theorem dX2_goRounds_8 : decode cX2_goRounds 8 = .ok (.istore_n 2, 1) := by decide +kernel
theorem dX2_goRounds_9 : decode cX2_goRounds 9 = .ok (.iload_n 2, 1) := by decide +kernel
theorem dX2_goRounds_10 : decode cX2_goRounds 10 = .ok (.iload_n 1, 1) := by decide +kernel
theorem dX2_goRounds_11 : decode cX2_goRounds 11 = .ok (.if_icmp .ge 14, 3) := by decide +kernel
theorem dX2_goRounds_14 : decode cX2_goRounds 14 = .ok (.aload_n 0, 1) := by decide +kernel
theorem dX2_goRounds_15 : decode cX2_goRounds 15 = .ok (.iconst 1, 1) := by decide +kernel
theorem dX2_goRounds_16 : decode cX2_goRounds 16 = .ok (.invokevirtual 115, 3) := by decide +kernel
theorem dX2_goRounds_19 : decode cX2_goRounds 19 = .ok (.iinc 2 1, 3) := by decide +kernel
theorem dX2_goRounds_22 : decode cX2_goRounds 22 = .ok (.goto (-13), 3) := by decide +kernel
theorem dX2_goRounds_25 : decode cX2_goRounds 25 = .ok (.aload_n 0, 1) := by decide +kernel
theorem dX2_goRounds_26 : decode cX2_goRounds 26 = .ok (.invokevirtual 119, 3) := by decide +kernel
theorem dX2_goRounds_29 : decode cX2_goRounds 29 = .ok (.ireturn, 1) := by decide +kernel
set_option maxRecDepth 20000 in
theorem ggX2_lookup_X2_requireIdentifier : GoodIn wsX2_lookup wsX2_requireIdentifier := goodIn_ca (goodIn_r _ [4, 5, 6, 3, 7, 8, 9] (by decide +kernel) (by decide +kernel)) (goodIn_sub (fun _ h => List.mem_cons_of_mem _ (List.mem_append_left _ (List.mem_append_right _ h))) (by decide +kernel))
set_option maxRecDepth 20000 in
theorem gX2_lookup_X2_requireIdentifier : GoodIn wsX2_lookup (va_wsS RX2 54 yX2_requireIdentifier wsX2_requireIdentifier) := goodIn_app (goodIn_of _ (by decide +kernel)) ggX2_lookup_X2_requireIdentifier
set_option maxRecDepth 20000 in
theorem ggX2_lookup_X2_requireAlive : GoodIn wsX2_lookup wsX2_requireAlive := goodIn_ca (goodIn_r _ [13, 14, 15, 16, 17, 18, 3, 19, 20, 51, 52, 53, 54, 55, 56, 57, 58, 59, 60, 61, 62] (by decide +kernel) (by decide +kernel)) (goodIn_sub (fun _ h => List.mem_cons_of_mem _ (List.mem_append_right _ h)) (by decide +kernel))
set_option maxRecDepth 20000 in
theorem gX2_lookup_X2_requireAlive : GoodIn wsX2_lookup (wsV RX2 78 RX2 yX2_requireAlive wsX2_requireAlive) := goodIn_app (goodIn_of _ (by decide +kernel)) ggX2_lookup_X2_requireAlive
set_option maxRecDepth 20000 in
theorem ggX2_lookup_X2_find : GoodIn wsX2_lookup wsX2_find := goodIn_r _ [24, 25, 26, 27, 28, 29, 3, 30, 31, 32, 33, 34, 35, 36, 37, 38, 16, 17, 18, 19, 20, 39, 40, 41, 42, 43, 44, 45, 46, 47, 48, 49, 50, 51, 52, 53, 54, 55, 56, 57, 58, 59, 60, 61, 62, 63, 64] (by decide +kernel) (by decide +kernel)
set_option maxRecDepth 20000 in
theorem gX2_lookup_X2_find : GoodIn wsX2_lookup (wsV RX2 81 RX2 yX2_find wsX2_find) := goodIn_app (goodIn_of _ (by decide +kernel)) ggX2_lookup_X2_find
theorem dX2_lookup_0 : decode cX2_lookup 0 = .ok (.iload_n 1, 1) := by decide +kernel
theorem dX2_lookup_1 : decode cX2_lookup 1 = .ok (.invokestatic 54, 3) := by decide +kernel
theorem dX2_lookup_4 : decode cX2_lookup 4 = .ok (.iload_n 2, 1) := by decide +kernel
theorem dX2_lookup_5 : decode cX2_lookup 5 = .ok (.invokestatic 54, 3) := by decide +kernel
theorem dX2_lookup_8 : decode cX2_lookup 8 = .ok (.aload_n 0, 1) := by decide +kernel
theorem dX2_lookup_9 : decode cX2_lookup 9 = .ok (.iload_n 1, 1) := by decide +kernel
theorem dX2_lookup_10 : decode cX2_lookup 10 = .ok (.invokevirtual 78, 3) := by decide +kernel
theorem dX2_lookup_13 : decode cX2_lookup 13 = .ok (.aload_n 0, 1) := by decide +kernel
theorem dX2_lookup_14 : decode cX2_lookup 14 = .ok (.iload_n 1, 1) := by decide +kernel
theorem dX2_lookup_15 : decode cX2_lookup 15 = .ok (.iload_n 2, 1) := by decide +kernel
theorem dX2_lookup_16 : decode cX2_lookup 16 = .ok (.invokevirtual 81, 3) := by decide +kernel
theorem dX2_lookup_19 : decode cX2_lookup 19 = .ok (.ireturn, 1) := by decide +kernel
set_option maxRecDepth 20000 in
theorem ggX2_hops_X2_requireIdentifier : GoodIn wsX2_hops wsX2_requireIdentifier := goodIn_ca (goodIn_r _ [5, 6, 7, 4, 8, 9, 10] (by decide +kernel) (by decide +kernel)) (goodIn_sub (fun _ h => List.mem_cons_of_mem _ (List.mem_append_left _ (List.mem_append_right _ h))) (by decide +kernel))
set_option maxRecDepth 20000 in
theorem gX2_hops_X2_requireIdentifier : GoodIn wsX2_hops (va_wsS RX2 54 yX2_requireIdentifier wsX2_requireIdentifier) := goodIn_app (goodIn_of _ (by decide +kernel)) ggX2_hops_X2_requireIdentifier
set_option maxRecDepth 20000 in
theorem ggX2_hops_X2_requireAlive : GoodIn wsX2_hops wsX2_requireAlive := goodIn_ca (goodIn_r _ [14, 15, 16, 17, 18, 19, 4, 20, 21, 51, 52, 53, 54, 55, 56, 57, 58, 59, 60, 61, 62] (by decide +kernel) (by decide +kernel)) (goodIn_sub (fun _ h => List.mem_cons_of_mem _ (List.mem_append_right _ h)) (by decide +kernel))
set_option maxRecDepth 20000 in
theorem gX2_hops_X2_requireAlive : GoodIn wsX2_hops (wsV RX2 78 RX2 yX2_requireAlive wsX2_requireAlive) := goodIn_app (goodIn_of _ (by decide +kernel)) ggX2_hops_X2_requireAlive
set_option maxRecDepth 20000 in
theorem ggX2_hops_X2_find : GoodIn wsX2_hops wsX2_find := goodIn_r _ [25, 26, 1, 27, 28, 29, 4, 30, 31, 32, 33, 34, 35, 36, 37, 38, 17, 18, 19, 20, 21, 39, 40, 41, 42, 43, 44, 45, 46, 47, 48, 49, 50, 51, 52, 53, 54, 55, 56, 57, 58, 59, 60, 61, 62, 63, 64] (by decide +kernel) (by decide +kernel)
set_option maxRecDepth 20000 in
theorem gX2_hops_X2_find : GoodIn wsX2_hops (wsV RX2 81 RX2 yX2_find wsX2_find) := goodIn_app (goodIn_of _ (by decide +kernel)) ggX2_hops_X2_find
theorem dX2_hops_0 : decode cX2_hops 0 = .ok (.iload_n 1, 1) := by decide +kernel
theorem dX2_hops_1 : decode cX2_hops 1 = .ok (.invokestatic 54, 3) := by decide +kernel
theorem dX2_hops_4 : decode cX2_hops 4 = .ok (.iload_n 2, 1) := by decide +kernel
theorem dX2_hops_5 : decode cX2_hops 5 = .ok (.invokestatic 54, 3) := by decide +kernel
theorem dX2_hops_8 : decode cX2_hops 8 = .ok (.aload_n 0, 1) := by decide +kernel
theorem dX2_hops_9 : decode cX2_hops 9 = .ok (.iload_n 1, 1) := by decide +kernel
theorem dX2_hops_10 : decode cX2_hops 10 = .ok (.invokevirtual 78, 3) := by decide +kernel
theorem dX2_hops_13 : decode cX2_hops 13 = .ok (.aload_n 0, 1) := by decide +kernel
theorem dX2_hops_14 : decode cX2_hops 14 = .ok (.iload_n 1, 1) := by decide +kernel
theorem dX2_hops_15 : decode cX2_hops 15 = .ok (.iload_n 2, 1) := by decide +kernel
theorem dX2_hops_16 : decode cX2_hops 16 = .ok (.invokevirtual 81, 3) := by decide +kernel
theorem dX2_hops_19 : decode cX2_hops 19 = .ok (.pop, 1) := by decide +kernel
theorem dX2_hops_20 : decode cX2_hops 20 = .ok (.aload_n 0, 1) := by decide +kernel
theorem dX2_hops_21 : decode cX2_hops 21 = .ok (.getfield 42, 3) := by decide +kernel
theorem dX2_hops_24 : decode cX2_hops 24 = .ok (.ireturn, 1) := by decide +kernel
set_option maxRecDepth 20000 in
theorem ggX2_hopAt_X2_requireIdentifier : GoodIn wsX2_hopAt wsX2_requireIdentifier := goodIn_ca (goodIn_r _ [8, 9, 10, 7, 11, 12, 13] (by decide +kernel) (by decide +kernel)) (goodIn_sub (fun _ h => List.mem_cons_of_mem _ (List.mem_append_left _ (List.mem_append_right _ h))) (by decide +kernel))
set_option maxRecDepth 20000 in
theorem gX2_hopAt_X2_requireIdentifier : GoodIn wsX2_hopAt (va_wsS RX2 54 yX2_requireIdentifier wsX2_requireIdentifier) := goodIn_app (goodIn_of _ (by decide +kernel)) ggX2_hopAt_X2_requireIdentifier
set_option maxRecDepth 20000 in
theorem ggX2_hopAt_X2_requireAlive : GoodIn wsX2_hopAt wsX2_requireAlive := goodIn_ca (goodIn_r _ [17, 18, 19, 20, 21, 22, 7, 23, 24, 53, 54, 55, 56, 57, 58, 59, 60, 61, 62, 63, 64] (by decide +kernel) (by decide +kernel)) (goodIn_sub (fun _ h => List.mem_cons_of_mem _ (List.mem_append_right _ h)) (by decide +kernel))
set_option maxRecDepth 20000 in
theorem gX2_hopAt_X2_requireAlive : GoodIn wsX2_hopAt (wsV RX2 78 RX2 yX2_requireAlive wsX2_requireAlive) := goodIn_app (goodIn_of _ (by decide +kernel)) ggX2_hopAt_X2_requireAlive
set_option maxRecDepth 20000 in
theorem ggX2_hopAt_X2_find : GoodIn wsX2_hopAt wsX2_find := goodIn_r _ [28, 4, 3, 29, 30, 31, 7, 32, 33, 34, 35, 36, 37, 38, 39, 40, 20, 21, 22, 23, 24, 41, 42, 43, 44, 45, 46, 47, 48, 49, 50, 51, 52, 53, 54, 55, 56, 57, 58, 59, 60, 61, 62, 63, 64, 65, 66] (by decide +kernel) (by decide +kernel)
set_option maxRecDepth 20000 in
theorem gX2_hopAt_X2_find : GoodIn wsX2_hopAt (wsV RX2 81 RX2 yX2_find wsX2_find) := goodIn_app (goodIn_of _ (by decide +kernel)) ggX2_hopAt_X2_find
theorem dX2_hopAt_0 : decode cX2_hopAt 0 = .ok (.iload_n 1, 1) := by decide +kernel
theorem dX2_hopAt_1 : decode cX2_hopAt 1 = .ok (.invokestatic 54, 3) := by decide +kernel
theorem dX2_hopAt_4 : decode cX2_hopAt 4 = .ok (.iload_n 2, 1) := by decide +kernel
theorem dX2_hopAt_5 : decode cX2_hopAt 5 = .ok (.invokestatic 54, 3) := by decide +kernel
theorem dX2_hopAt_8 : decode cX2_hopAt 8 = .ok (.aload_n 0, 1) := by decide +kernel
theorem dX2_hopAt_9 : decode cX2_hopAt 9 = .ok (.iload_n 1, 1) := by decide +kernel
theorem dX2_hopAt_10 : decode cX2_hopAt 10 = .ok (.invokevirtual 78, 3) := by decide +kernel
theorem dX2_hopAt_13 : decode cX2_hopAt 13 = .ok (.aload_n 0, 1) := by decide +kernel
theorem dX2_hopAt_14 : decode cX2_hopAt 14 = .ok (.iload_n 1, 1) := by decide +kernel
theorem dX2_hopAt_15 : decode cX2_hopAt 15 = .ok (.iload_n 2, 1) := by decide +kernel
theorem dX2_hopAt_16 : decode cX2_hopAt 16 = .ok (.invokevirtual 81, 3) := by decide +kernel
theorem dX2_hopAt_19 : decode cX2_hopAt 19 = .ok (.pop, 1) := by decide +kernel
theorem dX2_hopAt_20 : decode cX2_hopAt 20 = .ok (.iload_n 3, 1) := by decide +kernel
theorem dX2_hopAt_21 : decode cX2_hopAt 21 = .ok (.ifCond .lt 20, 3) := by decide +kernel
theorem dX2_hopAt_24 : decode cX2_hopAt 24 = .ok (.iload_n 3, 1) := by decide +kernel
theorem dX2_hopAt_25 : decode cX2_hopAt 25 = .ok (.aload_n 0, 1) := by decide +kernel
theorem dX2_hopAt_26 : decode cX2_hopAt 26 = .ok (.getfield 42, 3) := by decide +kernel
theorem dX2_hopAt_29 : decode cX2_hopAt 29 = .ok (.if_icmp .gt 12, 3) := by decide +kernel
theorem dX2_hopAt_32 : decode cX2_hopAt 32 = .ok (.iload_n 3, 1) := by decide +kernel
theorem dX2_hopAt_33 : decode cX2_hopAt 33 = .ok (.aload_n 0, 1) := by decide +kernel
theorem dX2_hopAt_34 : decode cX2_hopAt 34 = .ok (.getfield 38, 3) := by decide +kernel
theorem dX2_hopAt_37 : decode cX2_hopAt 37 = .ok (.arraylength, 1) := by decide +kernel
theorem dX2_hopAt_38 : decode cX2_hopAt 38 = .ok (.if_icmp .lt 13, 3) := by decide +kernel
theorem dX2_hopAt_41 : decode cX2_hopAt 41 = .ok (.new 122, 3) := by decide +kernel
theorem dX2_hopAt_44 : decode cX2_hopAt 44 = .ok (.dup, 1) := by decide +kernel
theorem dX2_hopAt_45 : decode cX2_hopAt 45 = .ok (.ldc 124, 2) := by decide +kernel
theorem dX2_hopAt_47 : decode cX2_hopAt 47 = .ok (.invokespecial 126, 3) := by decide +kernel
theorem dX2_hopAt_50 : decode cX2_hopAt 50 = .ok (.athrow, 1) := by decide +kernel
theorem dX2_hopAt_51 : decode cX2_hopAt 51 = .ok (.aload_n 0, 1) := by decide +kernel
theorem dX2_hopAt_52 : decode cX2_hopAt 52 = .ok (.getfield 38, 3) := by decide +kernel
theorem dX2_hopAt_55 : decode cX2_hopAt 55 = .ok (.iload_n 3, 1) := by decide +kernel
theorem dX2_hopAt_56 : decode cX2_hopAt 56 = .ok (.iaload, 1) := by decide +kernel
theorem dX2_hopAt_57 : decode cX2_hopAt 57 = .ok (.ireturn, 1) := by decide +kernel
set_option maxRecDepth 20000 in
theorem ggX2_put_X2_requireIdentifier : GoodIn wsX2_put wsX2_requireIdentifier := goodIn_ca (goodIn_r _ [7, 8, 9, 6, 10, 11, 12] (by decide +kernel) (by decide +kernel)) (goodIn_sub (fun _ h => List.mem_cons_of_mem _ (List.mem_append_left _ (List.mem_append_right _ h))) (by decide +kernel))
set_option maxRecDepth 20000 in
theorem gX2_put_X2_requireIdentifier : GoodIn wsX2_put (va_wsS RX2 54 yX2_requireIdentifier wsX2_requireIdentifier) := goodIn_app (goodIn_of _ (by decide +kernel)) ggX2_put_X2_requireIdentifier
set_option maxRecDepth 20000 in
theorem ggX2_put_X2_requireRange : GoodIn wsX2_put wsX2_requireRange := goodIn_ca (goodIn_r _ [10, 11, 12] (by decide +kernel) (by decide +kernel)) (goodIn_sub (fun _ h => List.mem_cons_of_mem _ (List.mem_append_left _ (List.mem_append_right _ h))) (by decide +kernel))
set_option maxRecDepth 20000 in
theorem gX2_put_X2_requireRange : GoodIn wsX2_put (va_wsS RX2 99 yX2_requireRange wsX2_requireRange) := goodIn_app (goodIn_of _ (by decide +kernel)) ggX2_put_X2_requireRange
set_option maxRecDepth 20000 in
theorem ggX2_put_X2_requireAlive : GoodIn wsX2_put wsX2_requireAlive := goodIn_ca (goodIn_r _ [16, 17, 18, 19, 20, 21, 6, 22, 23, 70, 71, 72, 73, 74, 75, 76, 77, 78, 79, 80, 81] (by decide +kernel) (by decide +kernel)) (goodIn_sub (fun _ h => List.mem_cons_of_mem _ (List.mem_append_right _ h)) (by decide +kernel))
set_option maxRecDepth 20000 in
theorem gX2_put_X2_requireAlive : GoodIn wsX2_put (wsV RX2 78 RX2 yX2_requireAlive wsX2_requireAlive) := goodIn_app (goodIn_of _ (by decide +kernel)) ggX2_put_X2_requireAlive
set_option maxRecDepth 20000 in
theorem ggX2_put_X2_find : GoodIn wsX2_put wsX2_find := goodIn_r _ [27, 28, 29, 30, 31, 32, 6, 33, 34, 35, 36, 37, 38, 39, 40, 41, 19, 20, 21, 22, 23, 42, 43, 44, 45, 46, 47, 48, 49, 50, 51, 52, 53, 70, 71, 72, 73, 74, 75, 76, 77, 78, 79, 80, 81, 82, 83] (by decide +kernel) (by decide +kernel)
set_option maxRecDepth 20000 in
theorem gX2_put_X2_find : GoodIn wsX2_put (wsV RX2 81 RX2 yX2_find wsX2_find) := goodIn_app (goodIn_of _ (by decide +kernel)) ggX2_put_X2_find
set_option maxRecDepth 20000 in
theorem ggX2_put_X1_set : GoodIn wsX2_put wsX1_set := goodIn_r _ [57, 40, 41, 82, 83] (by decide +kernel) (by decide +kernel)
set_option maxRecDepth 20000 in
theorem gX2_put_X1_set : GoodIn wsX2_put (wsV RX2 127 RX1 yX1_set wsX1_set) := goodIn_app (goodIn_of _ (by decide +kernel)) ggX2_put_X1_set
set_option maxRecDepth 20000 in
theorem ggX2_put_X2_copyToHeirs : GoodIn wsX2_put wsX2_copyToHeirs := goodIn_r _ [61, 62, 63, 64, 6, 65, 34, 35, 36, 37, 38, 39, 40, 41, 19, 20, 21, 22, 23, 66, 67, 68, 69, 3, 2, 54, 55, 56, 57, 70, 71, 72, 73, 74, 75, 76, 77, 78, 79, 80, 81, 82, 83] (by decide +kernel) (by decide +kernel)
set_option maxRecDepth 20000 in
theorem gX2_put_X2_copyToHeirs : GoodIn wsX2_put (wsV RX2 130 RX2 yX2_copyToHeirs wsX2_copyToHeirs) := goodIn_app (goodIn_of _ (by decide +kernel)) ggX2_put_X2_copyToHeirs
theorem dX2_put_0 : decode cX2_put 0 = .ok (.iload_n 1, 1) := by decide +kernel
theorem dX2_put_1 : decode cX2_put 1 = .ok (.invokestatic 54, 3) := by decide +kernel
theorem dX2_put_4 : decode cX2_put 4 = .ok (.iload_n 2, 1) := by decide +kernel
theorem dX2_put_5 : decode cX2_put 5 = .ok (.invokestatic 54, 3) := by decide +kernel
theorem dX2_put_8 : decode cX2_put 8 = .ok (.iload_n 3, 1) := by decide +kernel
theorem dX2_put_9 : decode cX2_put 9 = .ok (.iconst 0, 1) := by decide +kernel
theorem dX2_put_10 : decode cX2_put 10 = .ok (.sipush 999, 3) := by decide +kernel
theorem dX2_put_13 : decode cX2_put 13 = .ok (.invokestatic 99, 3) := by decide +kernel
theorem dX2_put_16 : decode cX2_put 16 = .ok (.aload_n 0, 1) := by decide +kernel
theorem dX2_put_17 : decode cX2_put 17 = .ok (.iload_n 1, 1) := by decide +kernel
theorem dX2_put_18 : decode cX2_put 18 = .ok (.invokevirtual 78, 3) := by decide +kernel
theorem dX2_put_21 : decode cX2_put 21 = .ok (.aload_n 0, 1) := by decide +kernel
theorem dX2_put_22 : decode cX2_put 22 = .ok (.iload_n 1, 1) := by decide +kernel
theorem dX2_put_23 : decode cX2_put 23 = .ok (.iload_n 2, 1) := by decide +kernel
theorem dX2_put_24 : decode cX2_put 24 = .ok (.invokevirtual 81, 3) := by decide +kernel
theorem dX2_put_27 : decode cX2_put 27 = .ok (.istore 4, 2) := by decide +kernel
theorem dX2_put_29 : decode cX2_put 29 = .ok (.aload_n 0, 1) := by decide +kernel
theorem dX2_put_30 : decode cX2_put 30 = .ok (.dup, 1) := by decide +kernel
theorem dX2_put_31 : decode cX2_put 31 = .ok (.getfield 34, 3) := by decide +kernel
theorem dX2_put_34 : decode cX2_put 34 = .ok (.iconst 1, 1) := by decide +kernel
theorem dX2_put_35 : decode cX2_put 35 = .ok (.iadd, 1) := by decide +kernel
theorem dX2_put_36 : decode cX2_put 36 = .ok (.putfield 34, 3) := by decide +kernel
theorem dX2_put_39 : decode cX2_put 39 = .ok (.aload_n 0, 1) := by decide +kernel
theorem dX2_put_40 : decode cX2_put 40 = .ok (.getfield 28, 3) := by decide +kernel
theorem dX2_put_43 : decode cX2_put 43 = .ok (.iload 4, 2) := by decide +kernel
theorem dX2_put_45 : decode cX2_put 45 = .ok (.iload_n 2, 1) := by decide +kernel
theorem dX2_put_46 : decode cX2_put 46 = .ok (.iload_n 3, 1) := by decide +kernel
theorem dX2_put_47 : decode cX2_put 47 = .ok (.invokevirtual 127, 3) := by decide +kernel
theorem dX2_put_50 : decode cX2_put 50 = .ok (.aload_n 0, 1) := by decide +kernel
theorem dX2_put_51 : decode cX2_put 51 = .ok (.getfield 31, 3) := by decide +kernel
theorem dX2_put_54 : decode cX2_put 54 = .ok (.iload 4, 2) := by decide +kernel
theorem dX2_put_56 : decode cX2_put 56 = .ok (.iload_n 2, 1) := by decide +kernel
theorem dX2_put_57 : decode cX2_put 57 = .ok (.aload_n 0, 1) := by decide +kernel
theorem dX2_put_58 : decode cX2_put 58 = .ok (.getfield 34, 3) := by decide +kernel
theorem dX2_put_61 : decode cX2_put 61 = .ok (.invokevirtual 127, 3) := by decide +kernel
theorem dX2_put_64 : decode cX2_put 64 = .ok (.aload_n 0, 1) := by decide +kernel
theorem dX2_put_65 : decode cX2_put 65 = .ok (.iload 4, 2) := by decide +kernel
theorem dX2_put_67 : decode cX2_put 67 = .ok (.iload_n 2, 1) := by decide +kernel
theorem dX2_put_68 : decode cX2_put 68 = .ok (.invokevirtual 130, 3) := by decide +kernel
theorem dX2_put_71 : decode cX2_put 71 = .ok (.pop, 1) := by decide +kernel
theorem dX2_put_72 : decode cX2_put 72 = .ok (.iload 4, 2) := by decide +kernel
theorem dX2_put_74 : decode cX2_put 74 = .ok (.ireturn, 1) := by decide +kernel
set_option maxRecDepth 20000 in
theorem ggX2_get_X2_requireIdentifier : GoodIn wsX2_get wsX2_requireIdentifier := goodIn_ca (goodIn_r _ [5, 6, 7, 4, 8, 9, 10] (by decide +kernel) (by decide +kernel)) (goodIn_sub (fun _ h => List.mem_cons_of_mem _ (List.mem_append_left _ (List.mem_append_right _ h))) (by decide +kernel))
set_option maxRecDepth 20000 in
theorem gX2_get_X2_requireIdentifier : GoodIn wsX2_get (va_wsS RX2 54 yX2_requireIdentifier wsX2_requireIdentifier) := goodIn_app (goodIn_of _ (by decide +kernel)) ggX2_get_X2_requireIdentifier
set_option maxRecDepth 20000 in
theorem ggX2_get_X2_requireAlive : GoodIn wsX2_get wsX2_requireAlive := goodIn_ca (goodIn_r _ [14, 15, 16, 17, 18, 19, 4, 20, 21, 52, 53, 54, 55, 56, 57, 58, 59, 60, 61, 62, 63] (by decide +kernel) (by decide +kernel)) (goodIn_sub (fun _ h => List.mem_cons_of_mem _ (List.mem_append_right _ h)) (by decide +kernel))
set_option maxRecDepth 20000 in
theorem gX2_get_X2_requireAlive : GoodIn wsX2_get (wsV RX2 78 RX2 yX2_requireAlive wsX2_requireAlive) := goodIn_app (goodIn_of _ (by decide +kernel)) ggX2_get_X2_requireAlive
set_option maxRecDepth 20000 in
theorem ggX2_get_X2_find : GoodIn wsX2_get wsX2_find := goodIn_r _ [25, 26, 27, 28, 29, 30, 4, 31, 32, 33, 34, 35, 36, 37, 38, 39, 17, 18, 19, 20, 21, 40, 41, 42, 43, 44, 45, 46, 47, 48, 49, 50, 51, 52, 53, 54, 55, 56, 57, 58, 59, 60, 61, 62, 63, 64, 65] (by decide +kernel) (by decide +kernel)
set_option maxRecDepth 20000 in
theorem gX2_get_X2_find : GoodIn wsX2_get (wsV RX2 81 RX2 yX2_find wsX2_find) := goodIn_app (goodIn_of _ (by decide +kernel)) ggX2_get_X2_find
set_option maxRecDepth 20000 in
theorem ggX2_get_X1_at : GoodIn wsX2_get wsX1_at := goodIn_r _ [37, 38, 39, 64, 65] (by decide +kernel) (by decide +kernel)
set_option maxRecDepth 20000 in
theorem gX2_get_X1_at : GoodIn wsX2_get (wsV RX2 85 RX1 yX1_at wsX1_at) := goodIn_app (goodIn_of _ (by decide +kernel)) ggX2_get_X1_at
theorem dX2_get_0 : decode cX2_get 0 = .ok (.iload_n 1, 1) := by decide +kernel
theorem dX2_get_1 : decode cX2_get 1 = .ok (.invokestatic 54, 3) := by decide +kernel
theorem dX2_get_4 : decode cX2_get 4 = .ok (.iload_n 2, 1) := by decide +kernel
theorem dX2_get_5 : decode cX2_get 5 = .ok (.invokestatic 54, 3) := by decide +kernel
theorem dX2_get_8 : decode cX2_get 8 = .ok (.aload_n 0, 1) := by decide +kernel
theorem dX2_get_9 : decode cX2_get 9 = .ok (.iload_n 1, 1) := by decide +kernel
theorem dX2_get_10 : decode cX2_get 10 = .ok (.invokevirtual 78, 3) := by decide +kernel
theorem dX2_get_13 : decode cX2_get 13 = .ok (.aload_n 0, 1) := by decide +kernel
theorem dX2_get_14 : decode cX2_get 14 = .ok (.getfield 28, 3) := by decide +kernel
theorem dX2_get_17 : decode cX2_get 17 = .ok (.aload_n 0, 1) := by decide +kernel
theorem dX2_get_18 : decode cX2_get 18 = .ok (.iload_n 1, 1) := by decide +kernel
theorem dX2_get_19 : decode cX2_get 19 = .ok (.iload_n 2, 1) := by decide +kernel
theorem dX2_get_20 : decode cX2_get 20 = .ok (.invokevirtual 81, 3) := by decide +kernel
theorem dX2_get_23 : decode cX2_get 23 = .ok (.iload_n 2, 1) := by decide +kernel
theorem dX2_get_24 : decode cX2_get 24 = .ok (.invokevirtual 85, 3) := by decide +kernel
theorem dX2_get_27 : decode cX2_get 27 = .ok (.ireturn, 1) := by decide +kernel
set_option maxRecDepth 20000 in
theorem ggX2_kept_X2_requireIdentifier : GoodIn wsX2_kept wsX2_requireIdentifier := goodIn_ca (goodIn_r _ [5, 6, 7, 4, 8, 9, 10] (by decide +kernel) (by decide +kernel)) (goodIn_sub (fun _ h => List.mem_cons_of_mem _ (List.mem_append_left _ (List.mem_append_right _ h))) (by decide +kernel))
set_option maxRecDepth 20000 in
theorem gX2_kept_X2_requireIdentifier : GoodIn wsX2_kept (va_wsS RX2 54 yX2_requireIdentifier wsX2_requireIdentifier) := goodIn_app (goodIn_of _ (by decide +kernel)) ggX2_kept_X2_requireIdentifier
set_option maxRecDepth 20000 in
theorem ggX2_kept_X2_requireAlive : GoodIn wsX2_kept wsX2_requireAlive := goodIn_ca (goodIn_r _ [14, 15, 16, 17, 18, 19, 4, 20, 21, 29, 30, 31, 32, 33, 34, 35, 36, 37, 38, 39, 40] (by decide +kernel) (by decide +kernel)) (goodIn_sub (fun _ h => List.mem_cons_of_mem _ (List.mem_append_right _ h)) (by decide +kernel))
set_option maxRecDepth 20000 in
theorem gX2_kept_X2_requireAlive : GoodIn wsX2_kept (wsV RX2 78 RX2 yX2_requireAlive wsX2_requireAlive) := goodIn_app (goodIn_of _ (by decide +kernel)) ggX2_kept_X2_requireAlive
set_option maxRecDepth 20000 in
theorem ggX2_kept_X1_at : GoodIn wsX2_kept wsX1_at := goodIn_r _ [26, 27, 28, 41, 42] (by decide +kernel) (by decide +kernel)
set_option maxRecDepth 20000 in
theorem gX2_kept_X1_at : GoodIn wsX2_kept (wsV RX2 85 RX1 yX1_at wsX1_at) := goodIn_app (goodIn_of _ (by decide +kernel)) ggX2_kept_X1_at
theorem dX2_kept_0 : decode cX2_kept 0 = .ok (.iload_n 1, 1) := by decide +kernel
theorem dX2_kept_1 : decode cX2_kept 1 = .ok (.invokestatic 54, 3) := by decide +kernel
theorem dX2_kept_4 : decode cX2_kept 4 = .ok (.iload_n 2, 1) := by decide +kernel
theorem dX2_kept_5 : decode cX2_kept 5 = .ok (.invokestatic 54, 3) := by decide +kernel
theorem dX2_kept_8 : decode cX2_kept 8 = .ok (.aload_n 0, 1) := by decide +kernel
theorem dX2_kept_9 : decode cX2_kept 9 = .ok (.iload_n 1, 1) := by decide +kernel
theorem dX2_kept_10 : decode cX2_kept 10 = .ok (.invokevirtual 78, 3) := by decide +kernel
theorem dX2_kept_13 : decode cX2_kept 13 = .ok (.aload_n 0, 1) := by decide +kernel
theorem dX2_kept_14 : decode cX2_kept 14 = .ok (.getfield 28, 3) := by decide +kernel
theorem dX2_kept_17 : decode cX2_kept 17 = .ok (.iload_n 1, 1) := by decide +kernel
theorem dX2_kept_18 : decode cX2_kept 18 = .ok (.iload_n 2, 1) := by decide +kernel
theorem dX2_kept_19 : decode cX2_kept 19 = .ok (.invokevirtual 85, 3) := by decide +kernel
theorem dX2_kept_22 : decode cX2_kept 22 = .ok (.ireturn, 1) := by decide +kernel
set_option maxRecDepth 20000 in
theorem ggX2_keepers_X2_requireIdentifier : GoodIn wsX2_keepers wsX2_requireIdentifier := goodIn_ca (goodIn_r _ [5, 6, 7, 4, 8, 9, 10] (by decide +kernel) (by decide +kernel)) (goodIn_sub (fun _ h => List.mem_cons_of_mem _ (List.mem_append_right _ h)) (by decide +kernel))
set_option maxRecDepth 20000 in
theorem gX2_keepers_X2_requireIdentifier : GoodIn wsX2_keepers (va_wsS RX2 54 yX2_requireIdentifier wsX2_requireIdentifier) := goodIn_app (goodIn_of _ (by decide +kernel)) ggX2_keepers_X2_requireIdentifier
set_option maxRecDepth 20000 in
theorem ggX2_keepers_X2_isAlive : GoodIn wsX2_keepers wsX2_isAlive := goodIn_r _ [14, 15, 23, 24, 25, 26, 27, 28, 29, 30, 31, 32, 33, 34] (by decide +kernel) (by decide +kernel)
set_option maxRecDepth 20000 in
theorem gX2_keepers_X2_isAlive : GoodIn wsX2_keepers (wsV RX2 72 RX2 yX2_isAlive wsX2_isAlive) := goodIn_app (goodIn_of _ (by decide +kernel)) ggX2_keepers_X2_isAlive
set_option maxRecDepth 20000 in
theorem ggX2_keepers_X1_at : GoodIn wsX2_keepers wsX1_at := goodIn_r _ [20, 21, 22, 35, 36] (by decide +kernel) (by decide +kernel)
set_option maxRecDepth 20000 in
theorem gX2_keepers_X1_at : GoodIn wsX2_keepers (wsV RX2 85 RX1 yX1_at wsX1_at) := goodIn_app (goodIn_of _ (by decide +kernel)) ggX2_keepers_X1_at
theorem dX2_keepers_0 : decode cX2_keepers 0 = .ok (.iload_n 1, 1) := by decide +kernel
theorem dX2_keepers_1 : decode cX2_keepers 1 = .ok (.invokestatic 54, 3) := by decide +kernel
theorem dX2_keepers_4 : decode cX2_keepers 4 = .ok (.iconst 0, 1) := by decide +kernel
theorem dX2_keepers_5 : decode cX2_keepers 5 = .ok (.istore_n 2, 1) := by decide +kernel
theorem dX2_keepers_6 : decode cX2_keepers 6 = .ok (.iconst 0, 1) := by decide +kernel
theorem dX2_keepers_7 : decode cX2_keepers 7 = .ok (.istore_n 3, 1) := by decide +kernel
theorem dX2_keepers_8 : decode cX2_keepers 8 = .ok (.iload_n 3, 1) := by decide +kernel
theorem dX2_keepers_9 : decode cX2_keepers 9 = .ok (.bipush 64, 2) := by decide +kernel
theorem dX2_keepers_11 : decode cX2_keepers 11 = .ok (.if_icmp .ge 33, 3) := by decide +kernel
theorem dX2_keepers_14 : decode cX2_keepers 14 = .ok (.aload_n 0, 1) := by decide +kernel
theorem dX2_keepers_15 : decode cX2_keepers 15 = .ok (.iload_n 3, 1) := by decide +kernel
theorem dX2_keepers_16 : decode cX2_keepers 16 = .ok (.invokevirtual 72, 3) := by decide +kernel
theorem dX2_keepers_19 : decode cX2_keepers 19 = .ok (.ifCond .eq 19, 3) := by decide +kernel
theorem dX2_keepers_22 : decode cX2_keepers 22 = .ok (.aload_n 0, 1) := by decide +kernel
theorem dX2_keepers_23 : decode cX2_keepers 23 = .ok (.getfield 28, 3) := by decide +kernel
theorem dX2_keepers_26 : decode cX2_keepers 26 = .ok (.iload_n 3, 1) := by decide +kernel
theorem dX2_keepers_27 : decode cX2_keepers 27 = .ok (.iload_n 1, 1) := by decide +kernel
theorem dX2_keepers_28 : decode cX2_keepers 28 = .ok (.invokevirtual 85, 3) := by decide +kernel
theorem dX2_keepers_31 : decode cX2_keepers 31 = .ok (.iconst (-1), 1) := by decide +kernel
theorem dX2_keepers_32 : decode cX2_keepers 32 = .ok (.if_icmp .eq 6, 3) := by decide +kernel
theorem dX2_keepers_35 : decode cX2_keepers 35 = .ok (.iinc 2 1, 3) := by decide +kernel
theorem dX2_keepers_38 : decode cX2_keepers 38 = .ok (.iinc 3 1, 3) := by decide +kernel
theorem dX2_keepers_41 : decode cX2_keepers 41 = .ok (.goto (-33), 3) := by decide +kernel
theorem dX2_keepers_44 : decode cX2_keepers 44 = .ok (.iload_n 2, 1) := by decide +kernel
theorem dX2_keepers_45 : decode cX2_keepers 45 = .ok (.ireturn, 1) := by decide +kernel
set_option maxRecDepth 20000 in
theorem ggX2_owner_X2_requireIdentifier : GoodIn wsX2_owner wsX2_requireIdentifier := goodIn_ca (goodIn_r _ [4, 5, 6, 3, 7, 8, 9] (by decide +kernel) (by decide +kernel)) (goodIn_sub (fun _ h => List.mem_cons_of_mem _ (List.mem_append_right _ h)) (by decide +kernel))
set_option maxRecDepth 20000 in
theorem gX2_owner_X2_requireIdentifier : GoodIn wsX2_owner (va_wsS RX2 54 yX2_requireIdentifier wsX2_requireIdentifier) := goodIn_app (goodIn_of _ (by decide +kernel)) ggX2_owner_X2_requireIdentifier
set_option maxRecDepth 20000 in
theorem ggX2_owner_X2_firstLivingUpFrom : GoodIn wsX2_owner wsX2_firstLivingUpFrom := goodIn_r _ [13, 14, 15, 16, 17, 18, 19, 20, 3, 21, 22, 23, 24, 25, 26, 27, 28, 29, 30, 31, 32, 33, 34] (by decide +kernel) (by decide +kernel)
set_option maxRecDepth 20000 in
theorem gX2_owner_X2_firstLivingUpFrom : GoodIn wsX2_owner (wsV RX2 133 RX2 yX2_firstLivingUpFrom wsX2_firstLivingUpFrom) := goodIn_app (goodIn_of _ (by decide +kernel)) ggX2_owner_X2_firstLivingUpFrom
theorem dX2_owner_0 : decode cX2_owner 0 = .ok (.iload_n 1, 1) := by decide +kernel
theorem dX2_owner_1 : decode cX2_owner 1 = .ok (.invokestatic 54, 3) := by decide +kernel
theorem dX2_owner_4 : decode cX2_owner 4 = .ok (.aload_n 0, 1) := by decide +kernel
theorem dX2_owner_5 : decode cX2_owner 5 = .ok (.iload_n 1, 1) := by decide +kernel
theorem dX2_owner_6 : decode cX2_owner 6 = .ok (.invokevirtual 133, 3) := by decide +kernel
theorem dX2_owner_9 : decode cX2_owner 9 = .ok (.ireturn, 1) := by decide +kernel
set_option maxRecDepth 20000 in
theorem ggX2_wrongPointers_X2_countWrongPointers : GoodIn wsX2_wrongPointers wsX2_countWrongPointers := goodIn_r _ [5, 6, 7, 8, 4, 9, 10, 11, 12, 13, 14, 15, 16, 17, 18, 19, 20, 21, 22, 23, 24, 25, 26, 27, 28, 29, 30, 31, 32, 33, 34, 35, 36, 37, 38, 39, 40, 41, 42, 43, 44, 45, 46, 47, 48, 49, 50, 51, 52, 53, 54, 55, 56, 57, 58] (by decide +kernel) (by decide +kernel)
set_option maxRecDepth 20000 in
theorem gX2_wrongPointers_X2_countWrongPointers : GoodIn wsX2_wrongPointers (wsV RX2 119 RX2 yX2_countWrongPointers wsX2_countWrongPointers) := goodIn_app (goodIn_of _ (by decide +kernel)) ggX2_wrongPointers_X2_countWrongPointers
theorem dX2_wrongPointers_0 : decode cX2_wrongPointers 0 = .ok (.aload_n 0, 1) := by decide +kernel
theorem dX2_wrongPointers_1 : decode cX2_wrongPointers 1 = .ok (.invokevirtual 119, 3) := by decide +kernel
theorem dX2_wrongPointers_4 : decode cX2_wrongPointers 4 = .ok (.ireturn, 1) := by decide +kernel
theorem dX2_requireRange_0 : decode cX2_requireRange 0 = .ok (.iload_n 0, 1) := by decide +kernel
theorem dX2_requireRange_1 : decode cX2_requireRange 1 = .ok (.iload_n 1, 1) := by decide +kernel
theorem dX2_requireRange_2 : decode cX2_requireRange 2 = .ok (.if_icmp .lt 8, 3) := by decide +kernel
theorem dX2_requireRange_5 : decode cX2_requireRange 5 = .ok (.iload_n 0, 1) := by decide +kernel
theorem dX2_requireRange_6 : decode cX2_requireRange 6 = .ok (.iload_n 2, 1) := by decide +kernel
theorem dX2_requireRange_7 : decode cX2_requireRange 7 = .ok (.if_icmp .le 13, 3) := by decide +kernel
theorem dX2_requireRange_10 : decode cX2_requireRange 10 = .ok (.new 142, 3) := by decide +kernel
theorem dX2_requireRange_13 : decode cX2_requireRange 13 = .ok (.dup, 1) := by decide +kernel
theorem dX2_requireRange_14 : decode cX2_requireRange 14 = .ok (.ldc 144, 2) := by decide +kernel
theorem dX2_requireRange_16 : decode cX2_requireRange 16 = .ok (.invokespecial 146, 3) := by decide +kernel
theorem dX2_requireRange_19 : decode cX2_requireRange 19 = .ok (.athrow, 1) := by decide +kernel
theorem dX2_requireRange_20 : decode cX2_requireRange 20 = .ok (.return_, 1) := by decide +kernel
set_option maxRecDepth 20000 in
theorem ggX2_requireIdentifier_X2_requireRange : GoodIn wsX2_requireIdentifier wsX2_requireRange := goodIn_ca (goodIn_r _ [4, 5, 6] (by decide +kernel) (by decide +kernel)) (goodIn_sub (fun _ h => List.mem_cons_of_mem _ (List.mem_append_right _ h)) (by decide +kernel))
set_option maxRecDepth 20000 in
theorem gX2_requireIdentifier_X2_requireRange : GoodIn wsX2_requireIdentifier (va_wsS RX2 99 yX2_requireRange wsX2_requireRange) := goodIn_app (goodIn_of _ (by decide +kernel)) ggX2_requireIdentifier_X2_requireRange
theorem dX2_requireIdentifier_0 : decode cX2_requireIdentifier 0 = .ok (.iload_n 0, 1) := by decide +kernel
theorem dX2_requireIdentifier_1 : decode cX2_requireIdentifier 1 = .ok (.iconst 0, 1) := by decide +kernel
theorem dX2_requireIdentifier_2 : decode cX2_requireIdentifier 2 = .ok (.bipush 63, 2) := by decide +kernel
theorem dX2_requireIdentifier_4 : decode cX2_requireIdentifier 4 = .ok (.invokestatic 99, 3) := by decide +kernel
theorem dX2_requireIdentifier_7 : decode cX2_requireIdentifier 7 = .ok (.return_, 1) := by decide +kernel
set_option maxRecDepth 20000 in
theorem ggX2_requireAlive_X2_isAlive : GoodIn wsX2_requireAlive wsX2_isAlive := goodIn_r _ [7, 8, 9, 10, 11, 12, 13, 14, 15, 16, 17, 18, 19, 20] (by decide +kernel) (by decide +kernel)
set_option maxRecDepth 20000 in
theorem gX2_requireAlive_X2_isAlive : GoodIn wsX2_requireAlive (wsV RX2 72 RX2 yX2_isAlive wsX2_isAlive) := goodIn_app (goodIn_of _ (by decide +kernel)) ggX2_requireAlive_X2_isAlive
theorem dX2_requireAlive_0 : decode cX2_requireAlive 0 = .ok (.aload_n 0, 1) := by decide +kernel
theorem dX2_requireAlive_1 : decode cX2_requireAlive 1 = .ok (.iload_n 1, 1) := by decide +kernel
theorem dX2_requireAlive_2 : decode cX2_requireAlive 2 = .ok (.invokevirtual 72, 3) := by decide +kernel
theorem dX2_requireAlive_5 : decode cX2_requireAlive 5 = .ok (.ifCond .ne 13, 3) := by decide +kernel
