theorem dX3_init_0 : decode cX3_init 0 = .ok (.aload_n 0, 1) := by decide +kernel
theorem dX3_init_1 : decode cX3_init 1 = .ok (.invokespecial 1, 3) := by decide +kernel
theorem dX3_init_4 : decode cX3_init 4 = .ok (.aload_n 0, 1) := by decide +kernel
theorem dX3_init_5 : decode cX3_init 5 = .ok (.bipush 64, 2) := by decide +kernel
theorem dX3_init_7 : decode cX3_init 7 = .ok (.newarray .boolean, 2) := by decide +kernel
theorem dX3_init_9 : decode cX3_init 9 = .ok (.putfield 7, 3) := by decide +kernel
theorem dX3_init_12 : decode cX3_init 12 = .ok (.aload_n 0, 1) := by decide +kernel
theorem dX3_init_13 : decode cX3_init 13 = .ok (.sipush 192, 3) := by decide +kernel
theorem dX3_init_16 : decode cX3_init 16 = .ok (.newarray .int, 2) := by decide +kernel
theorem dX3_init_18 : decode cX3_init 18 = .ok (.putfield 13, 3) := by decide +kernel
theorem dX3_init_21 : decode cX3_init 21 = .ok (.aload_n 0, 1) := by decide +kernel
theorem dX3_init_22 : decode cX3_init 22 = .ok (.bipush 64, 2) := by decide +kernel
theorem dX3_init_24 : decode cX3_init 24 = .ok (.newarray .int, 2) := by decide +kernel
theorem dX3_init_26 : decode cX3_init 26 = .ok (.putfield 17, 3) := by decide +kernel
theorem dX3_init_29 : decode cX3_init 29 = .ok (.aload_n 0, 1) := by decide +kernel
theorem dX3_init_30 : decode cX3_init 30 = .ok (.sipush 384, 3) := by decide +kernel
theorem dX3_init_33 : decode cX3_init 33 = .ok (.newarray .int, 2) := by decide +kernel
theorem dX3_init_35 : decode cX3_init 35 = .ok (.putfield 20, 3) := by decide +kernel
theorem dX3_init_38 : decode cX3_init 38 = .ok (.aload_n 0, 1) := by decide +kernel
theorem dX3_init_39 : decode cX3_init 39 = .ok (.sipush 4096, 3) := by decide +kernel
theorem dX3_init_42 : decode cX3_init 42 = .ok (.newarray .int, 2) := by decide +kernel
theorem dX3_init_44 : decode cX3_init 44 = .ok (.putfield 23, 3) := by decide +kernel
theorem dX3_init_47 : decode cX3_init 47 = .ok (.aload_n 0, 1) := by decide +kernel
theorem dX3_init_48 : decode cX3_init 48 = .ok (.sipush 4096, 3) := by decide +kernel
theorem dX3_init_51 : decode cX3_init 51 = .ok (.newarray .int, 2) := by decide +kernel
theorem dX3_init_53 : decode cX3_init 53 = .ok (.putfield 26, 3) := by decide +kernel
theorem dX3_init_56 : decode cX3_init 56 = .ok (.aload_n 0, 1) := by decide +kernel
theorem dX3_init_57 : decode cX3_init 57 = .ok (.bipush 65, 2) := by decide +kernel
theorem dX3_init_59 : decode cX3_init 59 = .ok (.newarray .int, 2) := by decide +kernel
theorem dX3_init_61 : decode cX3_init 61 = .ok (.putfield 29, 3) := by decide +kernel
theorem dX3_init_64 : decode cX3_init 64 = .ok (.aload_n 0, 1) := by decide +kernel
theorem dX3_init_65 : decode cX3_init 65 = .ok (.sipush 192, 3) := by decide +kernel
theorem dX3_init_68 : decode cX3_init 68 = .ok (.newarray .int, 2) := by decide +kernel
theorem dX3_init_70 : decode cX3_init 70 = .ok (.putfield 32, 3) := by decide +kernel
theorem dX3_init_73 : decode cX3_init 73 = .ok (.aload_n 0, 1) := by decide +kernel
theorem dX3_init_74 : decode cX3_init 74 = .ok (.bipush 64, 2) := by decide +kernel
theorem dX3_init_76 : decode cX3_init 76 = .ok (.newarray .int, 2) := by decide +kernel
theorem dX3_init_78 : decode cX3_init 78 = .ok (.putfield 35, 3) := by decide +kernel
theorem dX3_init_81 : decode cX3_init 81 = .ok (.aload_n 0, 1) := by decide +kernel
theorem dX3_init_82 : decode cX3_init 82 = .ok (.sipush 384, 3) := by decide +kernel
theorem dX3_init_85 : decode cX3_init 85 = .ok (.newarray .int, 2) := by decide +kernel
theorem dX3_init_87 : decode cX3_init 87 = .ok (.putfield 38, 3) := by decide +kernel
theorem dX3_init_90 : decode cX3_init 90 = .ok (.return_, 1) := by decide +kernel
theorem dX3_thrown_0 : decode cX3_thrown 0 = .ok (.aload_n 0, 1) := by decide +kernel
theorem dX3_thrown_1 : decode cX3_thrown 1 = .ok (.getfield 41, 3) := by decide +kernel
theorem dX3_thrown_4 : decode cX3_thrown 4 = .ok (.ireturn, 1) := by decide +kernel
theorem dX3_fails_0 : decode cX3_fails 0 = .ok (.aload_n 0, 1) := by decide +kernel
theorem dX3_fails_1 : decode cX3_fails 1 = .ok (.iload_n 1, 1) := by decide +kernel
theorem dX3_fails_2 : decode cX3_fails 2 = .ok (.putfield 41, 3) := by decide +kernel
theorem dX3_fails_5 : decode cX3_fails 5 = .ok (.iconst 0, 1) := by decide +kernel
theorem dX3_fails_6 : decode cX3_fails 6 = .ok (.ireturn, 1) := by decide +kernel
theorem dX3_isId_0 : decode cX3_isId 0 = .ok (.iload_n 0, 1) := by decide +kernel
theorem dX3_isId_1 : decode cX3_isId 1 = .ok (.ifCond .lt 13, 3) := by decide +kernel
theorem dX3_isId_4 : decode cX3_isId 4 = .ok (.iload_n 0, 1) := by decide +kernel
theorem dX3_isId_5 : decode cX3_isId 5 = .ok (.bipush 64, 2) := by decide +kernel
theorem dX3_isId_7 : decode cX3_isId 7 = .ok (.if_icmp .ge 7, 3) := by decide +kernel
theorem dX3_isId_10 : decode cX3_isId 10 = .ok (.iconst 1, 1) := by decide +kernel
theorem dX3_isId_11 : decode cX3_isId 11 = .ok (.goto 4, 3) := by decide +kernel
theorem dX3_isId_14 : decode cX3_isId 14 = .ok (.iconst 0, 1) := by decide +kernel
theorem dX3_isId_15 : decode cX3_isId 15 = .ok (.ireturn, 1) := by decide +kernel
theorem dX3_up_0 : decode cX3_up 0 = .ok (.iload_n 1, 1) := by decide +kernel
theorem dX3_up_1 : decode cX3_up 1 = .ok (.iload_n 0, 1) := by decide +kernel
theorem dX3_up_2 : decode cX3_up 2 = .ok (.isub, 1) := by decide +kernel
theorem dX3_up_3 : decode cX3_up 3 = .ok (.bipush 64, 2) := by decide +kernel
theorem dX3_up_5 : decode cX3_up 5 = .ok (.iadd, 1) := by decide +kernel
theorem dX3_up_6 : decode cX3_up 6 = .ok (.bipush 64, 2) := by decide +kernel
theorem dX3_up_8 : decode cX3_up 8 = .ok (.irem, 1) := by decide +kernel
theorem dX3_up_9 : decode cX3_up 9 = .ok (.ireturn, 1) := by decide +kernel
set_option maxRecDepth 20000 in
theorem ggX3_isWithin_X3_up : GoodIn wsX3_isWithin wsX3_up := goodIn_r _ [4] (by decide +kernel) (by decide +kernel)
set_option maxRecDepth 20000 in
theorem gX3_isWithin_X3_up : GoodIn wsX3_isWithin (va_wsS RX3 45 yX3_up wsX3_up) := goodIn_app (goodIn_of _ (by decide +kernel)) ggX3_isWithin_X3_up
theorem dX3_isWithin_0 : decode cX3_isWithin 0 = .ok (.iload_n 1, 1) := by decide +kernel
theorem dX3_isWithin_1 : decode cX3_isWithin 1 = .ok (.iload_n 2, 1) := by decide +kernel
theorem dX3_isWithin_2 : decode cX3_isWithin 2 = .ok (.invokestatic 45, 3) := by decide +kernel
theorem dX3_isWithin_5 : decode cX3_isWithin 5 = .ok (.ifCond .ne 8, 3) := by decide +kernel
theorem dX3_isWithin_8 : decode cX3_isWithin 8 = .ok (.bipush 64, 2) := by decide +kernel
theorem dX3_isWithin_10 : decode cX3_isWithin 10 = .ok (.goto 8, 3) := by decide +kernel
theorem dX3_isWithin_13 : decode cX3_isWithin 13 = .ok (.iload_n 1, 1) := by decide +kernel
theorem dX3_isWithin_14 : decode cX3_isWithin 14 = .ok (.iload_n 2, 1) := by decide +kernel
theorem dX3_isWithin_15 : decode cX3_isWithin 15 = .ok (.invokestatic 45, 3) := by decide +kernel
theorem dX3_isWithin_18 : decode cX3_isWithin 18 = .ok (.istore_n 3, 1) := by decide +kernel
theorem dX3_isWithin_19 : decode cX3_isWithin 19 = .ok (.iload_n 1, 1) := by decide +kernel
theorem dX3_isWithin_20 : decode cX3_isWithin 20 = .ok (.iload_n 0, 1) := by decide +kernel
theorem dX3_isWithin_21 : decode cX3_isWithin 21 = .ok (.invokestatic 45, 3) := by decide +kernel
theorem dX3_isWithin_24 : decode cX3_isWithin 24 = .ok (.ifCond .ne 8, 3) := by decide +kernel
theorem dX3_isWithin_27 : decode cX3_isWithin 27 = .ok (.bipush 64, 2) := by decide +kernel
theorem dX3_isWithin_29 : decode cX3_isWithin 29 = .ok (.goto 8, 3) := by decide +kernel
theorem dX3_isWithin_32 : decode cX3_isWithin 32 = .ok (.iload_n 1, 1) := by decide +kernel
theorem dX3_isWithin_33 : decode cX3_isWithin 33 = .ok (.iload_n 0, 1) := by decide +kernel
theorem dX3_isWithin_34 : decode cX3_isWithin 34 = .ok (.invokestatic 45, 3) := by decide +kernel
theorem dX3_isWithin_37 : decode cX3_isWithin 37 = .ok (.istore 4, 2) := by decide +kernel
theorem dX3_isWithin_39 : decode cX3_isWithin 39 = .ok (.iload 4, 2) := by decide +kernel
theorem dX3_isWithin_41 : decode cX3_isWithin 41 = .ok (.iload_n 3, 1) := by decide +kernel
theorem dX3_isWithin_42 : decode cX3_isWithin 42 = .ok (.if_icmp .gt 7, 3) := by decide +kernel
theorem dX3_isWithin_45 : decode cX3_isWithin 45 = .ok (.iconst 1, 1) := by decide +kernel
theorem dX3_isWithin_46 : decode cX3_isWithin 46 = .ok (.goto 4, 3) := by decide +kernel
theorem dX3_isWithin_49 : decode cX3_isWithin 49 = .ok (.iconst 0, 1) := by decide +kernel
theorem dX3_isWithin_50 : decode cX3_isWithin 50 = .ok (.ireturn, 1) := by decide +kernel
set_option maxRecDepth 20000 in
theorem ggX3_isBetween_X3_isWithin : GoodIn wsX3_isBetween wsX3_isWithin := goodIn_r _ [4, 5, 6, 3, 7] (by decide +kernel) (by decide +kernel)
set_option maxRecDepth 20000 in
theorem gX3_isBetween_X3_isWithin : GoodIn wsX3_isBetween (va_wsS RX3 49 yX3_isWithin wsX3_isWithin) := goodIn_app (goodIn_of _ (by decide +kernel)) ggX3_isBetween_X3_isWithin
theorem dX3_isBetween_0 : decode cX3_isBetween 0 = .ok (.iload_n 0, 1) := by decide +kernel
theorem dX3_isBetween_1 : decode cX3_isBetween 1 = .ok (.iload_n 2, 1) := by decide +kernel
theorem dX3_isBetween_2 : decode cX3_isBetween 2 = .ok (.if_icmp .eq 16, 3) := by decide +kernel
theorem dX3_isBetween_5 : decode cX3_isBetween 5 = .ok (.iload_n 0, 1) := by decide +kernel
theorem dX3_isBetween_6 : decode cX3_isBetween 6 = .ok (.iload_n 1, 1) := by decide +kernel
theorem dX3_isBetween_7 : decode cX3_isBetween 7 = .ok (.iload_n 2, 1) := by decide +kernel
theorem dX3_isBetween_8 : decode cX3_isBetween 8 = .ok (.invokestatic 49, 3) := by decide +kernel
theorem dX3_isBetween_11 : decode cX3_isBetween 11 = .ok (.ifCond .eq 7, 3) := by decide +kernel
theorem dX3_isBetween_14 : decode cX3_isBetween 14 = .ok (.iconst 1, 1) := by decide +kernel
theorem dX3_isBetween_15 : decode cX3_isBetween 15 = .ok (.goto 4, 3) := by decide +kernel
theorem dX3_isBetween_18 : decode cX3_isBetween 18 = .ok (.iconst 0, 1) := by decide +kernel
theorem dX3_isBetween_19 : decode cX3_isBetween 19 = .ok (.ireturn, 1) := by decide +kernel
theorem dX3_countLiving_0 : decode cX3_countLiving 0 = .ok (.iconst 0, 1) := by decide +kernel
theorem dX3_countLiving_1 : decode cX3_countLiving 1 = .ok (.istore_n 1, 1) := by decide +kernel
theorem dX3_countLiving_2 : decode cX3_countLiving 2 = .ok (.iconst 0, 1) := by decide +kernel
theorem dX3_countLiving_3 : decode cX3_countLiving 3 = .ok (.istore_n 2, 1) := by decide +kernel
theorem dX3_countLiving_4 : decode cX3_countLiving 4 = .ok (.iload_n 2, 1) := by decide +kernel
theorem dX3_countLiving_5 : decode cX3_countLiving 5 = .ok (.bipush 64, 2) := by decide +kernel
theorem dX3_countLiving_7 : decode cX3_countLiving 7 = .ok (.if_icmp .ge 26, 3) := by decide +kernel
theorem dX3_countLiving_10 : decode cX3_countLiving 10 = .ok (.iload_n 1, 1) := by decide +kernel
theorem dX3_countLiving_11 : decode cX3_countLiving 11 = .ok (.aload_n 0, 1) := by decide +kernel
theorem dX3_countLiving_12 : decode cX3_countLiving 12 = .ok (.getfield 7, 3) := by decide +kernel
theorem dX3_countLiving_15 : decode cX3_countLiving 15 = .ok (.iload_n 2, 1) := by decide +kernel
theorem dX3_countLiving_16 : decode cX3_countLiving 16 = .ok (.baload, 1) := by decide +kernel
theorem dX3_countLiving_17 : decode cX3_countLiving 17 = .ok (.ifCond .eq 7, 3) := by decide +kernel
theorem dX3_countLiving_20 : decode cX3_countLiving 20 = .ok (.iconst 1, 1) := by decide +kernel
theorem dX3_countLiving_21 : decode cX3_countLiving 21 = .ok (.goto 4, 3) := by decide +kernel
theorem dX3_countLiving_24 : decode cX3_countLiving 24 = .ok (.iconst 0, 1) := by decide +kernel
theorem dX3_countLiving_25 : decode cX3_countLiving 25 = .ok (.iadd, 1) := by decide +kernel
theorem dX3_countLiving_26 : decode cX3_countLiving 26 = .ok (.istore_n 1, 1) := by decide +kernel
theorem dX3_countLiving_27 : decode cX3_countLiving 27 = .ok (.iinc 2 1, 3) := by decide +kernel
theorem dX3_countLiving_30 : decode cX3_countLiving 30 = .ok (.goto (-26), 3) := by decide +kernel
theorem dX3_countLiving_33 : decode cX3_countLiving 33 = .ok (.iload_n 1, 1) := by decide +kernel
theorem dX3_countLiving_34 : decode cX3_countLiving 34 = .ok (.ireturn, 1) := by decide +kernel
theorem dX3_liveSuccessorOf_0 : decode cX3_liveSuccessorOf 0 = .ok (.iload_n 1, 1) := by decide +kernel
theorem dX3_liveSuccessorOf_1 : decode cX3_liveSuccessorOf 1 = .ok (.istore_n 2, 1) := by decide +kernel
theorem dX3_liveSuccessorOf_2 : decode cX3_liveSuccessorOf 2 = .ok (.iconst 2, 1) := by decide +kernel
theorem dX3_liveSuccessorOf_3 : decode cX3_liveSuccessorOf 3 = .ok (.istore_n 3, 1) := by decide +kernel
theorem dX3_liveSuccessorOf_4 : decode cX3_liveSuccessorOf 4 = .ok (.iload_n 3, 1) := by decide +kernel
theorem dX3_liveSuccessorOf_5 : decode cX3_liveSuccessorOf 5 = .ok (.ifCond .lt 42, 3) := by decide +kernel
theorem dX3_liveSuccessorOf_8 : decode cX3_liveSuccessorOf 8 = .ok (.aload_n 0, 1) := by decide +kernel
theorem dX3_liveSuccessorOf_9 : decode cX3_liveSuccessorOf 9 = .ok (.getfield 7, 3) := by decide +kernel
theorem dX3_liveSuccessorOf_12 : decode cX3_liveSuccessorOf 12 = .ok (.aload_n 0, 1) := by decide +kernel
theorem dX3_liveSuccessorOf_13 : decode cX3_liveSuccessorOf 13 = .ok (.getfield 13, 3) := by decide +kernel
theorem dX3_liveSuccessorOf_16 : decode cX3_liveSuccessorOf 16 = .ok (.iconst 3, 1) := by decide +kernel
theorem dX3_liveSuccessorOf_17 : decode cX3_liveSuccessorOf 17 = .ok (.iload_n 1, 1) := by decide +kernel
theorem dX3_liveSuccessorOf_18 : decode cX3_liveSuccessorOf 18 = .ok (.imul, 1) := by decide +kernel
theorem dX3_liveSuccessorOf_19 : decode cX3_liveSuccessorOf 19 = .ok (.iload_n 3, 1) := by decide +kernel
theorem dX3_liveSuccessorOf_20 : decode cX3_liveSuccessorOf 20 = .ok (.iadd, 1) := by decide +kernel
theorem dX3_liveSuccessorOf_21 : decode cX3_liveSuccessorOf 21 = .ok (.iaload, 1) := by decide +kernel
theorem dX3_liveSuccessorOf_22 : decode cX3_liveSuccessorOf 22 = .ok (.baload, 1) := by decide +kernel
theorem dX3_liveSuccessorOf_23 : decode cX3_liveSuccessorOf 23 = .ok (.ifCond .eq 16, 3) := by decide +kernel
theorem dX3_liveSuccessorOf_26 : decode cX3_liveSuccessorOf 26 = .ok (.aload_n 0, 1) := by decide +kernel
theorem dX3_liveSuccessorOf_27 : decode cX3_liveSuccessorOf 27 = .ok (.getfield 13, 3) := by decide +kernel
theorem dX3_liveSuccessorOf_30 : decode cX3_liveSuccessorOf 30 = .ok (.iconst 3, 1) := by decide +kernel
theorem dX3_liveSuccessorOf_31 : decode cX3_liveSuccessorOf 31 = .ok (.iload_n 1, 1) := by decide +kernel
theorem dX3_liveSuccessorOf_32 : decode cX3_liveSuccessorOf 32 = .ok (.imul, 1) := by decide +kernel
theorem dX3_liveSuccessorOf_33 : decode cX3_liveSuccessorOf 33 = .ok (.iload_n 3, 1) := by decide +kernel
theorem dX3_liveSuccessorOf_34 : decode cX3_liveSuccessorOf 34 = .ok (.iadd, 1) := by decide +kernel
theorem dX3_liveSuccessorOf_35 : decode cX3_liveSuccessorOf 35 = .ok (.iaload, 1) := by decide +kernel
theorem dX3_liveSuccessorOf_36 : decode cX3_liveSuccessorOf 36 = .ok (.goto 4, 3) := by decide +kernel
theorem dX3_liveSuccessorOf_39 : decode cX3_liveSuccessorOf 39 = .ok (.iload_n 2, 1) := by decide +kernel
theorem dX3_liveSuccessorOf_40 : decode cX3_liveSuccessorOf 40 = .ok (.istore_n 2, 1) := by decide +kernel
theorem dX3_liveSuccessorOf_41 : decode cX3_liveSuccessorOf 41 = .ok (.iinc 3 (-1), 3) := by decide +kernel
theorem dX3_liveSuccessorOf_44 : decode cX3_liveSuccessorOf 44 = .ok (.goto (-40), 3) := by decide +kernel
theorem dX3_liveSuccessorOf_47 : decode cX3_liveSuccessorOf 47 = .ok (.iload_n 2, 1) := by decide +kernel
theorem dX3_liveSuccessorOf_48 : decode cX3_liveSuccessorOf 48 = .ok (.ireturn, 1) := by decide +kernel
set_option maxRecDepth 20000 in
theorem ggX3_nextHop_X3_isBetween : GoodIn wsX3_nextHop wsX3_isBetween := goodIn_r _ [6, 7, 8, 5, 9, 10, 11, 12] (by decide +kernel) (by decide +kernel)
set_option maxRecDepth 20000 in
theorem gX3_nextHop_X3_isBetween : GoodIn wsX3_nextHop (va_wsS RX3 53 yX3_isBetween wsX3_isBetween) := goodIn_app (goodIn_of _ (by decide +kernel)) ggX3_nextHop_X3_isBetween
theorem dX3_nextHop_0 : decode cX3_nextHop 0 = .ok (.iload_n 2, 1) := by decide +kernel
theorem dX3_nextHop_1 : decode cX3_nextHop 1 = .ok (.istore 4, 2) := by decide +kernel
theorem dX3_nextHop_3 : decode cX3_nextHop 3 = .ok (.iconst 0, 1) := by decide +kernel
theorem dX3_nextHop_4 : decode cX3_nextHop 4 = .ok (.istore 5, 2) := by decide +kernel
theorem dX3_nextHop_6 : decode cX3_nextHop 6 = .ok (.iload 5, 2) := by decide +kernel
theorem dX3_nextHop_8 : decode cX3_nextHop 8 = .ok (.bipush 6, 2) := by decide +kernel
theorem dX3_nextHop_10 : decode cX3_nextHop 10 = .ok (.if_icmp .ge 58, 3) := by decide +kernel
theorem dX3_nextHop_13 : decode cX3_nextHop 13 = .ok (.aload_n 0, 1) := by decide +kernel
theorem dX3_nextHop_14 : decode cX3_nextHop 14 = .ok (.getfield 20, 3) := by decide +kernel
theorem dX3_nextHop_17 : decode cX3_nextHop 17 = .ok (.bipush 6, 2) := by decide +kernel
theorem dX3_nextHop_19 : decode cX3_nextHop 19 = .ok (.iload_n 1, 1) := by decide +kernel
theorem dX3_nextHop_20 : decode cX3_nextHop 20 = .ok (.imul, 1) := by decide +kernel
theorem dX3_nextHop_21 : decode cX3_nextHop 21 = .ok (.iload 5, 2) := by decide +kernel
theorem dX3_nextHop_23 : decode cX3_nextHop 23 = .ok (.iadd, 1) := by decide +kernel
theorem dX3_nextHop_24 : decode cX3_nextHop 24 = .ok (.iaload, 1) := by decide +kernel
theorem dX3_nextHop_25 : decode cX3_nextHop 25 = .ok (.istore 6, 2) := by decide +kernel
theorem dX3_nextHop_27 : decode cX3_nextHop 27 = .ok (.iload 6, 2) := by decide +kernel
theorem dX3_nextHop_29 : decode cX3_nextHop 29 = .ok (.iconst (-1), 1) := by decide +kernel
theorem dX3_nextHop_30 : decode cX3_nextHop 30 = .ok (.if_icmp .eq 28, 3) := by decide +kernel
theorem dX3_nextHop_33 : decode cX3_nextHop 33 = .ok (.aload_n 0, 1) := by decide +kernel
theorem dX3_nextHop_34 : decode cX3_nextHop 34 = .ok (.getfield 7, 3) := by decide +kernel
theorem dX3_nextHop_37 : decode cX3_nextHop 37 = .ok (.iload 6, 2) := by decide +kernel
theorem dX3_nextHop_39 : decode cX3_nextHop 39 = .ok (.baload, 1) := by decide +kernel
theorem dX3_nextHop_40 : decode cX3_nextHop 40 = .ok (.ifCond .eq 18, 3) := by decide +kernel
theorem dX3_nextHop_43 : decode cX3_nextHop 43 = .ok (.iload 6, 2) := by decide +kernel
theorem dX3_nextHop_45 : decode cX3_nextHop 45 = .ok (.iload_n 1, 1) := by decide +kernel
theorem dX3_nextHop_46 : decode cX3_nextHop 46 = .ok (.iload_n 3, 1) := by decide +kernel
theorem dX3_nextHop_47 : decode cX3_nextHop 47 = .ok (.invokestatic 53, 3) := by decide +kernel
theorem dX3_nextHop_50 : decode cX3_nextHop 50 = .ok (.ifCond .eq 8, 3) := by decide +kernel
theorem dX3_nextHop_53 : decode cX3_nextHop 53 = .ok (.iload 6, 2) := by decide +kernel
theorem dX3_nextHop_55 : decode cX3_nextHop 55 = .ok (.goto 5, 3) := by decide +kernel
theorem dX3_nextHop_58 : decode cX3_nextHop 58 = .ok (.iload 4, 2) := by decide +kernel
theorem dX3_nextHop_60 : decode cX3_nextHop 60 = .ok (.istore 4, 2) := by decide +kernel
theorem dX3_nextHop_62 : decode cX3_nextHop 62 = .ok (.iinc 5 1, 3) := by decide +kernel
theorem dX3_nextHop_65 : decode cX3_nextHop 65 = .ok (.goto (-59), 3) := by decide +kernel
theorem dX3_nextHop_68 : decode cX3_nextHop 68 = .ok (.iload 4, 2) := by decide +kernel
theorem dX3_nextHop_70 : decode cX3_nextHop 70 = .ok (.ireturn, 1) := by decide +kernel
set_option maxRecDepth 20000 in
theorem ggX3_find_X3_liveSuccessorOf : GoodIn wsX3_find wsX3_liveSuccessorOf := goodIn_r _ [7, 8, 9, 24, 25, 26, 27, 28, 29, 30, 31, 32, 33, 34, 35, 36] (by decide +kernel) (by decide +kernel)
set_option maxRecDepth 20000 in
theorem gX3_find_X3_liveSuccessorOf : GoodIn wsX3_find (wsV RX3 56 RX3 yX3_liveSuccessorOf wsX3_liveSuccessorOf) := goodIn_app (goodIn_of _ (by decide +kernel)) ggX3_find_X3_liveSuccessorOf
set_option maxRecDepth 20000 in
theorem ggX3_find_X3_isWithin : GoodIn wsX3_find wsX3_isWithin := goodIn_r _ [12, 13, 14, 6, 15] (by decide +kernel) (by decide +kernel)
set_option maxRecDepth 20000 in
theorem gX3_find_X3_isWithin : GoodIn wsX3_find (va_wsS RX3 49 yX3_isWithin wsX3_isWithin) := goodIn_app (goodIn_of _ (by decide +kernel)) ggX3_find_X3_isWithin
set_option maxRecDepth 20000 in
theorem ggX3_find_X3_nextHop : GoodIn wsX3_find wsX3_nextHop := goodIn_r _ [19, 20, 8, 21, 22, 6, 23, 10, 11, 12, 13, 14, 15, 24, 25, 26, 27, 28, 29, 30, 31, 32, 33, 34, 35, 36] (by decide +kernel) (by decide +kernel)
set_option maxRecDepth 20000 in
theorem gX3_find_X3_nextHop : GoodIn wsX3_find (wsV RX3 63 RX3 yX3_nextHop wsX3_nextHop) := goodIn_app (goodIn_of _ (by decide +kernel)) ggX3_find_X3_nextHop
theorem dX3_find_0 : decode cX3_find 0 = .ok (.iload_n 1, 1) := by decide +kernel
theorem dX3_find_1 : decode cX3_find 1 = .ok (.istore_n 3, 1) := by decide +kernel
theorem dX3_find_2 : decode cX3_find 2 = .ok (.aload_n 0, 1) := by decide +kernel
theorem dX3_find_3 : decode cX3_find 3 = .ok (.iload_n 3, 1) := by decide +kernel
theorem dX3_find_4 : decode cX3_find 4 = .ok (.invokevirtual 56, 3) := by decide +kernel
theorem dX3_find_7 : decode cX3_find 7 = .ok (.istore 4, 2) := by decide +kernel
theorem dX3_find_9 : decode cX3_find 9 = .ok (.aload_n 0, 1) := by decide +kernel
theorem dX3_find_10 : decode cX3_find 10 = .ok (.iconst 0, 1) := by decide +kernel
theorem dX3_find_11 : decode cX3_find 11 = .ok (.putfield 60, 3) := by decide +kernel
theorem dX3_find_14 : decode cX3_find 14 = .ok (.aload_n 0, 1) := by decide +kernel
theorem dX3_find_15 : decode cX3_find 15 = .ok (.getfield 29, 3) := by decide +kernel
theorem dX3_find_18 : decode cX3_find 18 = .ok (.iconst 0, 1) := by decide +kernel
theorem dX3_find_19 : decode cX3_find 19 = .ok (.iload_n 1, 1) := by decide +kernel
theorem dX3_find_20 : decode cX3_find 20 = .ok (.iastore, 1) := by decide +kernel
theorem dX3_find_21 : decode cX3_find 21 = .ok (.iload_n 2, 1) := by decide +kernel
theorem dX3_find_22 : decode cX3_find 22 = .ok (.iload_n 3, 1) := by decide +kernel
theorem dX3_find_23 : decode cX3_find 23 = .ok (.iload 4, 2) := by decide +kernel
theorem dX3_find_25 : decode cX3_find 25 = .ok (.invokestatic 49, 3) := by decide +kernel
theorem dX3_find_28 : decode cX3_find 28 = .ok (.ifCond .ne 53, 3) := by decide +kernel
theorem dX3_find_31 : decode cX3_find 31 = .ok (.aload_n 0, 1) := by decide +kernel
theorem dX3_find_32 : decode cX3_find 32 = .ok (.getfield 60, 3) := by decide +kernel
theorem dX3_find_35 : decode cX3_find 35 = .ok (.bipush 64, 2) := by decide +kernel
theorem dX3_find_37 : decode cX3_find 37 = .ok (.if_icmp .ne 5, 3) := by decide +kernel
theorem dX3_find_40 : decode cX3_find 40 = .ok (.iconst (-1), 1) := by decide +kernel
theorem dX3_find_41 : decode cX3_find 41 = .ok (.ireturn, 1) := by decide +kernel
theorem dX3_find_42 : decode cX3_find 42 = .ok (.aload_n 0, 1) := by decide +kernel
theorem dX3_find_43 : decode cX3_find 43 = .ok (.iload_n 3, 1) := by decide +kernel
theorem dX3_find_44 : decode cX3_find 44 = .ok (.iload 4, 2) := by decide +kernel
theorem dX3_find_46 : decode cX3_find 46 = .ok (.iload_n 2, 1) := by decide +kernel
theorem dX3_find_47 : decode cX3_find 47 = .ok (.invokevirtual 63, 3) := by decide +kernel
theorem dX3_find_50 : decode cX3_find 50 = .ok (.istore_n 3, 1) := by decide +kernel
theorem dX3_find_51 : decode cX3_find 51 = .ok (.aload_n 0, 1) := by decide +kernel
theorem dX3_find_52 : decode cX3_find 52 = .ok (.iload_n 3, 1) := by decide +kernel
theorem dX3_find_53 : decode cX3_find 53 = .ok (.invokevirtual 56, 3) := by decide +kernel
theorem dX3_find_56 : decode cX3_find 56 = .ok (.istore 4, 2) := by decide +kernel
theorem dX3_find_58 : decode cX3_find 58 = .ok (.aload_n 0, 1) := by decide +kernel
theorem dX3_find_59 : decode cX3_find 59 = .ok (.dup, 1) := by decide +kernel
theorem dX3_find_60 : decode cX3_find 60 = .ok (.getfield 60, 3) := by decide +kernel
theorem dX3_find_63 : decode cX3_find 63 = .ok (.iconst 1, 1) := by decide +kernel
theorem dX3_find_64 : decode cX3_find 64 = .ok (.iadd, 1) := by decide +kernel
theorem dX3_find_65 : decode cX3_find 65 = .ok (.putfield 60, 3) := by decide +kernel
theorem dX3_find_68 : decode cX3_find 68 = .ok (.aload_n 0, 1) := by decide +kernel
theorem dX3_find_69 : decode cX3_find 69 = .ok (.getfield 29, 3) := by decide +kernel
theorem dX3_find_72 : decode cX3_find 72 = .ok (.aload_n 0, 1) := by decide +kernel
theorem dX3_find_73 : decode cX3_find 73 = .ok (.getfield 60, 3) := by decide +kernel
theorem dX3_find_76 : decode cX3_find 76 = .ok (.iload_n 3, 1) := by decide +kernel
theorem dX3_find_77 : decode cX3_find 77 = .ok (.iastore, 1) := by decide +kernel
theorem dX3_find_78 : decode cX3_find 78 = .ok (.goto (-57), 3) := by decide +kernel
theorem dX3_find_81 : decode cX3_find 81 = .ok (.iload 4, 2) := by decide +kernel
theorem dX3_find_83 : decode cX3_find 83 = .ok (.ireturn, 1) := by decide +kernel
theorem dX3_begins_0 : decode cX3_begins 0 = .ok (.aload_n 0, 1) := by decide +kernel
theorem dX3_begins_1 : decode cX3_begins 1 = .ok (.getfield 7, 3) := by decide +kernel
theorem dX3_begins_4 : decode cX3_begins 4 = .ok (.iload_n 1, 1) := by decide +kernel
theorem dX3_begins_5 : decode cX3_begins 5 = .ok (.iconst 1, 1) := by decide +kernel
theorem dX3_begins_6 : decode cX3_begins 6 = .ok (.bastore, 1) := by decide +kernel
theorem dX3_begins_7 : decode cX3_begins 7 = .ok (.aload_n 0, 1) := by decide +kernel
theorem dX3_begins_8 : decode cX3_begins 8 = .ok (.getfield 13, 3) := by decide +kernel
theorem dX3_begins_11 : decode cX3_begins 11 = .ok (.iconst 3, 1) := by decide +kernel
theorem dX3_begins_12 : decode cX3_begins 12 = .ok (.iload_n 1, 1) := by decide +kernel
theorem dX3_begins_13 : decode cX3_begins 13 = .ok (.imul, 1) := by decide +kernel
theorem dX3_begins_14 : decode cX3_begins 14 = .ok (.iload_n 2, 1) := by decide +kernel
theorem dX3_begins_15 : decode cX3_begins 15 = .ok (.iastore, 1) := by decide +kernel
theorem dX3_begins_16 : decode cX3_begins 16 = .ok (.aload_n 0, 1) := by decide +kernel
theorem dX3_begins_17 : decode cX3_begins 17 = .ok (.getfield 13, 3) := by decide +kernel
theorem dX3_begins_20 : decode cX3_begins 20 = .ok (.iconst 3, 1) := by decide +kernel
theorem dX3_begins_21 : decode cX3_begins 21 = .ok (.iload_n 1, 1) := by decide +kernel
theorem dX3_begins_22 : decode cX3_begins 22 = .ok (.imul, 1) := by decide +kernel
theorem dX3_begins_23 : decode cX3_begins 23 = .ok (.iconst 1, 1) := by decide +kernel
theorem dX3_begins_24 : decode cX3_begins 24 = .ok (.iadd, 1) := by decide +kernel
theorem dX3_begins_25 : decode cX3_begins 25 = .ok (.iload_n 3, 1) := by decide +kernel
theorem dX3_begins_26 : decode cX3_begins 26 = .ok (.iastore, 1) := by decide +kernel
theorem dX3_begins_27 : decode cX3_begins 27 = .ok (.aload_n 0, 1) := by decide +kernel
theorem dX3_begins_28 : decode cX3_begins 28 = .ok (.getfield 13, 3) := by decide +kernel
theorem dX3_begins_31 : decode cX3_begins 31 = .ok (.iconst 3, 1) := by decide +kernel
theorem dX3_begins_32 : decode cX3_begins 32 = .ok (.iload_n 1, 1) := by decide +kernel
theorem dX3_begins_33 : decode cX3_begins 33 = .ok (.imul, 1) := by decide +kernel
theorem dX3_begins_34 : decode cX3_begins 34 = .ok (.iconst 2, 1) := by decide +kernel
theorem dX3_begins_35 : decode cX3_begins 35 = .ok (.iadd, 1) := by decide +kernel
theorem dX3_begins_36 : decode cX3_begins 36 = .ok (.iload 4, 2) := by decide +kernel
theorem dX3_begins_38 : decode cX3_begins 38 = .ok (.iastore, 1) := by decide +kernel
theorem dX3_begins_39 : decode cX3_begins 39 = .ok (.aload_n 0, 1) := by decide +kernel
theorem dX3_begins_40 : decode cX3_begins 40 = .ok (.getfield 17, 3) := by decide +kernel
theorem dX3_begins_43 : decode cX3_begins 43 = .ok (.iload_n 1, 1) := by decide +kernel
theorem dX3_begins_44 : decode cX3_begins 44 = .ok (.iconst (-1), 1) := by decide +kernel
theorem dX3_begins_45 : decode cX3_begins 45 = .ok (.iastore, 1) := by decide +kernel
theorem dX3_begins_46 : decode cX3_begins 46 = .ok (.iconst 0, 1) := by decide +kernel
theorem dX3_begins_47 : decode cX3_begins 47 = .ok (.istore 5, 2) := by decide +kernel
theorem dX3_begins_49 : decode cX3_begins 49 = .ok (.iload 5, 2) := by decide +kernel
theorem dX3_begins_51 : decode cX3_begins 51 = .ok (.bipush 6, 2) := by decide +kernel
theorem dX3_begins_53 : decode cX3_begins 53 = .ok (.if_icmp .ge 22, 3) := by decide +kernel
theorem dX3_begins_56 : decode cX3_begins 56 = .ok (.aload_n 0, 1) := by decide +kernel
theorem dX3_begins_57 : decode cX3_begins 57 = .ok (.getfield 20, 3) := by decide +kernel
theorem dX3_begins_60 : decode cX3_begins 60 = .ok (.bipush 6, 2) := by decide +kernel
theorem dX3_begins_62 : decode cX3_begins 62 = .ok (.iload_n 1, 1) := by decide +kernel
theorem dX3_begins_63 : decode cX3_begins 63 = .ok (.imul, 1) := by decide +kernel
theorem dX3_begins_64 : decode cX3_begins 64 = .ok (.iload 5, 2) := by decide +kernel
theorem dX3_begins_66 : decode cX3_begins 66 = .ok (.iadd, 1) := by decide +kernel
theorem dX3_begins_67 : decode cX3_begins 67 = .ok (.iconst (-1), 1) := by decide +kernel
theorem dX3_begins_68 : decode cX3_begins 68 = .ok (.iastore, 1) := by decide +kernel
theorem dX3_begins_69 : decode cX3_begins 69 = .ok (.iinc 5 1, 3) := by decide +kernel
theorem dX3_begins_72 : decode cX3_begins 72 = .ok (.goto (-23), 3) := by decide +kernel
theorem dX3_begins_75 : decode cX3_begins 75 = .ok (.iconst 0, 1) := by decide +kernel
theorem dX3_begins_76 : decode cX3_begins 76 = .ok (.istore 5, 2) := by decide +kernel
theorem dX3_begins_78 : decode cX3_begins 78 = .ok (.iload 5, 2) := by decide +kernel
theorem dX3_begins_80 : decode cX3_begins 80 = .ok (.bipush 64, 2) := by decide +kernel
theorem dX3_begins_82 : decode cX3_begins 82 = .ok (.if_icmp .ge 22, 3) := by decide +kernel
theorem dX3_begins_85 : decode cX3_begins 85 = .ok (.aload_n 0, 1) := by decide +kernel
theorem dX3_begins_86 : decode cX3_begins 86 = .ok (.getfield 26, 3) := by decide +kernel
theorem dX3_begins_89 : decode cX3_begins 89 = .ok (.bipush 64, 2) := by decide +kernel
theorem dX3_begins_91 : decode cX3_begins 91 = .ok (.iload_n 1, 1) := by decide +kernel
theorem dX3_begins_92 : decode cX3_begins 92 = .ok (.imul, 1) := by decide +kernel
theorem dX3_begins_93 : decode cX3_begins 93 = .ok (.iload 5, 2) := by decide +kernel
theorem dX3_begins_95 : decode cX3_begins 95 = .ok (.iadd, 1) := by decide +kernel
theorem dX3_begins_96 : decode cX3_begins 96 = .ok (.iconst 0, 1) := by decide +kernel
theorem dX3_begins_97 : decode cX3_begins 97 = .ok (.iastore, 1) := by decide +kernel
theorem dX3_begins_98 : decode cX3_begins 98 = .ok (.iinc 5 1, 3) := by decide +kernel
theorem dX3_begins_101 : decode cX3_begins 101 = .ok (.goto (-23), 3) := by decide +kernel
theorem dX3_begins_104 : decode cX3_begins 104 = .ok (.return_, 1) := by decide +kernel
theorem dX3_follows_0 : decode cX3_follows 0 = .ok (.aload_n 0, 1) := by decide +kernel
theorem dX3_follows_1 : decode cX3_follows 1 = .ok (.getfield 13, 3) := by decide +kernel
theorem dX3_follows_4 : decode cX3_follows 4 = .ok (.iconst 3, 1) := by decide +kernel
theorem dX3_follows_5 : decode cX3_follows 5 = .ok (.iload_n 2, 1) := by decide +kernel
theorem dX3_follows_6 : decode cX3_follows 6 = .ok (.imul, 1) := by decide +kernel
theorem dX3_follows_7 : decode cX3_follows 7 = .ok (.iaload, 1) := by decide +kernel
theorem dX3_follows_8 : decode cX3_follows 8 = .ok (.istore_n 3, 1) := by decide +kernel
theorem dX3_follows_9 : decode cX3_follows 9 = .ok (.aload_n 0, 1) := by decide +kernel
theorem dX3_follows_10 : decode cX3_follows 10 = .ok (.getfield 13, 3) := by decide +kernel
theorem dX3_follows_13 : decode cX3_follows 13 = .ok (.iconst 3, 1) := by decide +kernel
theorem dX3_follows_14 : decode cX3_follows 14 = .ok (.iload_n 2, 1) := by decide +kernel
theorem dX3_follows_15 : decode cX3_follows 15 = .ok (.imul, 1) := by decide +kernel
theorem dX3_follows_16 : decode cX3_follows 16 = .ok (.iconst 1, 1) := by decide +kernel
theorem dX3_follows_17 : decode cX3_follows 17 = .ok (.iadd, 1) := by decide +kernel
theorem dX3_follows_18 : decode cX3_follows 18 = .ok (.iaload, 1) := by decide +kernel
theorem dX3_follows_19 : decode cX3_follows 19 = .ok (.istore 4, 2) := by decide +kernel
theorem dX3_follows_21 : decode cX3_follows 21 = .ok (.aload_n 0, 1) := by decide +kernel
theorem dX3_follows_22 : decode cX3_follows 22 = .ok (.getfield 13, 3) := by decide +kernel
theorem dX3_follows_25 : decode cX3_follows 25 = .ok (.iconst 3, 1) := by decide +kernel
theorem dX3_follows_26 : decode cX3_follows 26 = .ok (.iload_n 1, 1) := by decide +kernel
theorem dX3_follows_27 : decode cX3_follows 27 = .ok (.imul, 1) := by decide +kernel
theorem dX3_follows_28 : decode cX3_follows 28 = .ok (.iload_n 2, 1) := by decide +kernel
theorem dX3_follows_29 : decode cX3_follows 29 = .ok (.iastore, 1) := by decide +kernel
theorem dX3_follows_30 : decode cX3_follows 30 = .ok (.aload_n 0, 1) := by decide +kernel
theorem dX3_follows_31 : decode cX3_follows 31 = .ok (.getfield 13, 3) := by decide +kernel
theorem dX3_follows_34 : decode cX3_follows 34 = .ok (.iconst 3, 1) := by decide +kernel
theorem dX3_follows_35 : decode cX3_follows 35 = .ok (.iload_n 1, 1) := by decide +kernel
theorem dX3_follows_36 : decode cX3_follows 36 = .ok (.imul, 1) := by decide +kernel
theorem dX3_follows_37 : decode cX3_follows 37 = .ok (.iconst 1, 1) := by decide +kernel
theorem dX3_follows_38 : decode cX3_follows 38 = .ok (.iadd, 1) := by decide +kernel
theorem dX3_follows_39 : decode cX3_follows 39 = .ok (.iload_n 3, 1) := by decide +kernel
theorem dX3_follows_40 : decode cX3_follows 40 = .ok (.iastore, 1) := by decide +kernel
theorem dX3_follows_41 : decode cX3_follows 41 = .ok (.aload_n 0, 1) := by decide +kernel
theorem dX3_follows_42 : decode cX3_follows 42 = .ok (.getfield 13, 3) := by decide +kernel
theorem dX3_follows_45 : decode cX3_follows 45 = .ok (.iconst 3, 1) := by decide +kernel
theorem dX3_follows_46 : decode cX3_follows 46 = .ok (.iload_n 1, 1) := by decide +kernel
theorem dX3_follows_47 : decode cX3_follows 47 = .ok (.imul, 1) := by decide +kernel
theorem dX3_follows_48 : decode cX3_follows 48 = .ok (.iconst 2, 1) := by decide +kernel
theorem dX3_follows_49 : decode cX3_follows 49 = .ok (.iadd, 1) := by decide +kernel
theorem dX3_follows_50 : decode cX3_follows 50 = .ok (.iload 4, 2) := by decide +kernel
theorem dX3_follows_52 : decode cX3_follows 52 = .ok (.iastore, 1) := by decide +kernel
theorem dX3_follows_53 : decode cX3_follows 53 = .ok (.return_, 1) := by decide +kernel
set_option maxRecDepth 20000 in
theorem ggX3_create_X3_isId : GoodIn wsX3_create wsX3_isId := goodIn_r _ [5] (by decide +kernel) (by decide +kernel)
set_option maxRecDepth 20000 in
theorem gX3_create_X3_isId : GoodIn wsX3_create (va_wsS RX3 67 yX3_isId wsX3_isId) := goodIn_app (goodIn_of _ (by decide +kernel)) ggX3_create_X3_isId
set_option maxRecDepth 20000 in
theorem ggX3_create_X3_fails : GoodIn wsX3_create wsX3_fails := goodIn_r _ [9, 1, 23, 24, 25, 26, 27, 28, 29, 30, 31, 32, 33, 34, 35] (by decide +kernel) (by decide +kernel)
set_option maxRecDepth 20000 in
theorem gX3_create_X3_fails : GoodIn wsX3_create (wsV RX3 71 RX3 yX3_fails wsX3_fails) := goodIn_app (goodIn_of _ (by decide +kernel)) ggX3_create_X3_fails
set_option maxRecDepth 20000 in
theorem ggX3_create_X3_countLiving : GoodIn wsX3_create wsX3_countLiving := goodIn_r _ [13, 14, 23, 24, 25, 26, 27, 28, 29, 30, 31, 32, 33, 34, 35] (by decide +kernel) (by decide +kernel)
set_option maxRecDepth 20000 in
theorem gX3_create_X3_countLiving : GoodIn wsX3_create (wsV RX3 74 RX3 yX3_countLiving wsX3_countLiving) := goodIn_app (goodIn_of _ (by decide +kernel)) ggX3_create_X3_countLiving
set_option maxRecDepth 20000 in
theorem ggX3_create_X3_begins : GoodIn wsX3_create wsX3_begins := goodIn_r _ [18, 14, 19, 20, 21, 22, 23, 24, 25, 26, 27, 28, 29, 30, 31, 32, 33, 34, 35] (by decide +kernel) (by decide +kernel)
set_option maxRecDepth 20000 in
theorem gX3_create_X3_begins : GoodIn wsX3_create (wsV RX3 78 RX3 yX3_begins wsX3_begins) := goodIn_app (goodIn_of _ (by decide +kernel)) ggX3_create_X3_begins
theorem dX3_create_0 : decode cX3_create 0 = .ok (.aload_n 0, 1) := by decide +kernel
theorem dX3_create_1 : decode cX3_create 1 = .ok (.iconst 0, 1) := by decide +kernel
theorem dX3_create_2 : decode cX3_create 2 = .ok (.putfield 41, 3) := by decide +kernel
theorem dX3_create_5 : decode cX3_create 5 = .ok (.iload_n 1, 1) := by decide +kernel
theorem dX3_create_6 : decode cX3_create 6 = .ok (.invokestatic 67, 3) := by decide +kernel
theorem dX3_create_9 : decode cX3_create 9 = .ok (.ifCond .ne 9, 3) := by decide +kernel
theorem dX3_create_12 : decode cX3_create 12 = .ok (.aload_n 0, 1) := by decide +kernel
theorem dX3_create_13 : decode cX3_create 13 = .ok (.iconst 1, 1) := by decide +kernel
theorem dX3_create_14 : decode cX3_create 14 = .ok (.invokevirtual 71, 3) := by decide +kernel
theorem dX3_create_17 : decode cX3_create 17 = .ok (.ireturn, 1) := by decide +kernel
theorem dX3_create_18 : decode cX3_create 18 = .ok (.aload_n 0, 1) := by decide +kernel
theorem dX3_create_19 : decode cX3_create 19 = .ok (.invokevirtual 74, 3) := by decide +kernel
theorem dX3_create_22 : decode cX3_create 22 = .ok (.ifCond .le 9, 3) := by decide +kernel
theorem dX3_create_25 : decode cX3_create 25 = .ok (.aload_n 0, 1) := by decide +kernel
theorem dX3_create_26 : decode cX3_create 26 = .ok (.iconst 2, 1) := by decide +kernel
theorem dX3_create_27 : decode cX3_create 27 = .ok (.invokevirtual 71, 3) := by decide +kernel
theorem dX3_create_30 : decode cX3_create 30 = .ok (.ireturn, 1) := by decide +kernel
theorem dX3_create_31 : decode cX3_create 31 = .ok (.aload_n 0, 1) := by decide +kernel
theorem dX3_create_32 : decode cX3_create 32 = .ok (.iload_n 1, 1) := by decide +kernel
theorem dX3_create_33 : decode cX3_create 33 = .ok (.iload_n 1, 1) := by decide +kernel
theorem dX3_create_34 : decode cX3_create 34 = .ok (.iload_n 1, 1) := by decide +kernel
theorem dX3_create_35 : decode cX3_create 35 = .ok (.iload_n 1, 1) := by decide +kernel
theorem dX3_create_36 : decode cX3_create 36 = .ok (.invokevirtual 78, 3) := by decide +kernel
theorem dX3_create_39 : decode cX3_create 39 = .ok (.iconst 1, 1) := by decide +kernel
theorem dX3_create_40 : decode cX3_create 40 = .ok (.ireturn, 1) := by decide +kernel
set_option maxRecDepth 20000 in
theorem ggX3_join_X3_isId : GoodIn wsX3_join wsX3_isId := goodIn_r _ [7] (by decide +kernel) (by decide +kernel)
set_option maxRecDepth 20000 in
theorem gX3_join_X3_isId : GoodIn wsX3_join (va_wsS RX3 67 yX3_isId wsX3_isId) := goodIn_app (goodIn_of _ (by decide +kernel)) ggX3_join_X3_isId
set_option maxRecDepth 20000 in
theorem ggX3_join_X3_fails : GoodIn wsX3_join wsX3_fails := goodIn_r _ [11, 1, 42, 43, 44, 45, 46, 47, 48, 49, 50, 51, 52, 53, 54] (by decide +kernel) (by decide +kernel)
set_option maxRecDepth 20000 in
theorem gX3_join_X3_fails : GoodIn wsX3_join (wsV RX3 71 RX3 yX3_fails wsX3_fails) := goodIn_app (goodIn_of _ (by decide +kernel)) ggX3_join_X3_fails
set_option maxRecDepth 20000 in
theorem ggX3_join_X3_find : GoodIn wsX3_join wsX3_find := goodIn_r _ [15, 16, 17, 18, 19, 20, 6, 21, 2, 3, 22, 23, 24, 25, 26, 27, 28, 29, 30, 31, 32, 33, 34, 35, 42, 43, 44, 45, 46, 47, 48, 49, 50, 51, 52, 53, 54] (by decide +kernel) (by decide +kernel)
set_option maxRecDepth 20000 in
theorem gX3_join_X3_find : GoodIn wsX3_join (wsV RX3 82 RX3 yX3_find wsX3_find) := goodIn_app (goodIn_of _ (by decide +kernel)) ggX3_join_X3_find
set_option maxRecDepth 20000 in
theorem ggX3_join_X3_begins : GoodIn wsX3_join wsX3_begins := goodIn_r _ [39, 2, 3, 40, 32, 41, 42, 43, 44, 45, 46, 47, 48, 49, 50, 51, 52, 53, 54] (by decide +kernel) (by decide +kernel)
set_option maxRecDepth 20000 in
theorem gX3_join_X3_begins : GoodIn wsX3_join (wsV RX3 78 RX3 yX3_begins wsX3_begins) := goodIn_app (goodIn_of _ (by decide +kernel)) ggX3_join_X3_begins
theorem dX3_join_0 : decode cX3_join 0 = .ok (.aload_n 0, 1) := by decide +kernel
theorem dX3_join_1 : decode cX3_join 1 = .ok (.iconst 0, 1) := by decide +kernel
theorem dX3_join_2 : decode cX3_join 2 = .ok (.putfield 41, 3) := by decide +kernel
theorem dX3_join_5 : decode cX3_join 5 = .ok (.iload_n 1, 1) := by decide +kernel
theorem dX3_join_6 : decode cX3_join 6 = .ok (.invokestatic 67, 3) := by decide +kernel
theorem dX3_join_9 : decode cX3_join 9 = .ok (.ifCond .eq 10, 3) := by decide +kernel
theorem dX3_join_12 : decode cX3_join 12 = .ok (.iload_n 2, 1) := by decide +kernel
theorem dX3_join_13 : decode cX3_join 13 = .ok (.invokestatic 67, 3) := by decide +kernel
theorem dX3_join_16 : decode cX3_join 16 = .ok (.ifCond .ne 9, 3) := by decide +kernel
theorem dX3_join_19 : decode cX3_join 19 = .ok (.aload_n 0, 1) := by decide +kernel
theorem dX3_join_20 : decode cX3_join 20 = .ok (.iconst 1, 1) := by decide +kernel
theorem dX3_join_21 : decode cX3_join 21 = .ok (.invokevirtual 71, 3) := by decide +kernel
theorem dX3_join_24 : decode cX3_join 24 = .ok (.ireturn, 1) := by decide +kernel
theorem dX3_join_25 : decode cX3_join 25 = .ok (.aload_n 0, 1) := by decide +kernel
theorem dX3_join_26 : decode cX3_join 26 = .ok (.getfield 7, 3) := by decide +kernel
theorem dX3_join_29 : decode cX3_join 29 = .ok (.iload_n 1, 1) := by decide +kernel
theorem dX3_join_30 : decode cX3_join 30 = .ok (.baload, 1) := by decide +kernel
theorem dX3_join_31 : decode cX3_join 31 = .ok (.ifCond .ne 12, 3) := by decide +kernel
theorem dX3_join_34 : decode cX3_join 34 = .ok (.aload_n 0, 1) := by decide +kernel
theorem dX3_join_35 : decode cX3_join 35 = .ok (.getfield 7, 3) := by decide +kernel
theorem dX3_join_38 : decode cX3_join 38 = .ok (.iload_n 2, 1) := by decide +kernel
theorem dX3_join_39 : decode cX3_join 39 = .ok (.baload, 1) := by decide +kernel
theorem dX3_join_40 : decode cX3_join 40 = .ok (.ifCond .ne 7, 3) := by decide +kernel
theorem dX3_join_43 : decode cX3_join 43 = .ok (.iconst (-1), 1) := by decide +kernel
theorem dX3_join_44 : decode cX3_join 44 = .ok (.goto 9, 3) := by decide +kernel
theorem dX3_join_47 : decode cX3_join 47 = .ok (.aload_n 0, 1) := by decide +kernel
theorem dX3_join_48 : decode cX3_join 48 = .ok (.iload_n 2, 1) := by decide +kernel
theorem dX3_join_49 : decode cX3_join 49 = .ok (.iload_n 1, 1) := by decide +kernel
theorem dX3_join_50 : decode cX3_join 50 = .ok (.invokevirtual 82, 3) := by decide +kernel
theorem dX3_join_53 : decode cX3_join 53 = .ok (.istore_n 3, 1) := by decide +kernel
theorem dX3_join_54 : decode cX3_join 54 = .ok (.iload_n 3, 1) := by decide +kernel
theorem dX3_join_55 : decode cX3_join 55 = .ok (.iconst (-1), 1) := by decide +kernel
theorem dX3_join_56 : decode cX3_join 56 = .ok (.if_icmp .ne 9, 3) := by decide +kernel
theorem dX3_join_59 : decode cX3_join 59 = .ok (.aload_n 0, 1) := by decide +kernel
theorem dX3_join_60 : decode cX3_join 60 = .ok (.iconst 2, 1) := by decide +kernel
theorem dX3_join_61 : decode cX3_join 61 = .ok (.invokevirtual 71, 3) := by decide +kernel
theorem dX3_join_64 : decode cX3_join 64 = .ok (.ireturn, 1) := by decide +kernel
theorem dX3_join_65 : decode cX3_join 65 = .ok (.aload_n 0, 1) := by decide +kernel
theorem dX3_join_66 : decode cX3_join 66 = .ok (.iload_n 1, 1) := by decide +kernel
theorem dX3_join_67 : decode cX3_join 67 = .ok (.iload_n 3, 1) := by decide +kernel
theorem dX3_join_68 : decode cX3_join 68 = .ok (.aload_n 0, 1) := by decide +kernel
theorem dX3_join_69 : decode cX3_join 69 = .ok (.getfield 13, 3) := by decide +kernel
theorem dX3_join_72 : decode cX3_join 72 = .ok (.iconst 3, 1) := by decide +kernel
theorem dX3_join_73 : decode cX3_join 73 = .ok (.iload_n 3, 1) := by decide +kernel
theorem dX3_join_74 : decode cX3_join 74 = .ok (.imul, 1) := by decide +kernel
theorem dX3_join_75 : decode cX3_join 75 = .ok (.iaload, 1) := by decide +kernel
theorem dX3_join_76 : decode cX3_join 76 = .ok (.aload_n 0, 1) := by decide +kernel
theorem dX3_join_77 : decode cX3_join 77 = .ok (.getfield 13, 3) := by decide +kernel
theorem dX3_join_80 : decode cX3_join 80 = .ok (.iconst 3, 1) := by decide +kernel
theorem dX3_join_81 : decode cX3_join 81 = .ok (.iload_n 3, 1) := by decide +kernel
theorem dX3_join_82 : decode cX3_join 82 = .ok (.imul, 1) := by decide +kernel
theorem dX3_join_83 : decode cX3_join 83 = .ok (.iconst 1, 1) := by decide +kernel
theorem dX3_join_84 : decode cX3_join 84 = .ok (.iadd, 1) := by decide +kernel
theorem dX3_join_85 : decode cX3_join 85 = .ok (.iaload, 1) := by decide +kernel
theorem dX3_join_86 : decode cX3_join 86 = .ok (.invokevirtual 78, 3) := by decide +kernel
theorem dX3_join_89 : decode cX3_join 89 = .ok (.iload_n 3, 1) := by decide +kernel
theorem dX3_join_90 : decode cX3_join 90 = .ok (.ireturn, 1) := by decide +kernel
set_option maxRecDepth 20000 in
theorem ggX3_refuses_X3_isId : GoodIn wsX3_refuses wsX3_isId := goodIn_r _ [5] (by decide +kernel) (by decide +kernel)
set_option maxRecDepth 20000 in
theorem gX3_refuses_X3_isId : GoodIn wsX3_refuses (va_wsS RX3 67 yX3_isId wsX3_isId) := goodIn_app (goodIn_of _ (by decide +kernel)) ggX3_refuses_X3_isId
theorem dX3_refuses_0 : decode cX3_refuses 0 = .ok (.iload_n 1, 1) := by decide +kernel
theorem dX3_refuses_1 : decode cX3_refuses 1 = .ok (.invokestatic 67, 3) := by decide +kernel
theorem dX3_refuses_4 : decode cX3_refuses 4 = .ok (.ifCond .ne 7, 3) := by decide +kernel
theorem dX3_refuses_7 : decode cX3_refuses 7 = .ok (.iconst 1, 1) := by decide +kernel
theorem dX3_refuses_8 : decode cX3_refuses 8 = .ok (.goto 17, 3) := by decide +kernel
theorem dX3_refuses_11 : decode cX3_refuses 11 = .ok (.aload_n 0, 1) := by decide +kernel
theorem dX3_refuses_12 : decode cX3_refuses 12 = .ok (.getfield 7, 3) := by decide +kernel
theorem dX3_refuses_15 : decode cX3_refuses 15 = .ok (.iload_n 1, 1) := by decide +kernel
theorem dX3_refuses_16 : decode cX3_refuses 16 = .ok (.baload, 1) := by decide +kernel
theorem dX3_refuses_17 : decode cX3_refuses 17 = .ok (.ifCond .eq 7, 3) := by decide +kernel
theorem dX3_refuses_20 : decode cX3_refuses 20 = .ok (.iconst 0, 1) := by decide +kernel
theorem dX3_refuses_21 : decode cX3_refuses 21 = .ok (.goto 4, 3) := by decide +kernel
theorem dX3_refuses_24 : decode cX3_refuses 24 = .ok (.iconst 2, 1) := by decide +kernel
theorem dX3_refuses_25 : decode cX3_refuses 25 = .ok (.ireturn, 1) := by decide +kernel
set_option maxRecDepth 20000 in
theorem ggX3_fail_X3_refuses : GoodIn wsX3_fail wsX3_refuses := goodIn_r _ [7, 2, 8, 9, 6, 10, 15, 16, 17, 18, 19, 20, 21, 22, 23, 24, 25, 26, 27] (by decide +kernel) (by decide +kernel)
set_option maxRecDepth 20000 in
theorem gX3_fail_X3_refuses : GoodIn wsX3_fail (wsV RX3 85 RX3 yX3_refuses wsX3_refuses) := goodIn_app (goodIn_of _ (by decide +kernel)) ggX3_fail_X3_refuses
set_option maxRecDepth 20000 in
theorem ggX3_fail_X3_countLiving : GoodIn wsX3_fail wsX3_countLiving := goodIn_r _ [14, 2, 15, 16, 17, 18, 19, 20, 21, 22, 23, 24, 25, 26, 27] (by decide +kernel) (by decide +kernel)
set_option maxRecDepth 20000 in
theorem gX3_fail_X3_countLiving : GoodIn wsX3_fail (wsV RX3 74 RX3 yX3_countLiving wsX3_countLiving) := goodIn_app (goodIn_of _ (by decide +kernel)) ggX3_fail_X3_countLiving
theorem dX3_fail_0 : decode cX3_fail 0 = .ok (.aload_n 0, 1) := by decide +kernel
theorem dX3_fail_1 : decode cX3_fail 1 = .ok (.aload_n 0, 1) := by decide +kernel
theorem dX3_fail_2 : decode cX3_fail 2 = .ok (.iload_n 1, 1) := by decide +kernel
theorem dX3_fail_3 : decode cX3_fail 3 = .ok (.invokevirtual 85, 3) := by decide +kernel
theorem dX3_fail_6 : decode cX3_fail 6 = .ok (.putfield 41, 3) := by decide +kernel
theorem dX3_fail_9 : decode cX3_fail 9 = .ok (.aload_n 0, 1) := by decide +kernel
theorem dX3_fail_10 : decode cX3_fail 10 = .ok (.getfield 41, 3) := by decide +kernel
theorem dX3_fail_13 : decode cX3_fail 13 = .ok (.ifCond .le 5, 3) := by decide +kernel
theorem dX3_fail_16 : decode cX3_fail 16 = .ok (.iconst 0, 1) := by decide +kernel
theorem dX3_fail_17 : decode cX3_fail 17 = .ok (.ireturn, 1) := by decide +kernel
theorem dX3_fail_18 : decode cX3_fail 18 = .ok (.aload_n 0, 1) := by decide +kernel
theorem dX3_fail_19 : decode cX3_fail 19 = .ok (.getfield 7, 3) := by decide +kernel
theorem dX3_fail_22 : decode cX3_fail 22 = .ok (.iload_n 1, 1) := by decide +kernel
theorem dX3_fail_23 : decode cX3_fail 23 = .ok (.iconst 0, 1) := by decide +kernel
theorem dX3_fail_24 : decode cX3_fail 24 = .ok (.bastore, 1) := by decide +kernel
theorem dX3_fail_25 : decode cX3_fail 25 = .ok (.aload_n 0, 1) := by decide +kernel
theorem dX3_fail_26 : decode cX3_fail 26 = .ok (.invokevirtual 74, 3) := by decide +kernel
theorem dX3_fail_29 : decode cX3_fail 29 = .ok (.ireturn, 1) := by decide +kernel
theorem dX3_copy_0 : decode cX3_copy 0 = .ok (.aload_n 0, 1) := by decide +kernel
theorem dX3_copy_1 : decode cX3_copy 1 = .ok (.getfield 26, 3) := by decide +kernel
theorem dX3_copy_4 : decode cX3_copy 4 = .ok (.bipush 64, 2) := by decide +kernel
theorem dX3_copy_6 : decode cX3_copy 6 = .ok (.iload_n 3, 1) := by decide +kernel
theorem dX3_copy_7 : decode cX3_copy 7 = .ok (.imul, 1) := by decide +kernel
theorem dX3_copy_8 : decode cX3_copy 8 = .ok (.iload_n 2, 1) := by decide +kernel
theorem dX3_copy_9 : decode cX3_copy 9 = .ok (.iadd, 1) := by decide +kernel
theorem dX3_copy_10 : decode cX3_copy 10 = .ok (.iaload, 1) := by decide +kernel
theorem dX3_copy_11 : decode cX3_copy 11 = .ok (.aload_n 0, 1) := by decide +kernel
theorem dX3_copy_12 : decode cX3_copy 12 = .ok (.getfield 26, 3) := by decide +kernel
theorem dX3_copy_15 : decode cX3_copy 15 = .ok (.bipush 64, 2) := by decide +kernel
theorem dX3_copy_17 : decode cX3_copy 17 = .ok (.iload_n 1, 1) := by decide +kernel
theorem dX3_copy_18 : decode cX3_copy 18 = .ok (.imul, 1) := by decide +kernel
theorem dX3_copy_19 : decode cX3_copy 19 = .ok (.iload_n 2, 1) := by decide +kernel
theorem dX3_copy_20 : decode cX3_copy 20 = .ok (.iadd, 1) := by decide +kernel
theorem dX3_copy_21 : decode cX3_copy 21 = .ok (.iaload, 1) := by decide +kernel
theorem dX3_copy_22 : decode cX3_copy 22 = .ok (.if_icmp .lt 5, 3) := by decide +kernel
theorem dX3_copy_25 : decode cX3_copy 25 = .ok (.iconst 0, 1) := by decide +kernel
theorem dX3_copy_26 : decode cX3_copy 26 = .ok (.ireturn, 1) := by decide +kernel
theorem dX3_copy_27 : decode cX3_copy 27 = .ok (.aload_n 0, 1) := by decide +kernel
theorem dX3_copy_28 : decode cX3_copy 28 = .ok (.getfield 26, 3) := by decide +kernel
theorem dX3_copy_31 : decode cX3_copy 31 = .ok (.bipush 64, 2) := by decide +kernel
theorem dX3_copy_33 : decode cX3_copy 33 = .ok (.iload_n 3, 1) := by decide +kernel
theorem dX3_copy_34 : decode cX3_copy 34 = .ok (.imul, 1) := by decide +kernel
theorem dX3_copy_35 : decode cX3_copy 35 = .ok (.iload_n 2, 1) := by decide +kernel
theorem dX3_copy_36 : decode cX3_copy 36 = .ok (.iadd, 1) := by decide +kernel
theorem dX3_copy_37 : decode cX3_copy 37 = .ok (.aload_n 0, 1) := by decide +kernel
theorem dX3_copy_38 : decode cX3_copy 38 = .ok (.getfield 26, 3) := by decide +kernel
theorem dX3_copy_41 : decode cX3_copy 41 = .ok (.bipush 64, 2) := by decide +kernel
theorem dX3_copy_43 : decode cX3_copy 43 = .ok (.iload_n 1, 1) := by decide +kernel
theorem dX3_copy_44 : decode cX3_copy 44 = .ok (.imul, 1) := by decide +kernel
theorem dX3_copy_45 : decode cX3_copy 45 = .ok (.iload_n 2, 1) := by decide +kernel
theorem dX3_copy_46 : decode cX3_copy 46 = .ok (.iadd, 1) := by decide +kernel
theorem dX3_copy_47 : decode cX3_copy 47 = .ok (.iaload, 1) := by decide +kernel
theorem dX3_copy_48 : decode cX3_copy 48 = .ok (.iastore, 1) := by decide +kernel
theorem dX3_copy_49 : decode cX3_copy 49 = .ok (.aload_n 0, 1) := by decide +kernel
theorem dX3_copy_50 : decode cX3_copy 50 = .ok (.getfield 23, 3) := by decide +kernel
theorem dX3_copy_53 : decode cX3_copy 53 = .ok (.bipush 64, 2) := by decide +kernel
theorem dX3_copy_55 : decode cX3_copy 55 = .ok (.iload_n 3, 1) := by decide +kernel
theorem dX3_copy_56 : decode cX3_copy 56 = .ok (.imul, 1) := by decide +kernel
theorem dX3_copy_57 : decode cX3_copy 57 = .ok (.iload_n 2, 1) := by decide +kernel
theorem dX3_copy_58 : decode cX3_copy 58 = .ok (.iadd, 1) := by decide +kernel
theorem dX3_copy_59 : decode cX3_copy 59 = .ok (.aload_n 0, 1) := by decide +kernel
theorem dX3_copy_60 : decode cX3_copy 60 = .ok (.getfield 23, 3) := by decide +kernel
theorem dX3_copy_63 : decode cX3_copy 63 = .ok (.bipush 64, 2) := by decide +kernel
theorem dX3_copy_65 : decode cX3_copy 65 = .ok (.iload_n 1, 1) := by decide +kernel
theorem dX3_copy_66 : decode cX3_copy 66 = .ok (.imul, 1) := by decide +kernel
theorem dX3_copy_67 : decode cX3_copy 67 = .ok (.iload_n 2, 1) := by decide +kernel
theorem dX3_copy_68 : decode cX3_copy 68 = .ok (.iadd, 1) := by decide +kernel
theorem dX3_copy_69 : decode cX3_copy 69 = .ok (.iaload, 1) := by decide +kernel
theorem dX3_copy_70 : decode cX3_copy 70 = .ok (.iastore, 1) := by decide +kernel
theorem dX3_copy_71 : decode cX3_copy 71 = .ok (.iconst 1, 1) := by decide +kernel
theorem dX3_copy_72 : decode cX3_copy 72 = .ok (.ireturn, 1) := by decide +kernel
set_option maxRecDepth 20000 in
theorem ggX3_leave_X3_refuses : GoodIn wsX3_leave wsX3_refuses := goodIn_r _ [8, 3, 9, 10, 7, 11, 31, 32, 33, 34, 35, 36, 37, 38, 39, 40, 41, 42, 43] (by decide +kernel) (by decide +kernel)
set_option maxRecDepth 20000 in
theorem gX3_leave_X3_refuses : GoodIn wsX3_leave (wsV RX3 85 RX3 yX3_refuses wsX3_refuses) := goodIn_app (goodIn_of _ (by decide +kernel)) ggX3_leave_X3_refuses
set_option maxRecDepth 20000 in
theorem ggX3_leave_X3_liveSuccessorOf : GoodIn wsX3_leave wsX3_liveSuccessorOf := goodIn_r _ [15, 3, 16, 31, 32, 33, 34, 35, 36, 37, 38, 39, 40, 41, 42, 43] (by decide +kernel) (by decide +kernel)
set_option maxRecDepth 20000 in
theorem gX3_leave_X3_liveSuccessorOf : GoodIn wsX3_leave (wsV RX3 56 RX3 yX3_liveSuccessorOf wsX3_liveSuccessorOf) := goodIn_app (goodIn_of _ (by decide +kernel)) ggX3_leave_X3_liveSuccessorOf
set_option maxRecDepth 20000 in
theorem ggX3_leave_X3_copy : GoodIn wsX3_leave wsX3_copy := goodIn_r _ [20, 21, 22, 31, 32, 33, 34, 35, 36, 37, 38, 39, 40, 41, 42, 43] (by decide +kernel) (by decide +kernel)
set_option maxRecDepth 20000 in
theorem gX3_leave_X3_copy : GoodIn wsX3_leave (wsV RX3 88 RX3 yX3_copy wsX3_copy) := goodIn_app (goodIn_of _ (by decide +kernel)) ggX3_leave_X3_copy
set_option maxRecDepth 20000 in
theorem ggX3_leave_X3_follows : GoodIn wsX3_leave wsX3_follows := goodIn_r _ [26, 16, 31, 32, 33, 34, 35, 36, 37, 38, 39, 40, 41, 42, 43] (by decide +kernel) (by decide +kernel)
set_option maxRecDepth 20000 in
theorem gX3_leave_X3_follows : GoodIn wsX3_leave (wsV RX3 91 RX3 yX3_follows wsX3_follows) := goodIn_app (goodIn_of _ (by decide +kernel)) ggX3_leave_X3_follows
set_option maxRecDepth 20000 in
theorem ggX3_leave_X3_countLiving : GoodIn wsX3_leave wsX3_countLiving := goodIn_r _ [30, 3, 31, 32, 33, 34, 35, 36, 37, 38, 39, 40, 41, 42, 43] (by decide +kernel) (by decide +kernel)
set_option maxRecDepth 20000 in
theorem gX3_leave_X3_countLiving : GoodIn wsX3_leave (wsV RX3 74 RX3 yX3_countLiving wsX3_countLiving) := goodIn_app (goodIn_of _ (by decide +kernel)) ggX3_leave_X3_countLiving
theorem dX3_leave_0 : decode cX3_leave 0 = .ok (.aload_n 0, 1) := by decide +kernel
theorem dX3_leave_1 : decode cX3_leave 1 = .ok (.aload_n 0, 1) := by decide +kernel
theorem dX3_leave_2 : decode cX3_leave 2 = .ok (.iload_n 1, 1) := by decide +kernel
theorem dX3_leave_3 : decode cX3_leave 3 = .ok (.invokevirtual 85, 3) := by decide +kernel
theorem dX3_leave_6 : decode cX3_leave 6 = .ok (.putfield 41, 3) := by decide +kernel
theorem dX3_leave_9 : decode cX3_leave 9 = .ok (.aload_n 0, 1) := by decide +kernel
theorem dX3_leave_10 : decode cX3_leave 10 = .ok (.getfield 41, 3) := by decide +kernel
theorem dX3_leave_13 : decode cX3_leave 13 = .ok (.ifCond .le 5, 3) := by decide +kernel
theorem dX3_leave_16 : decode cX3_leave 16 = .ok (.iconst 0, 1) := by decide +kernel
theorem dX3_leave_17 : decode cX3_leave 17 = .ok (.ireturn, 1) := by decide +kernel
theorem dX3_leave_18 : decode cX3_leave 18 = .ok (.aload_n 0, 1) := by decide +kernel
theorem dX3_leave_19 : decode cX3_leave 19 = .ok (.iload_n 1, 1) := by decide +kernel
theorem dX3_leave_20 : decode cX3_leave 20 = .ok (.invokevirtual 56, 3) := by decide +kernel
theorem dX3_leave_23 : decode cX3_leave 23 = .ok (.istore_n 2, 1) := by decide +kernel
theorem dX3_leave_24 : decode cX3_leave 24 = .ok (.iload_n 2, 1) := by decide +kernel
theorem dX3_leave_25 : decode cX3_leave 25 = .ok (.iload_n 1, 1) := by decide +kernel
theorem dX3_leave_26 : decode cX3_leave 26 = .ok (.if_icmp .eq 65, 3) := by decide +kernel
theorem dX3_leave_29 : decode cX3_leave 29 = .ok (.iconst 0, 1) := by decide +kernel
theorem dX3_leave_30 : decode cX3_leave 30 = .ok (.istore_n 3, 1) := by decide +kernel
theorem dX3_leave_31 : decode cX3_leave 31 = .ok (.iload_n 3, 1) := by decide +kernel
theorem dX3_leave_32 : decode cX3_leave 32 = .ok (.bipush 64, 2) := by decide +kernel
theorem dX3_leave_34 : decode cX3_leave 34 = .ok (.if_icmp .ge 18, 3) := by decide +kernel
theorem dX3_leave_37 : decode cX3_leave 37 = .ok (.aload_n 0, 1) := by decide +kernel
theorem dX3_leave_38 : decode cX3_leave 38 = .ok (.iload_n 1, 1) := by decide +kernel
theorem dX3_leave_39 : decode cX3_leave 39 = .ok (.iload_n 3, 1) := by decide +kernel
theorem dX3_leave_40 : decode cX3_leave 40 = .ok (.iload_n 2, 1) := by decide +kernel
theorem dX3_leave_41 : decode cX3_leave 41 = .ok (.invokevirtual 88, 3) := by decide +kernel
theorem dX3_leave_44 : decode cX3_leave 44 = .ok (.istore 4, 2) := by decide +kernel
theorem dX3_leave_46 : decode cX3_leave 46 = .ok (.iinc 3 1, 3) := by decide +kernel
theorem dX3_leave_49 : decode cX3_leave 49 = .ok (.goto (-18), 3) := by decide +kernel
theorem dX3_leave_52 : decode cX3_leave 52 = .ok (.aload_n 0, 1) := by decide +kernel
theorem dX3_leave_53 : decode cX3_leave 53 = .ok (.getfield 17, 3) := by decide +kernel
theorem dX3_leave_56 : decode cX3_leave 56 = .ok (.iload_n 1, 1) := by decide +kernel
theorem dX3_leave_57 : decode cX3_leave 57 = .ok (.iaload, 1) := by decide +kernel
theorem dX3_leave_58 : decode cX3_leave 58 = .ok (.istore_n 3, 1) := by decide +kernel
theorem dX3_leave_59 : decode cX3_leave 59 = .ok (.aload_n 0, 1) := by decide +kernel
theorem dX3_leave_60 : decode cX3_leave 60 = .ok (.getfield 17, 3) := by decide +kernel
theorem dX3_leave_63 : decode cX3_leave 63 = .ok (.iload_n 2, 1) := by decide +kernel
theorem dX3_leave_64 : decode cX3_leave 64 = .ok (.iload_n 3, 1) := by decide +kernel
theorem dX3_leave_65 : decode cX3_leave 65 = .ok (.iastore, 1) := by decide +kernel
theorem dX3_leave_66 : decode cX3_leave 66 = .ok (.iload_n 3, 1) := by decide +kernel
theorem dX3_leave_67 : decode cX3_leave 67 = .ok (.iconst (-1), 1) := by decide +kernel
theorem dX3_leave_68 : decode cX3_leave 68 = .ok (.if_icmp .eq 23, 3) := by decide +kernel
theorem dX3_leave_71 : decode cX3_leave 71 = .ok (.aload_n 0, 1) := by decide +kernel
theorem dX3_leave_72 : decode cX3_leave 72 = .ok (.getfield 7, 3) := by decide +kernel
theorem dX3_leave_75 : decode cX3_leave 75 = .ok (.iload_n 3, 1) := by decide +kernel
theorem dX3_leave_76 : decode cX3_leave 76 = .ok (.baload, 1) := by decide +kernel
theorem dX3_leave_77 : decode cX3_leave 77 = .ok (.ifCond .eq 14, 3) := by decide +kernel
theorem dX3_leave_80 : decode cX3_leave 80 = .ok (.iload_n 3, 1) := by decide +kernel
theorem dX3_leave_81 : decode cX3_leave 81 = .ok (.iload_n 1, 1) := by decide +kernel
theorem dX3_leave_82 : decode cX3_leave 82 = .ok (.if_icmp .eq 9, 3) := by decide +kernel
theorem dX3_leave_85 : decode cX3_leave 85 = .ok (.aload_n 0, 1) := by decide +kernel
theorem dX3_leave_86 : decode cX3_leave 86 = .ok (.iload_n 3, 1) := by decide +kernel
theorem dX3_leave_87 : decode cX3_leave 87 = .ok (.iload_n 2, 1) := by decide +kernel
theorem dX3_leave_88 : decode cX3_leave 88 = .ok (.invokevirtual 91, 3) := by decide +kernel
theorem dX3_leave_91 : decode cX3_leave 91 = .ok (.aload_n 0, 1) := by decide +kernel
theorem dX3_leave_92 : decode cX3_leave 92 = .ok (.getfield 7, 3) := by decide +kernel
theorem dX3_leave_95 : decode cX3_leave 95 = .ok (.iload_n 1, 1) := by decide +kernel
theorem dX3_leave_96 : decode cX3_leave 96 = .ok (.iconst 0, 1) := by decide +kernel
theorem dX3_leave_97 : decode cX3_leave 97 = .ok (.bastore, 1) := by decide +kernel
theorem dX3_leave_98 : decode cX3_leave 98 = .ok (.aload_n 0, 1) := by decide +kernel
theorem dX3_leave_99 : decode cX3_leave 99 = .ok (.invokevirtual 74, 3) := by decide +kernel
theorem dX3_leave_102 : decode cX3_leave 102 = .ok (.ireturn, 1) := by decide +kernel
set_option maxRecDepth 20000 in
theorem ggX3_living_X3_countLiving : GoodIn wsX3_living wsX3_countLiving := goodIn_r _ [6, 7, 8, 9, 10, 11, 12, 13, 14, 15, 16, 17, 18, 19, 20] (by decide +kernel) (by decide +kernel)
set_option maxRecDepth 20000 in
theorem gX3_living_X3_countLiving : GoodIn wsX3_living (wsV RX3 74 RX3 yX3_countLiving wsX3_countLiving) := goodIn_app (goodIn_of _ (by decide +kernel)) ggX3_living_X3_countLiving
theorem dX3_living_0 : decode cX3_living 0 = .ok (.aload_n 0, 1) := by decide +kernel
theorem dX3_living_1 : decode cX3_living 1 = .ok (.iconst 0, 1) := by decide +kernel
theorem dX3_living_2 : decode cX3_living 2 = .ok (.putfield 41, 3) := by decide +kernel
theorem dX3_living_5 : decode cX3_living 5 = .ok (.aload_n 0, 1) := by decide +kernel
theorem dX3_living_6 : decode cX3_living 6 = .ok (.invokevirtual 74, 3) := by decide +kernel
theorem dX3_living_9 : decode cX3_living 9 = .ok (.ireturn, 1) := by decide +kernel
set_option maxRecDepth 20000 in
theorem ggX3_isLiving_X3_isId : GoodIn wsX3_isLiving wsX3_isId := goodIn_r _ [6] (by decide +kernel) (by decide +kernel)
set_option maxRecDepth 20000 in
theorem gX3_isLiving_X3_isId : GoodIn wsX3_isLiving (va_wsS RX3 67 yX3_isId wsX3_isId) := goodIn_app (goodIn_of _ (by decide +kernel)) ggX3_isLiving_X3_isId
theorem dX3_isLiving_0 : decode cX3_isLiving 0 = .ok (.aload_n 0, 1) := by decide +kernel
theorem dX3_isLiving_1 : decode cX3_isLiving 1 = .ok (.iload_n 1, 1) := by decide +kernel
theorem dX3_isLiving_2 : decode cX3_isLiving 2 = .ok (.invokestatic 67, 3) := by decide +kernel
theorem dX3_isLiving_5 : decode cX3_isLiving 5 = .ok (.ifCond .eq 7, 3) := by decide +kernel
theorem dX3_isLiving_8 : decode cX3_isLiving 8 = .ok (.iconst 0, 1) := by decide +kernel
theorem dX3_isLiving_9 : decode cX3_isLiving 9 = .ok (.goto 4, 3) := by decide +kernel
theorem dX3_isLiving_12 : decode cX3_isLiving 12 = .ok (.iconst 1, 1) := by decide +kernel
theorem dX3_isLiving_13 : decode cX3_isLiving 13 = .ok (.putfield 41, 3) := by decide +kernel
theorem dX3_isLiving_16 : decode cX3_isLiving 16 = .ok (.aload_n 0, 1) := by decide +kernel
theorem dX3_isLiving_17 : decode cX3_isLiving 17 = .ok (.getfield 41, 3) := by decide +kernel
theorem dX3_isLiving_20 : decode cX3_isLiving 20 = .ok (.ifCond .ne 16, 3) := by decide +kernel
theorem dX3_isLiving_23 : decode cX3_isLiving 23 = .ok (.aload_n 0, 1) := by decide +kernel
theorem dX3_isLiving_24 : decode cX3_isLiving 24 = .ok (.getfield 7, 3) := by decide +kernel
theorem dX3_isLiving_27 : decode cX3_isLiving 27 = .ok (.iload_n 1, 1) := by decide +kernel
theorem dX3_isLiving_28 : decode cX3_isLiving 28 = .ok (.baload, 1) := by decide +kernel
theorem dX3_isLiving_29 : decode cX3_isLiving 29 = .ok (.ifCond .eq 7, 3) := by decide +kernel
theorem dX3_isLiving_32 : decode cX3_isLiving 32 = .ok (.iconst 1, 1) := by decide +kernel
theorem dX3_isLiving_33 : decode cX3_isLiving 33 = .ok (.goto 4, 3) := by decide +kernel
theorem dX3_isLiving_36 : decode cX3_isLiving 36 = .ok (.iconst 0, 1) := by decide +kernel
theorem dX3_isLiving_37 : decode cX3_isLiving 37 = .ok (.ireturn, 1) := by decide +kernel
set_option maxRecDepth 20000 in
theorem ggX3_successor_X3_isId : GoodIn wsX3_successor wsX3_isId := goodIn_r _ [6] (by decide +kernel) (by decide +kernel)
set_option maxRecDepth 20000 in
theorem gX3_successor_X3_isId : GoodIn wsX3_successor (va_wsS RX3 67 yX3_isId wsX3_isId) := goodIn_app (goodIn_of _ (by decide +kernel)) ggX3_successor_X3_isId
set_option maxRecDepth 20000 in
theorem ggX3_successor_X3_refuses : GoodIn wsX3_successor wsX3_refuses := goodIn_r _ [10, 11, 3, 4, 5, 6, 12, 13, 14, 15, 16, 17, 18, 19, 20, 21, 22, 23, 24] (by decide +kernel) (by decide +kernel)
set_option maxRecDepth 20000 in
theorem gX3_successor_X3_refuses : GoodIn wsX3_successor (wsV RX3 85 RX3 yX3_refuses wsX3_refuses) := goodIn_app (goodIn_of _ (by decide +kernel)) ggX3_successor_X3_refuses
theorem dX3_successor_0 : decode cX3_successor 0 = .ok (.aload_n 0, 1) := by decide +kernel
theorem dX3_successor_1 : decode cX3_successor 1 = .ok (.iload_n 1, 1) := by decide +kernel
theorem dX3_successor_2 : decode cX3_successor 2 = .ok (.invokestatic 67, 3) := by decide +kernel
theorem dX3_successor_5 : decode cX3_successor 5 = .ok (.ifCond .eq 20, 3) := by decide +kernel
theorem dX3_successor_8 : decode cX3_successor 8 = .ok (.iload_n 2, 1) := by decide +kernel
theorem dX3_successor_9 : decode cX3_successor 9 = .ok (.ifCond .lt 16, 3) := by decide +kernel
theorem dX3_successor_12 : decode cX3_successor 12 = .ok (.iload_n 2, 1) := by decide +kernel
theorem dX3_successor_13 : decode cX3_successor 13 = .ok (.iconst 3, 1) := by decide +kernel
theorem dX3_successor_14 : decode cX3_successor 14 = .ok (.if_icmp .ge 11, 3) := by decide +kernel
theorem dX3_successor_17 : decode cX3_successor 17 = .ok (.aload_n 0, 1) := by decide +kernel
theorem dX3_successor_18 : decode cX3_successor 18 = .ok (.iload_n 1, 1) := by decide +kernel
theorem dX3_successor_19 : decode cX3_successor 19 = .ok (.invokevirtual 85, 3) := by decide +kernel
theorem dX3_successor_22 : decode cX3_successor 22 = .ok (.goto 4, 3) := by decide +kernel
theorem dX3_successor_25 : decode cX3_successor 25 = .ok (.iconst 1, 1) := by decide +kernel
theorem dX3_successor_26 : decode cX3_successor 26 = .ok (.putfield 41, 3) := by decide +kernel
theorem dX3_successor_29 : decode cX3_successor 29 = .ok (.aload_n 0, 1) := by decide +kernel
theorem dX3_successor_30 : decode cX3_successor 30 = .ok (.getfield 41, 3) := by decide +kernel
theorem dX3_successor_33 : decode cX3_successor 33 = .ok (.ifCond .ne 16, 3) := by decide +kernel
theorem dX3_successor_36 : decode cX3_successor 36 = .ok (.aload_n 0, 1) := by decide +kernel
theorem dX3_successor_37 : decode cX3_successor 37 = .ok (.getfield 13, 3) := by decide +kernel
theorem dX3_successor_40 : decode cX3_successor 40 = .ok (.iconst 3, 1) := by decide +kernel
theorem dX3_successor_41 : decode cX3_successor 41 = .ok (.iload_n 1, 1) := by decide +kernel
theorem dX3_successor_42 : decode cX3_successor 42 = .ok (.imul, 1) := by decide +kernel
theorem dX3_successor_43 : decode cX3_successor 43 = .ok (.iload_n 2, 1) := by decide +kernel
theorem dX3_successor_44 : decode cX3_successor 44 = .ok (.iadd, 1) := by decide +kernel
theorem dX3_successor_45 : decode cX3_successor 45 = .ok (.iaload, 1) := by decide +kernel
theorem dX3_successor_46 : decode cX3_successor 46 = .ok (.goto 4, 3) := by decide +kernel
theorem dX3_successor_49 : decode cX3_successor 49 = .ok (.iconst 0, 1) := by decide +kernel
theorem dX3_successor_50 : decode cX3_successor 50 = .ok (.ireturn, 1) := by decide +kernel
set_option maxRecDepth 20000 in
theorem ggX3_liveSuccessor_X3_refuses : GoodIn wsX3_liveSuccessor wsX3_refuses := goodIn_r _ [6, 7, 8, 9, 5, 10, 16, 17, 18, 19, 20, 21, 22, 23, 24, 25, 26, 27, 28] (by decide +kernel) (by decide +kernel)
set_option maxRecDepth 20000 in
theorem gX3_liveSuccessor_X3_refuses : GoodIn wsX3_liveSuccessor (wsV RX3 85 RX3 yX3_refuses wsX3_refuses) := goodIn_app (goodIn_of _ (by decide +kernel)) ggX3_liveSuccessor_X3_refuses
set_option maxRecDepth 20000 in
theorem ggX3_liveSuccessor_X3_liveSuccessorOf : GoodIn wsX3_liveSuccessor wsX3_liveSuccessorOf := goodIn_r _ [14, 7, 15, 16, 17, 18, 19, 20, 21, 22, 23, 24, 25, 26, 27, 28] (by decide +kernel) (by decide +kernel)
set_option maxRecDepth 20000 in
theorem gX3_liveSuccessor_X3_liveSuccessorOf : GoodIn wsX3_liveSuccessor (wsV RX3 56 RX3 yX3_liveSuccessorOf wsX3_liveSuccessorOf) := goodIn_app (goodIn_of _ (by decide +kernel)) ggX3_liveSuccessor_X3_liveSuccessorOf
theorem dX3_liveSuccessor_0 : decode cX3_liveSuccessor 0 = .ok (.aload_n 0, 1) := by decide +kernel
theorem dX3_liveSuccessor_1 : decode cX3_liveSuccessor 1 = .ok (.aload_n 0, 1) := by decide +kernel
theorem dX3_liveSuccessor_2 : decode cX3_liveSuccessor 2 = .ok (.iload_n 1, 1) := by decide +kernel
theorem dX3_liveSuccessor_3 : decode cX3_liveSuccessor 3 = .ok (.invokevirtual 85, 3) := by decide +kernel
theorem dX3_liveSuccessor_6 : decode cX3_liveSuccessor 6 = .ok (.putfield 41, 3) := by decide +kernel
theorem dX3_liveSuccessor_9 : decode cX3_liveSuccessor 9 = .ok (.aload_n 0, 1) := by decide +kernel
theorem dX3_liveSuccessor_10 : decode cX3_liveSuccessor 10 = .ok (.getfield 41, 3) := by decide +kernel
theorem dX3_liveSuccessor_13 : decode cX3_liveSuccessor 13 = .ok (.ifCond .ne 11, 3) := by decide +kernel
theorem dX3_liveSuccessor_16 : decode cX3_liveSuccessor 16 = .ok (.aload_n 0, 1) := by decide +kernel
theorem dX3_liveSuccessor_17 : decode cX3_liveSuccessor 17 = .ok (.iload_n 1, 1) := by decide +kernel
theorem dX3_liveSuccessor_18 : decode cX3_liveSuccessor 18 = .ok (.invokevirtual 56, 3) := by decide +kernel
theorem dX3_liveSuccessor_21 : decode cX3_liveSuccessor 21 = .ok (.goto 4, 3) := by decide +kernel
theorem dX3_liveSuccessor_24 : decode cX3_liveSuccessor 24 = .ok (.iconst 0, 1) := by decide +kernel
theorem dX3_liveSuccessor_25 : decode cX3_liveSuccessor 25 = .ok (.ireturn, 1) := by decide +kernel
set_option maxRecDepth 20000 in
theorem ggX3_predecessor_X3_refuses : GoodIn wsX3_predecessor wsX3_refuses := goodIn_r _ [7, 8, 9, 10, 6, 11, 12, 13, 14, 15, 16, 17, 18, 19, 20, 21, 22, 23, 24] (by decide +kernel) (by decide +kernel)
set_option maxRecDepth 20000 in
theorem gX3_predecessor_X3_refuses : GoodIn wsX3_predecessor (wsV RX3 85 RX3 yX3_refuses wsX3_refuses) := goodIn_app (goodIn_of _ (by decide +kernel)) ggX3_predecessor_X3_refuses
theorem dX3_predecessor_0 : decode cX3_predecessor 0 = .ok (.aload_n 0, 1) := by decide +kernel
theorem dX3_predecessor_1 : decode cX3_predecessor 1 = .ok (.aload_n 0, 1) := by decide +kernel
theorem dX3_predecessor_2 : decode cX3_predecessor 2 = .ok (.iload_n 1, 1) := by decide +kernel
theorem dX3_predecessor_3 : decode cX3_predecessor 3 = .ok (.invokevirtual 85, 3) := by decide +kernel
theorem dX3_predecessor_6 : decode cX3_predecessor 6 = .ok (.putfield 41, 3) := by decide +kernel
theorem dX3_predecessor_9 : decode cX3_predecessor 9 = .ok (.aload_n 0, 1) := by decide +kernel
theorem dX3_predecessor_10 : decode cX3_predecessor 10 = .ok (.getfield 41, 3) := by decide +kernel
theorem dX3_predecessor_13 : decode cX3_predecessor 13 = .ok (.ifCond .ne 12, 3) := by decide +kernel
theorem dX3_predecessor_16 : decode cX3_predecessor 16 = .ok (.aload_n 0, 1) := by decide +kernel
theorem dX3_predecessor_17 : decode cX3_predecessor 17 = .ok (.getfield 17, 3) := by decide +kernel
theorem dX3_predecessor_20 : decode cX3_predecessor 20 = .ok (.iload_n 1, 1) := by decide +kernel
theorem dX3_predecessor_21 : decode cX3_predecessor 21 = .ok (.iaload, 1) := by decide +kernel
theorem dX3_predecessor_22 : decode cX3_predecessor 22 = .ok (.goto 4, 3) := by decide +kernel
theorem dX3_predecessor_25 : decode cX3_predecessor 25 = .ok (.iconst 0, 1) := by decide +kernel
theorem dX3_predecessor_26 : decode cX3_predecessor 26 = .ok (.ireturn, 1) := by decide +kernel
set_option maxRecDepth 20000 in
theorem ggX3_finger_X3_isId : GoodIn wsX3_finger wsX3_isId := goodIn_r _ [6] (by decide +kernel) (by decide +kernel)
set_option maxRecDepth 20000 in
theorem gX3_finger_X3_isId : GoodIn wsX3_finger (va_wsS RX3 67 yX3_isId wsX3_isId) := goodIn_app (goodIn_of _ (by decide +kernel)) ggX3_finger_X3_isId
set_option maxRecDepth 20000 in
theorem ggX3_finger_X3_refuses : GoodIn wsX3_finger wsX3_refuses := goodIn_r _ [10, 11, 3, 4, 5, 6, 12, 13, 14, 15, 16, 17, 18, 19, 20, 21, 22, 23, 24] (by decide +kernel) (by decide +kernel)
set_option maxRecDepth 20000 in
theorem gX3_finger_X3_refuses : GoodIn wsX3_finger (wsV RX3 85 RX3 yX3_refuses wsX3_refuses) := goodIn_app (goodIn_of _ (by decide +kernel)) ggX3_finger_X3_refuses
theorem dX3_finger_0 : decode cX3_finger 0 = .ok (.aload_n 0, 1) := by decide +kernel
theorem dX3_finger_1 : decode cX3_finger 1 = .ok (.iload_n 1, 1) := by decide +kernel
theorem dX3_finger_2 : decode cX3_finger 2 = .ok (.invokestatic 67, 3) := by decide +kernel
theorem dX3_finger_5 : decode cX3_finger 5 = .ok (.ifCond .eq 21, 3) := by decide +kernel
theorem dX3_finger_8 : decode cX3_finger 8 = .ok (.iload_n 2, 1) := by decide +kernel
theorem dX3_finger_9 : decode cX3_finger 9 = .ok (.ifCond .lt 17, 3) := by decide +kernel
theorem dX3_finger_12 : decode cX3_finger 12 = .ok (.iload_n 2, 1) := by decide +kernel
theorem dX3_finger_13 : decode cX3_finger 13 = .ok (.bipush 6, 2) := by decide +kernel
theorem dX3_finger_15 : decode cX3_finger 15 = .ok (.if_icmp .ge 11, 3) := by decide +kernel
theorem dX3_finger_18 : decode cX3_finger 18 = .ok (.aload_n 0, 1) := by decide +kernel
theorem dX3_finger_19 : decode cX3_finger 19 = .ok (.iload_n 1, 1) := by decide +kernel
theorem dX3_finger_20 : decode cX3_finger 20 = .ok (.invokevirtual 85, 3) := by decide +kernel
theorem dX3_finger_23 : decode cX3_finger 23 = .ok (.goto 4, 3) := by decide +kernel
theorem dX3_finger_26 : decode cX3_finger 26 = .ok (.iconst 1, 1) := by decide +kernel
theorem dX3_finger_27 : decode cX3_finger 27 = .ok (.putfield 41, 3) := by decide +kernel
theorem dX3_finger_30 : decode cX3_finger 30 = .ok (.aload_n 0, 1) := by decide +kernel
theorem dX3_finger_31 : decode cX3_finger 31 = .ok (.getfield 41, 3) := by decide +kernel
theorem dX3_finger_34 : decode cX3_finger 34 = .ok (.ifCond .ne 17, 3) := by decide +kernel
theorem dX3_finger_37 : decode cX3_finger 37 = .ok (.aload_n 0, 1) := by decide +kernel
theorem dX3_finger_38 : decode cX3_finger 38 = .ok (.getfield 20, 3) := by decide +kernel
theorem dX3_finger_41 : decode cX3_finger 41 = .ok (.bipush 6, 2) := by decide +kernel
theorem dX3_finger_43 : decode cX3_finger 43 = .ok (.iload_n 1, 1) := by decide +kernel
theorem dX3_finger_44 : decode cX3_finger 44 = .ok (.imul, 1) := by decide +kernel
theorem dX3_finger_45 : decode cX3_finger 45 = .ok (.iload_n 2, 1) := by decide +kernel
theorem dX3_finger_46 : decode cX3_finger 46 = .ok (.iadd, 1) := by decide +kernel
theorem dX3_finger_47 : decode cX3_finger 47 = .ok (.iaload, 1) := by decide +kernel
theorem dX3_finger_48 : decode cX3_finger 48 = .ok (.goto 4, 3) := by decide +kernel
theorem dX3_finger_51 : decode cX3_finger 51 = .ok (.iconst 0, 1) := by decide +kernel
theorem dX3_finger_52 : decode cX3_finger 52 = .ok (.ireturn, 1) := by decide +kernel
theorem dX3_checks_0 : decode cX3_checks 0 = .ok (.aload_n 0, 1) := by decide +kernel
theorem dX3_checks_1 : decode cX3_checks 1 = .ok (.getfield 17, 3) := by decide +kernel
theorem dX3_checks_4 : decode cX3_checks 4 = .ok (.iload_n 1, 1) := by decide +kernel
theorem dX3_checks_5 : decode cX3_checks 5 = .ok (.aload_n 0, 1) := by decide +kernel
theorem dX3_checks_6 : decode cX3_checks 6 = .ok (.getfield 17, 3) := by decide +kernel
theorem dX3_checks_9 : decode cX3_checks 9 = .ok (.iload_n 1, 1) := by decide +kernel
theorem dX3_checks_10 : decode cX3_checks 10 = .ok (.iaload, 1) := by decide +kernel
theorem dX3_checks_11 : decode cX3_checks 11 = .ok (.iconst (-1), 1) := by decide +kernel
theorem dX3_checks_12 : decode cX3_checks 12 = .ok (.if_icmp .eq 26, 3) := by decide +kernel
theorem dX3_checks_15 : decode cX3_checks 15 = .ok (.aload_n 0, 1) := by decide +kernel
theorem dX3_checks_16 : decode cX3_checks 16 = .ok (.getfield 7, 3) := by decide +kernel
theorem dX3_checks_19 : decode cX3_checks 19 = .ok (.aload_n 0, 1) := by decide +kernel
theorem dX3_checks_20 : decode cX3_checks 20 = .ok (.getfield 17, 3) := by decide +kernel
theorem dX3_checks_23 : decode cX3_checks 23 = .ok (.iload_n 1, 1) := by decide +kernel
theorem dX3_checks_24 : decode cX3_checks 24 = .ok (.iaload, 1) := by decide +kernel
theorem dX3_checks_25 : decode cX3_checks 25 = .ok (.baload, 1) := by decide +kernel
theorem dX3_checks_26 : decode cX3_checks 26 = .ok (.ifCond .eq 12, 3) := by decide +kernel
theorem dX3_checks_29 : decode cX3_checks 29 = .ok (.aload_n 0, 1) := by decide +kernel
theorem dX3_checks_30 : decode cX3_checks 30 = .ok (.getfield 17, 3) := by decide +kernel
theorem dX3_checks_33 : decode cX3_checks 33 = .ok (.iload_n 1, 1) := by decide +kernel
theorem dX3_checks_34 : decode cX3_checks 34 = .ok (.iaload, 1) := by decide +kernel
theorem dX3_checks_35 : decode cX3_checks 35 = .ok (.goto 4, 3) := by decide +kernel
theorem dX3_checks_38 : decode cX3_checks 38 = .ok (.iconst (-1), 1) := by decide +kernel
theorem dX3_checks_39 : decode cX3_checks 39 = .ok (.iastore, 1) := by decide +kernel
theorem dX3_checks_40 : decode cX3_checks 40 = .ok (.return_, 1) := by decide +kernel
set_option maxRecDepth 20000 in
theorem ggX3_stabilizes_X3_liveSuccessorOf : GoodIn wsX3_stabilizes wsX3_liveSuccessorOf := goodIn_r _ [7, 2, 8, 22, 23, 24, 25, 26, 27, 28, 29, 30, 31, 32, 33, 34] (by decide +kernel) (by decide +kernel)
set_option maxRecDepth 20000 in
theorem gX3_stabilizes_X3_liveSuccessorOf : GoodIn wsX3_stabilizes (wsV RX3 56 RX3 yX3_liveSuccessorOf wsX3_liveSuccessorOf) := goodIn_app (goodIn_of _ (by decide +kernel)) ggX3_stabilizes_X3_liveSuccessorOf
set_option maxRecDepth 20000 in
theorem ggX3_stabilizes_X3_isBetween : GoodIn wsX3_stabilizes wsX3_isBetween := goodIn_r _ [11, 12, 13, 6, 14, 15, 16, 17] (by decide +kernel) (by decide +kernel)
set_option maxRecDepth 20000 in
theorem gX3_stabilizes_X3_isBetween : GoodIn wsX3_stabilizes (va_wsS RX3 53 yX3_isBetween wsX3_isBetween) := goodIn_app (goodIn_of _ (by decide +kernel)) ggX3_stabilizes_X3_isBetween
set_option maxRecDepth 20000 in
theorem ggX3_stabilizes_X3_follows : GoodIn wsX3_stabilizes wsX3_follows := goodIn_r _ [21, 8, 22, 23, 24, 25, 26, 27, 28, 29, 30, 31, 32, 33, 34] (by decide +kernel) (by decide +kernel)
set_option maxRecDepth 20000 in
theorem gX3_stabilizes_X3_follows : GoodIn wsX3_stabilizes (wsV RX3 91 RX3 yX3_follows wsX3_follows) := goodIn_app (goodIn_of _ (by decide +kernel)) ggX3_stabilizes_X3_follows
theorem dX3_stabilizes_0 : decode cX3_stabilizes 0 = .ok (.aload_n 0, 1) := by decide +kernel
theorem dX3_stabilizes_1 : decode cX3_stabilizes 1 = .ok (.iload_n 1, 1) := by decide +kernel
theorem dX3_stabilizes_2 : decode cX3_stabilizes 2 = .ok (.invokevirtual 56, 3) := by decide +kernel
theorem dX3_stabilizes_5 : decode cX3_stabilizes 5 = .ok (.istore_n 2, 1) := by decide +kernel
theorem dX3_stabilizes_6 : decode cX3_stabilizes 6 = .ok (.aload_n 0, 1) := by decide +kernel
theorem dX3_stabilizes_7 : decode cX3_stabilizes 7 = .ok (.getfield 17, 3) := by decide +kernel
theorem dX3_stabilizes_10 : decode cX3_stabilizes 10 = .ok (.iload_n 2, 1) := by decide +kernel
theorem dX3_stabilizes_11 : decode cX3_stabilizes 11 = .ok (.iaload, 1) := by decide +kernel
theorem dX3_stabilizes_12 : decode cX3_stabilizes 12 = .ok (.istore_n 3, 1) := by decide +kernel
theorem dX3_stabilizes_13 : decode cX3_stabilizes 13 = .ok (.iload_n 3, 1) := by decide +kernel
theorem dX3_stabilizes_14 : decode cX3_stabilizes 14 = .ok (.iconst (-1), 1) := by decide +kernel
theorem dX3_stabilizes_15 : decode cX3_stabilizes 15 = .ok (.if_icmp .eq 25, 3) := by decide +kernel
theorem dX3_stabilizes_18 : decode cX3_stabilizes 18 = .ok (.aload_n 0, 1) := by decide +kernel
theorem dX3_stabilizes_19 : decode cX3_stabilizes 19 = .ok (.getfield 7, 3) := by decide +kernel
theorem dX3_stabilizes_22 : decode cX3_stabilizes 22 = .ok (.iload_n 3, 1) := by decide +kernel
theorem dX3_stabilizes_23 : decode cX3_stabilizes 23 = .ok (.baload, 1) := by decide +kernel
theorem dX3_stabilizes_24 : decode cX3_stabilizes 24 = .ok (.ifCond .eq 16, 3) := by decide +kernel
theorem dX3_stabilizes_27 : decode cX3_stabilizes 27 = .ok (.iload_n 3, 1) := by decide +kernel
theorem dX3_stabilizes_28 : decode cX3_stabilizes 28 = .ok (.iload_n 1, 1) := by decide +kernel
theorem dX3_stabilizes_29 : decode cX3_stabilizes 29 = .ok (.iload_n 2, 1) := by decide +kernel
theorem dX3_stabilizes_30 : decode cX3_stabilizes 30 = .ok (.invokestatic 53, 3) := by decide +kernel
theorem dX3_stabilizes_33 : decode cX3_stabilizes 33 = .ok (.ifCond .eq 7, 3) := by decide +kernel
theorem dX3_stabilizes_36 : decode cX3_stabilizes 36 = .ok (.iload_n 3, 1) := by decide +kernel
theorem dX3_stabilizes_37 : decode cX3_stabilizes 37 = .ok (.goto 4, 3) := by decide +kernel
theorem dX3_stabilizes_40 : decode cX3_stabilizes 40 = .ok (.iload_n 2, 1) := by decide +kernel
theorem dX3_stabilizes_41 : decode cX3_stabilizes 41 = .ok (.istore_n 2, 1) := by decide +kernel
theorem dX3_stabilizes_42 : decode cX3_stabilizes 42 = .ok (.aload_n 0, 1) := by decide +kernel
theorem dX3_stabilizes_43 : decode cX3_stabilizes 43 = .ok (.iload_n 1, 1) := by decide +kernel
theorem dX3_stabilizes_44 : decode cX3_stabilizes 44 = .ok (.iload_n 2, 1) := by decide +kernel
theorem dX3_stabilizes_45 : decode cX3_stabilizes 45 = .ok (.invokevirtual 91, 3) := by decide +kernel
theorem dX3_stabilizes_48 : decode cX3_stabilizes 48 = .ok (.aload_n 0, 1) := by decide +kernel
theorem dX3_stabilizes_49 : decode cX3_stabilizes 49 = .ok (.getfield 17, 3) := by decide +kernel
theorem dX3_stabilizes_52 : decode cX3_stabilizes 52 = .ok (.iload_n 2, 1) := by decide +kernel
theorem dX3_stabilizes_53 : decode cX3_stabilizes 53 = .ok (.iaload, 1) := by decide +kernel
theorem dX3_stabilizes_54 : decode cX3_stabilizes 54 = .ok (.istore 4, 2) := by decide +kernel
theorem dX3_stabilizes_56 : decode cX3_stabilizes 56 = .ok (.aload_n 0, 1) := by decide +kernel
theorem dX3_stabilizes_57 : decode cX3_stabilizes 57 = .ok (.getfield 17, 3) := by decide +kernel
theorem dX3_stabilizes_60 : decode cX3_stabilizes 60 = .ok (.iload_n 2, 1) := by decide +kernel
theorem dX3_stabilizes_61 : decode cX3_stabilizes 61 = .ok (.iload 4, 2) := by decide +kernel
theorem dX3_stabilizes_63 : decode cX3_stabilizes 63 = .ok (.iconst (-1), 1) := by decide +kernel
theorem dX3_stabilizes_64 : decode cX3_stabilizes 64 = .ok (.if_icmp .eq 23, 3) := by decide +kernel
theorem dX3_stabilizes_67 : decode cX3_stabilizes 67 = .ok (.aload_n 0, 1) := by decide +kernel
theorem dX3_stabilizes_68 : decode cX3_stabilizes 68 = .ok (.getfield 7, 3) := by decide +kernel
theorem dX3_stabilizes_71 : decode cX3_stabilizes 71 = .ok (.iload 4, 2) := by decide +kernel
theorem dX3_stabilizes_73 : decode cX3_stabilizes 73 = .ok (.baload, 1) := by decide +kernel
theorem dX3_stabilizes_74 : decode cX3_stabilizes 74 = .ok (.ifCond .eq 13, 3) := by decide +kernel
theorem dX3_stabilizes_77 : decode cX3_stabilizes 77 = .ok (.iload_n 1, 1) := by decide +kernel
theorem dX3_stabilizes_78 : decode cX3_stabilizes 78 = .ok (.iload 4, 2) := by decide +kernel
theorem dX3_stabilizes_80 : decode cX3_stabilizes 80 = .ok (.iload_n 2, 1) := by decide +kernel
theorem dX3_stabilizes_81 : decode cX3_stabilizes 81 = .ok (.invokestatic 53, 3) := by decide +kernel
theorem dX3_stabilizes_84 : decode cX3_stabilizes 84 = .ok (.ifCond .eq 7, 3) := by decide +kernel
theorem dX3_stabilizes_87 : decode cX3_stabilizes 87 = .ok (.iload_n 1, 1) := by decide +kernel
theorem dX3_stabilizes_88 : decode cX3_stabilizes 88 = .ok (.goto 5, 3) := by decide +kernel
theorem dX3_stabilizes_91 : decode cX3_stabilizes 91 = .ok (.iload 4, 2) := by decide +kernel
theorem dX3_stabilizes_93 : decode cX3_stabilizes 93 = .ok (.iastore, 1) := by decide +kernel
theorem dX3_stabilizes_94 : decode cX3_stabilizes 94 = .ok (.return_, 1) := by decide +kernel
set_option maxRecDepth 20000 in
theorem ggX3_fixes_X3_find : GoodIn wsX3_fixes wsX3_find := goodIn_r _ [6, 7, 8, 9, 10, 11, 5, 12, 13, 14, 15, 16, 17, 18, 19, 20, 21, 22, 23, 24, 1, 25, 26, 27, 28, 29, 30, 31, 32, 33, 34, 35, 36, 37, 38, 39, 40] (by decide +kernel) (by decide +kernel)
set_option maxRecDepth 20000 in
theorem gX3_fixes_X3_find : GoodIn wsX3_fixes (wsV RX3 82 RX3 yX3_find wsX3_find) := goodIn_app (goodIn_of _ (by decide +kernel)) ggX3_fixes_X3_find
theorem dX3_fixes_0 : decode cX3_fixes 0 = .ok (.iconst 0, 1) := by decide +kernel
theorem dX3_fixes_1 : decode cX3_fixes 1 = .ok (.istore_n 2, 1) := by decide +kernel
theorem dX3_fixes_2 : decode cX3_fixes 2 = .ok (.iconst 0, 1) := by decide +kernel
theorem dX3_fixes_3 : decode cX3_fixes 3 = .ok (.istore_n 3, 1) := by decide +kernel
theorem dX3_fixes_4 : decode cX3_fixes 4 = .ok (.iload_n 3, 1) := by decide +kernel
theorem dX3_fixes_5 : decode cX3_fixes 5 = .ok (.bipush 6, 2) := by decide +kernel
theorem dX3_fixes_7 : decode cX3_fixes 7 = .ok (.if_icmp .ge 61, 3) := by decide +kernel
theorem dX3_fixes_10 : decode cX3_fixes 10 = .ok (.aload_n 0, 1) := by decide +kernel
theorem dX3_fixes_11 : decode cX3_fixes 11 = .ok (.iload_n 1, 1) := by decide +kernel
theorem dX3_fixes_12 : decode cX3_fixes 12 = .ok (.iload_n 1, 1) := by decide +kernel
theorem dX3_fixes_13 : decode cX3_fixes 13 = .ok (.iconst 1, 1) := by decide +kernel
theorem dX3_fixes_14 : decode cX3_fixes 14 = .ok (.iload_n 3, 1) := by decide +kernel
theorem dX3_fixes_15 : decode cX3_fixes 15 = .ok (.ishl, 1) := by decide +kernel
theorem dX3_fixes_16 : decode cX3_fixes 16 = .ok (.iadd, 1) := by decide +kernel
theorem dX3_fixes_17 : decode cX3_fixes 17 = .ok (.bipush 64, 2) := by decide +kernel
theorem dX3_fixes_19 : decode cX3_fixes 19 = .ok (.irem, 1) := by decide +kernel
theorem dX3_fixes_20 : decode cX3_fixes 20 = .ok (.invokevirtual 82, 3) := by decide +kernel
theorem dX3_fixes_23 : decode cX3_fixes 23 = .ok (.istore 4, 2) := by decide +kernel
theorem dX3_fixes_25 : decode cX3_fixes 25 = .ok (.iload_n 2, 1) := by decide +kernel
theorem dX3_fixes_26 : decode cX3_fixes 26 = .ok (.aload_n 0, 1) := by decide +kernel
theorem dX3_fixes_27 : decode cX3_fixes 27 = .ok (.getfield 20, 3) := by decide +kernel
theorem dX3_fixes_30 : decode cX3_fixes 30 = .ok (.bipush 6, 2) := by decide +kernel
theorem dX3_fixes_32 : decode cX3_fixes 32 = .ok (.iload_n 1, 1) := by decide +kernel
theorem dX3_fixes_33 : decode cX3_fixes 33 = .ok (.imul, 1) := by decide +kernel
theorem dX3_fixes_34 : decode cX3_fixes 34 = .ok (.iload_n 3, 1) := by decide +kernel
theorem dX3_fixes_35 : decode cX3_fixes 35 = .ok (.iadd, 1) := by decide +kernel
theorem dX3_fixes_36 : decode cX3_fixes 36 = .ok (.iaload, 1) := by decide +kernel
theorem dX3_fixes_37 : decode cX3_fixes 37 = .ok (.iload 4, 2) := by decide +kernel
theorem dX3_fixes_39 : decode cX3_fixes 39 = .ok (.if_icmp .eq 7, 3) := by decide +kernel
theorem dX3_fixes_42 : decode cX3_fixes 42 = .ok (.iconst 1, 1) := by decide +kernel
theorem dX3_fixes_43 : decode cX3_fixes 43 = .ok (.goto 4, 3) := by decide +kernel
theorem dX3_fixes_46 : decode cX3_fixes 46 = .ok (.iconst 0, 1) := by decide +kernel
theorem dX3_fixes_47 : decode cX3_fixes 47 = .ok (.iadd, 1) := by decide +kernel
theorem dX3_fixes_48 : decode cX3_fixes 48 = .ok (.istore_n 2, 1) := by decide +kernel
theorem dX3_fixes_49 : decode cX3_fixes 49 = .ok (.aload_n 0, 1) := by decide +kernel
theorem dX3_fixes_50 : decode cX3_fixes 50 = .ok (.getfield 20, 3) := by decide +kernel
theorem dX3_fixes_53 : decode cX3_fixes 53 = .ok (.bipush 6, 2) := by decide +kernel
theorem dX3_fixes_55 : decode cX3_fixes 55 = .ok (.iload_n 1, 1) := by decide +kernel
theorem dX3_fixes_56 : decode cX3_fixes 56 = .ok (.imul, 1) := by decide +kernel
theorem dX3_fixes_57 : decode cX3_fixes 57 = .ok (.iload_n 3, 1) := by decide +kernel
theorem dX3_fixes_58 : decode cX3_fixes 58 = .ok (.iadd, 1) := by decide +kernel
theorem dX3_fixes_59 : decode cX3_fixes 59 = .ok (.iload 4, 2) := by decide +kernel
theorem dX3_fixes_61 : decode cX3_fixes 61 = .ok (.iastore, 1) := by decide +kernel
theorem dX3_fixes_62 : decode cX3_fixes 62 = .ok (.iinc 3 1, 3) := by decide +kernel
theorem dX3_fixes_65 : decode cX3_fixes 65 = .ok (.goto (-61), 3) := by decide +kernel
theorem dX3_fixes_68 : decode cX3_fixes 68 = .ok (.iload_n 2, 1) := by decide +kernel
theorem dX3_fixes_69 : decode cX3_fixes 69 = .ok (.ireturn, 1) := by decide +kernel
set_option maxRecDepth 20000 in
theorem ggX3_spreads_X3_copy : GoodIn wsX3_spreads wsX3_copy := goodIn_r _ [7, 8, 9, 10, 11, 12, 13, 14, 15, 16, 17, 18, 19, 20, 21, 22] (by decide +kernel) (by decide +kernel)
set_option maxRecDepth 20000 in
theorem gX3_spreads_X3_copy : GoodIn wsX3_spreads (wsV RX3 88 RX3 yX3_copy wsX3_copy) := goodIn_app (goodIn_of _ (by decide +kernel)) ggX3_spreads_X3_copy
theorem dX3_spreads_0 : decode cX3_spreads 0 = .ok (.iconst (-1), 1) := by decide +kernel
theorem dX3_spreads_1 : decode cX3_spreads 1 = .ok (.istore_n 3, 1) := by decide +kernel
theorem dX3_spreads_2 : decode cX3_spreads 2 = .ok (.iconst 0, 1) := by decide +kernel
theorem dX3_spreads_3 : decode cX3_spreads 3 = .ok (.istore 4, 2) := by decide +kernel
theorem dX3_spreads_5 : decode cX3_spreads 5 = .ok (.iconst 0, 1) := by decide +kernel
theorem dX3_spreads_6 : decode cX3_spreads 6 = .ok (.istore 5, 2) := by decide +kernel
theorem dX3_spreads_8 : decode cX3_spreads 8 = .ok (.iconst 0, 1) := by decide +kernel
theorem dX3_spreads_9 : decode cX3_spreads 9 = .ok (.istore 6, 2) := by decide +kernel
theorem dX3_spreads_11 : decode cX3_spreads 11 = .ok (.iload 6, 2) := by decide +kernel
theorem dX3_spreads_13 : decode cX3_spreads 13 = .ok (.iconst 3, 1) := by decide +kernel
theorem dX3_spreads_14 : decode cX3_spreads 14 = .ok (.if_icmp .ge 69, 3) := by decide +kernel
theorem dX3_spreads_17 : decode cX3_spreads 17 = .ok (.aload_n 0, 1) := by decide +kernel
theorem dX3_spreads_18 : decode cX3_spreads 18 = .ok (.getfield 13, 3) := by decide +kernel
theorem dX3_spreads_21 : decode cX3_spreads 21 = .ok (.iconst 3, 1) := by decide +kernel
theorem dX3_spreads_22 : decode cX3_spreads 22 = .ok (.iload_n 1, 1) := by decide +kernel
theorem dX3_spreads_23 : decode cX3_spreads 23 = .ok (.imul, 1) := by decide +kernel
theorem dX3_spreads_24 : decode cX3_spreads 24 = .ok (.iload 6, 2) := by decide +kernel
theorem dX3_spreads_26 : decode cX3_spreads 26 = .ok (.iadd, 1) := by decide +kernel
theorem dX3_spreads_27 : decode cX3_spreads 27 = .ok (.iaload, 1) := by decide +kernel
theorem dX3_spreads_28 : decode cX3_spreads 28 = .ok (.istore 7, 2) := by decide +kernel
theorem dX3_spreads_30 : decode cX3_spreads 30 = .ok (.aload_n 0, 1) := by decide +kernel
theorem dX3_spreads_31 : decode cX3_spreads 31 = .ok (.getfield 7, 3) := by decide +kernel
theorem dX3_spreads_34 : decode cX3_spreads 34 = .ok (.iload 7, 2) := by decide +kernel
theorem dX3_spreads_36 : decode cX3_spreads 36 = .ok (.baload, 1) := by decide +kernel
theorem dX3_spreads_37 : decode cX3_spreads 37 = .ok (.ifCond .eq 40, 3) := by decide +kernel
theorem dX3_spreads_40 : decode cX3_spreads 40 = .ok (.iload 7, 2) := by decide +kernel
theorem dX3_spreads_42 : decode cX3_spreads 42 = .ok (.iload_n 1, 1) := by decide +kernel
theorem dX3_spreads_43 : decode cX3_spreads 43 = .ok (.if_icmp .eq 34, 3) := by decide +kernel
theorem dX3_spreads_46 : decode cX3_spreads 46 = .ok (.iload 7, 2) := by decide +kernel
theorem dX3_spreads_48 : decode cX3_spreads 48 = .ok (.iload_n 3, 1) := by decide +kernel
theorem dX3_spreads_49 : decode cX3_spreads 49 = .ok (.if_icmp .eq 28, 3) := by decide +kernel
theorem dX3_spreads_52 : decode cX3_spreads 52 = .ok (.iload 5, 2) := by decide +kernel
theorem dX3_spreads_54 : decode cX3_spreads 54 = .ok (.iconst 2, 1) := by decide +kernel
theorem dX3_spreads_55 : decode cX3_spreads 55 = .ok (.if_icmp .ge 22, 3) := by decide +kernel
theorem dX3_spreads_58 : decode cX3_spreads 58 = .ok (.iload 4, 2) := by decide +kernel
theorem dX3_spreads_60 : decode cX3_spreads 60 = .ok (.aload_n 0, 1) := by decide +kernel
theorem dX3_spreads_61 : decode cX3_spreads 61 = .ok (.iload_n 1, 1) := by decide +kernel
theorem dX3_spreads_62 : decode cX3_spreads 62 = .ok (.iload_n 2, 1) := by decide +kernel
theorem dX3_spreads_63 : decode cX3_spreads 63 = .ok (.iload 7, 2) := by decide +kernel
theorem dX3_spreads_65 : decode cX3_spreads 65 = .ok (.invokevirtual 88, 3) := by decide +kernel
theorem dX3_spreads_68 : decode cX3_spreads 68 = .ok (.iadd, 1) := by decide +kernel
theorem dX3_spreads_69 : decode cX3_spreads 69 = .ok (.istore 4, 2) := by decide +kernel
theorem dX3_spreads_71 : decode cX3_spreads 71 = .ok (.iload 7, 2) := by decide +kernel
theorem dX3_spreads_73 : decode cX3_spreads 73 = .ok (.istore_n 3, 1) := by decide +kernel
theorem dX3_spreads_74 : decode cX3_spreads 74 = .ok (.iinc 5 1, 3) := by decide +kernel
theorem dX3_spreads_77 : decode cX3_spreads 77 = .ok (.iinc 6 1, 3) := by decide +kernel
theorem dX3_spreads_80 : decode cX3_spreads 80 = .ok (.goto (-69), 3) := by decide +kernel
theorem dX3_spreads_83 : decode cX3_spreads 83 = .ok (.iload 4, 2) := by decide +kernel
theorem dX3_spreads_85 : decode cX3_spreads 85 = .ok (.ireturn, 1) := by decide +kernel
set_option maxRecDepth 20000 in
theorem ggX3_replicates_X3_isWithin : GoodIn wsX3_replicates wsX3_isWithin := goodIn_r _ [6, 7, 8, 5, 9] (by decide +kernel) (by decide +kernel)
set_option maxRecDepth 20000 in
theorem gX3_replicates_X3_isWithin : GoodIn wsX3_replicates (va_wsS RX3 49 yX3_isWithin wsX3_isWithin) := goodIn_app (goodIn_of _ (by decide +kernel)) ggX3_replicates_X3_isWithin
set_option maxRecDepth 20000 in
theorem ggX3_replicates_X3_find : GoodIn wsX3_replicates wsX3_find := goodIn_r _ [13, 14, 15, 16, 17, 18, 5, 19, 20, 21, 3, 4, 6, 7, 8, 9, 22, 23, 24, 25, 26, 27, 28, 29, 39, 40, 41, 42, 43, 44, 45, 46, 47, 48, 49, 50, 51] (by decide +kernel) (by decide +kernel)
set_option maxRecDepth 20000 in
theorem gX3_replicates_X3_find : GoodIn wsX3_replicates (wsV RX3 82 RX3 yX3_find wsX3_find) := goodIn_app (goodIn_of _ (by decide +kernel)) ggX3_replicates_X3_find
set_option maxRecDepth 20000 in
theorem ggX3_replicates_X3_spreads : GoodIn wsX3_replicates wsX3_spreads := goodIn_r _ [33, 21, 20, 34, 35, 36, 5, 37, 1, 38, 39, 40, 41, 42, 43, 44, 45, 46, 47, 48, 49, 50, 51] (by decide +kernel) (by decide +kernel)
set_option maxRecDepth 20000 in
theorem gX3_replicates_X3_spreads : GoodIn wsX3_replicates (wsV RX3 95 RX3 yX3_spreads wsX3_spreads) := goodIn_app (goodIn_of _ (by decide +kernel)) ggX3_replicates_X3_spreads
set_option maxRecDepth 20000 in
theorem ggX3_replicates_X3_copy : GoodIn wsX3_replicates wsX3_copy := goodIn_r _ [37, 1, 38, 39, 40, 41, 42, 43, 44, 45, 46, 47, 48, 49, 50, 51] (by decide +kernel) (by decide +kernel)
set_option maxRecDepth 20000 in
theorem gX3_replicates_X3_copy : GoodIn wsX3_replicates (wsV RX3 88 RX3 yX3_copy wsX3_copy) := goodIn_app (goodIn_of _ (by decide +kernel)) ggX3_replicates_X3_copy
theorem dX3_replicates_0 : decode cX3_replicates 0 = .ok (.iconst 0, 1) := by decide +kernel
theorem dX3_replicates_1 : decode cX3_replicates 1 = .ok (.istore_n 2, 1) := by decide +kernel
theorem dX3_replicates_2 : decode cX3_replicates 2 = .ok (.iconst 0, 1) := by decide +kernel
theorem dX3_replicates_3 : decode cX3_replicates 3 = .ok (.istore_n 3, 1) := by decide +kernel
theorem dX3_replicates_4 : decode cX3_replicates 4 = .ok (.iload_n 3, 1) := by decide +kernel
theorem dX3_replicates_5 : decode cX3_replicates 5 = .ok (.bipush 64, 2) := by decide +kernel
theorem dX3_replicates_7 : decode cX3_replicates 7 = .ok (.if_icmp .ge 106, 3) := by decide +kernel
theorem dX3_replicates_10 : decode cX3_replicates 10 = .ok (.aload_n 0, 1) := by decide +kernel
theorem dX3_replicates_11 : decode cX3_replicates 11 = .ok (.getfield 26, 3) := by decide +kernel
theorem dX3_replicates_14 : decode cX3_replicates 14 = .ok (.bipush 64, 2) := by decide +kernel
theorem dX3_replicates_16 : decode cX3_replicates 16 = .ok (.iload_n 1, 1) := by decide +kernel
theorem dX3_replicates_17 : decode cX3_replicates 17 = .ok (.imul, 1) := by decide +kernel
theorem dX3_replicates_18 : decode cX3_replicates 18 = .ok (.iload_n 3, 1) := by decide +kernel
theorem dX3_replicates_19 : decode cX3_replicates 19 = .ok (.iadd, 1) := by decide +kernel
theorem dX3_replicates_20 : decode cX3_replicates 20 = .ok (.iaload, 1) := by decide +kernel
theorem dX3_replicates_21 : decode cX3_replicates 21 = .ok (.ifCond .le 86, 3) := by decide +kernel
theorem dX3_replicates_24 : decode cX3_replicates 24 = .ok (.aload_n 0, 1) := by decide +kernel
theorem dX3_replicates_25 : decode cX3_replicates 25 = .ok (.getfield 17, 3) := by decide +kernel
theorem dX3_replicates_28 : decode cX3_replicates 28 = .ok (.iload_n 1, 1) := by decide +kernel
theorem dX3_replicates_29 : decode cX3_replicates 29 = .ok (.iaload, 1) := by decide +kernel
theorem dX3_replicates_30 : decode cX3_replicates 30 = .ok (.iconst (-1), 1) := by decide +kernel
theorem dX3_replicates_31 : decode cX3_replicates 31 = .ok (.if_icmp .eq 17, 3) := by decide +kernel
theorem dX3_replicates_34 : decode cX3_replicates 34 = .ok (.iload_n 3, 1) := by decide +kernel
theorem dX3_replicates_35 : decode cX3_replicates 35 = .ok (.aload_n 0, 1) := by decide +kernel
theorem dX3_replicates_36 : decode cX3_replicates 36 = .ok (.getfield 17, 3) := by decide +kernel
theorem dX3_replicates_39 : decode cX3_replicates 39 = .ok (.iload_n 1, 1) := by decide +kernel
theorem dX3_replicates_40 : decode cX3_replicates 40 = .ok (.iaload, 1) := by decide +kernel
theorem dX3_replicates_41 : decode cX3_replicates 41 = .ok (.iload_n 1, 1) := by decide +kernel
theorem dX3_replicates_42 : decode cX3_replicates 42 = .ok (.invokestatic 49, 3) := by decide +kernel
theorem dX3_replicates_45 : decode cX3_replicates 45 = .ok (.ifCond .eq 7, 3) := by decide +kernel
theorem dX3_replicates_48 : decode cX3_replicates 48 = .ok (.iconst 1, 1) := by decide +kernel
theorem dX3_replicates_49 : decode cX3_replicates 49 = .ok (.goto 4, 3) := by decide +kernel
theorem dX3_replicates_52 : decode cX3_replicates 52 = .ok (.iconst 0, 1) := by decide +kernel
theorem dX3_replicates_53 : decode cX3_replicates 53 = .ok (.istore 4, 2) := by decide +kernel
theorem dX3_replicates_55 : decode cX3_replicates 55 = .ok (.iload 4, 2) := by decide +kernel
theorem dX3_replicates_57 : decode cX3_replicates 57 = .ok (.ifCond .eq 7, 3) := by decide +kernel
theorem dX3_replicates_60 : decode cX3_replicates 60 = .ok (.iconst (-1), 1) := by decide +kernel
theorem dX3_replicates_61 : decode cX3_replicates 61 = .ok (.goto 9, 3) := by decide +kernel
theorem dX3_replicates_64 : decode cX3_replicates 64 = .ok (.aload_n 0, 1) := by decide +kernel
theorem dX3_replicates_65 : decode cX3_replicates 65 = .ok (.iload_n 1, 1) := by decide +kernel
theorem dX3_replicates_66 : decode cX3_replicates 66 = .ok (.iload_n 3, 1) := by decide +kernel
theorem dX3_replicates_67 : decode cX3_replicates 67 = .ok (.invokevirtual 82, 3) := by decide +kernel
theorem dX3_replicates_70 : decode cX3_replicates 70 = .ok (.istore 5, 2) := by decide +kernel
theorem dX3_replicates_72 : decode cX3_replicates 72 = .ok (.iload_n 2, 1) := by decide +kernel
theorem dX3_replicates_73 : decode cX3_replicates 73 = .ok (.iload 4, 2) := by decide +kernel
theorem dX3_replicates_75 : decode cX3_replicates 75 = .ok (.ifCond .eq 12, 3) := by decide +kernel
theorem dX3_replicates_78 : decode cX3_replicates 78 = .ok (.aload_n 0, 1) := by decide +kernel
theorem dX3_replicates_79 : decode cX3_replicates 79 = .ok (.iload_n 1, 1) := by decide +kernel
theorem dX3_replicates_80 : decode cX3_replicates 80 = .ok (.iload_n 3, 1) := by decide +kernel
theorem dX3_replicates_81 : decode cX3_replicates 81 = .ok (.invokevirtual 95, 3) := by decide +kernel
theorem dX3_replicates_84 : decode cX3_replicates 84 = .ok (.goto 21, 3) := by decide +kernel
theorem dX3_replicates_87 : decode cX3_replicates 87 = .ok (.iload 5, 2) := by decide +kernel
theorem dX3_replicates_89 : decode cX3_replicates 89 = .ok (.iconst (-1), 1) := by decide +kernel
theorem dX3_replicates_90 : decode cX3_replicates 90 = .ok (.if_icmp .ne 7, 3) := by decide +kernel
theorem dX3_replicates_93 : decode cX3_replicates 93 = .ok (.iconst 0, 1) := by decide +kernel
theorem dX3_replicates_94 : decode cX3_replicates 94 = .ok (.goto 11, 3) := by decide +kernel
theorem dX3_replicates_97 : decode cX3_replicates 97 = .ok (.aload_n 0, 1) := by decide +kernel
theorem dX3_replicates_98 : decode cX3_replicates 98 = .ok (.iload_n 1, 1) := by decide +kernel
theorem dX3_replicates_99 : decode cX3_replicates 99 = .ok (.iload_n 3, 1) := by decide +kernel
theorem dX3_replicates_100 : decode cX3_replicates 100 = .ok (.iload 5, 2) := by decide +kernel
theorem dX3_replicates_102 : decode cX3_replicates 102 = .ok (.invokevirtual 88, 3) := by decide +kernel
theorem dX3_replicates_105 : decode cX3_replicates 105 = .ok (.iadd, 1) := by decide +kernel
theorem dX3_replicates_106 : decode cX3_replicates 106 = .ok (.istore_n 2, 1) := by decide +kernel
theorem dX3_replicates_107 : decode cX3_replicates 107 = .ok (.iinc 3 1, 3) := by decide +kernel
theorem dX3_replicates_110 : decode cX3_replicates 110 = .ok (.goto (-106), 3) := by decide +kernel
theorem dX3_replicates_113 : decode cX3_replicates 113 = .ok (.iload_n 2, 1) := by decide +kernel
theorem dX3_replicates_114 : decode cX3_replicates 114 = .ok (.ireturn, 1) := by decide +kernel
set_option maxRecDepth 20000 in
theorem ggX3_check_X3_refuses : GoodIn wsX3_check wsX3_refuses := goodIn_r _ [7, 8, 9, 10, 6, 11, 16, 17, 18, 19, 20, 21, 22, 23, 24, 25, 26, 27, 28] (by decide +kernel) (by decide +kernel)
set_option maxRecDepth 20000 in
theorem gX3_check_X3_refuses : GoodIn wsX3_check (wsV RX3 85 RX3 yX3_refuses wsX3_refuses) := goodIn_app (goodIn_of _ (by decide +kernel)) ggX3_check_X3_refuses
set_option maxRecDepth 20000 in
theorem ggX3_check_X3_checks : GoodIn wsX3_check wsX3_checks := goodIn_r _ [15, 2, 8, 16, 17, 18, 19, 20, 21, 22, 23, 24, 25, 26, 27, 28] (by decide +kernel) (by decide +kernel)
set_option maxRecDepth 20000 in
theorem gX3_check_X3_checks : GoodIn wsX3_check (wsV RX3 98 RX3 yX3_checks wsX3_checks) := goodIn_app (goodIn_of _ (by decide +kernel)) ggX3_check_X3_checks
theorem dX3_check_0 : decode cX3_check 0 = .ok (.aload_n 0, 1) := by decide +kernel
theorem dX3_check_1 : decode cX3_check 1 = .ok (.aload_n 0, 1) := by decide +kernel
theorem dX3_check_2 : decode cX3_check 2 = .ok (.iload_n 1, 1) := by decide +kernel
theorem dX3_check_3 : decode cX3_check 3 = .ok (.invokevirtual 85, 3) := by decide +kernel
theorem dX3_check_6 : decode cX3_check 6 = .ok (.putfield 41, 3) := by decide +kernel
theorem dX3_check_9 : decode cX3_check 9 = .ok (.aload_n 0, 1) := by decide +kernel
theorem dX3_check_10 : decode cX3_check 10 = .ok (.getfield 41, 3) := by decide +kernel
theorem dX3_check_13 : decode cX3_check 13 = .ok (.ifCond .ne 8, 3) := by decide +kernel
theorem dX3_check_16 : decode cX3_check 16 = .ok (.aload_n 0, 1) := by decide +kernel
theorem dX3_check_17 : decode cX3_check 17 = .ok (.iload_n 1, 1) := by decide +kernel
theorem dX3_check_18 : decode cX3_check 18 = .ok (.invokevirtual 98, 3) := by decide +kernel
theorem dX3_check_21 : decode cX3_check 21 = .ok (.aload_n 0, 1) := by decide +kernel
theorem dX3_check_22 : decode cX3_check 22 = .ok (.getfield 41, 3) := by decide +kernel
theorem dX3_check_25 : decode cX3_check 25 = .ok (.ifCond .ne 17, 3) := by decide +kernel
theorem dX3_check_28 : decode cX3_check 28 = .ok (.aload_n 0, 1) := by decide +kernel
theorem dX3_check_29 : decode cX3_check 29 = .ok (.getfield 17, 3) := by decide +kernel
theorem dX3_check_32 : decode cX3_check 32 = .ok (.iload_n 1, 1) := by decide +kernel
theorem dX3_check_33 : decode cX3_check 33 = .ok (.iaload, 1) := by decide +kernel
theorem dX3_check_34 : decode cX3_check 34 = .ok (.iconst (-1), 1) := by decide +kernel
theorem dX3_check_35 : decode cX3_check 35 = .ok (.if_icmp .eq 7, 3) := by decide +kernel
theorem dX3_check_38 : decode cX3_check 38 = .ok (.iconst 1, 1) := by decide +kernel
theorem dX3_check_39 : decode cX3_check 39 = .ok (.goto 4, 3) := by decide +kernel
theorem dX3_check_42 : decode cX3_check 42 = .ok (.iconst 0, 1) := by decide +kernel
theorem dX3_check_43 : decode cX3_check 43 = .ok (.ireturn, 1) := by decide +kernel
set_option maxRecDepth 20000 in
theorem ggX3_stabilize_X3_refuses : GoodIn wsX3_stabilize wsX3_refuses := goodIn_r _ [7, 8, 9, 10, 6, 11, 34, 35, 36, 37, 38, 39, 40, 41, 42, 43, 44, 45, 46] (by decide +kernel) (by decide +kernel)
set_option maxRecDepth 20000 in
theorem gX3_stabilize_X3_refuses : GoodIn wsX3_stabilize (wsV RX3 85 RX3 yX3_refuses wsX3_refuses) := goodIn_app (goodIn_of _ (by decide +kernel)) ggX3_stabilize_X3_refuses
set_option maxRecDepth 20000 in
theorem ggX3_stabilize_X3_stabilizes : GoodIn wsX3_stabilize wsX3_stabilizes := goodIn_r _ [15, 16, 8, 17, 18, 19, 6, 20, 2, 21, 22, 23, 24, 25, 26, 27, 28, 29, 30, 31, 32, 33, 34, 35, 36, 37, 38, 39, 40, 41, 42, 43, 44, 45, 46] (by decide +kernel) (by decide +kernel)
set_option maxRecDepth 20000 in
theorem gX3_stabilize_X3_stabilizes : GoodIn wsX3_stabilize (wsV RX3 102 RX3 yX3_stabilizes wsX3_stabilizes) := goodIn_app (goodIn_of _ (by decide +kernel)) ggX3_stabilize_X3_stabilizes
theorem dX3_stabilize_0 : decode cX3_stabilize 0 = .ok (.aload_n 0, 1) := by decide +kernel
theorem dX3_stabilize_1 : decode cX3_stabilize 1 = .ok (.aload_n 0, 1) := by decide +kernel
theorem dX3_stabilize_2 : decode cX3_stabilize 2 = .ok (.iload_n 1, 1) := by decide +kernel
theorem dX3_stabilize_3 : decode cX3_stabilize 3 = .ok (.invokevirtual 85, 3) := by decide +kernel
theorem dX3_stabilize_6 : decode cX3_stabilize 6 = .ok (.putfield 41, 3) := by decide +kernel
theorem dX3_stabilize_9 : decode cX3_stabilize 9 = .ok (.aload_n 0, 1) := by decide +kernel
theorem dX3_stabilize_10 : decode cX3_stabilize 10 = .ok (.getfield 41, 3) := by decide +kernel
theorem dX3_stabilize_13 : decode cX3_stabilize 13 = .ok (.ifCond .le 5, 3) := by decide +kernel
theorem dX3_stabilize_16 : decode cX3_stabilize 16 = .ok (.iconst 0, 1) := by decide +kernel
theorem dX3_stabilize_17 : decode cX3_stabilize 17 = .ok (.ireturn, 1) := by decide +kernel
theorem dX3_stabilize_18 : decode cX3_stabilize 18 = .ok (.aload_n 0, 1) := by decide +kernel
theorem dX3_stabilize_19 : decode cX3_stabilize 19 = .ok (.iload_n 1, 1) := by decide +kernel
theorem dX3_stabilize_20 : decode cX3_stabilize 20 = .ok (.invokevirtual 102, 3) := by decide +kernel
theorem dX3_stabilize_23 : decode cX3_stabilize 23 = .ok (.aload_n 0, 1) := by decide +kernel
theorem dX3_stabilize_24 : decode cX3_stabilize 24 = .ok (.getfield 13, 3) := by decide +kernel
theorem dX3_stabilize_27 : decode cX3_stabilize 27 = .ok (.iconst 3, 1) := by decide +kernel
theorem dX3_stabilize_28 : decode cX3_stabilize 28 = .ok (.iload_n 1, 1) := by decide +kernel
theorem dX3_stabilize_29 : decode cX3_stabilize 29 = .ok (.imul, 1) := by decide +kernel
theorem dX3_stabilize_30 : decode cX3_stabilize 30 = .ok (.iaload, 1) := by decide +kernel
theorem dX3_stabilize_31 : decode cX3_stabilize 31 = .ok (.ireturn, 1) := by decide +kernel
set_option maxRecDepth 20000 in
theorem ggX3_fix_X3_refuses : GoodIn wsX3_fix wsX3_refuses := goodIn_r _ [6, 7, 8, 9, 5, 10, 40, 41, 42, 43, 44, 45, 46, 47, 48, 49, 50, 51, 52] (by decide +kernel) (by decide +kernel)
set_option maxRecDepth 20000 in
theorem gX3_fix_X3_refuses : GoodIn wsX3_fix (wsV RX3 85 RX3 yX3_refuses wsX3_refuses) := goodIn_app (goodIn_of _ (by decide +kernel)) ggX3_fix_X3_refuses
set_option maxRecDepth 20000 in
theorem ggX3_fix_X3_fixes : GoodIn wsX3_fix wsX3_fixes := goodIn_r _ [14, 15, 16, 17, 18, 5, 19, 20, 21, 22, 23, 24, 25, 7, 26, 27, 28, 29, 30, 31, 32, 33, 34, 35, 36, 37, 38, 39, 40, 41, 42, 43, 44, 45, 46, 47, 48, 49, 50, 51, 52] (by decide +kernel) (by decide +kernel)
set_option maxRecDepth 20000 in
theorem gX3_fix_X3_fixes : GoodIn wsX3_fix (wsV RX3 105 RX3 yX3_fixes wsX3_fixes) := goodIn_app (goodIn_of _ (by decide +kernel)) ggX3_fix_X3_fixes
theorem dX3_fix_0 : decode cX3_fix 0 = .ok (.aload_n 0, 1) := by decide +kernel
theorem dX3_fix_1 : decode cX3_fix 1 = .ok (.aload_n 0, 1) := by decide +kernel
theorem dX3_fix_2 : decode cX3_fix 2 = .ok (.iload_n 1, 1) := by decide +kernel
theorem dX3_fix_3 : decode cX3_fix 3 = .ok (.invokevirtual 85, 3) := by decide +kernel
theorem dX3_fix_6 : decode cX3_fix 6 = .ok (.putfield 41, 3) := by decide +kernel
theorem dX3_fix_9 : decode cX3_fix 9 = .ok (.aload_n 0, 1) := by decide +kernel
theorem dX3_fix_10 : decode cX3_fix 10 = .ok (.getfield 41, 3) := by decide +kernel
theorem dX3_fix_13 : decode cX3_fix 13 = .ok (.ifCond .ne 11, 3) := by decide +kernel
theorem dX3_fix_16 : decode cX3_fix 16 = .ok (.aload_n 0, 1) := by decide +kernel
theorem dX3_fix_17 : decode cX3_fix 17 = .ok (.iload_n 1, 1) := by decide +kernel
theorem dX3_fix_18 : decode cX3_fix 18 = .ok (.invokevirtual 105, 3) := by decide +kernel
theorem dX3_fix_21 : decode cX3_fix 21 = .ok (.goto 4, 3) := by decide +kernel
theorem dX3_fix_24 : decode cX3_fix 24 = .ok (.iconst 0, 1) := by decide +kernel
theorem dX3_fix_25 : decode cX3_fix 25 = .ok (.ireturn, 1) := by decide +kernel
set_option maxRecDepth 20000 in
theorem ggX3_replicate_X3_refuses : GoodIn wsX3_replicate wsX3_refuses := goodIn_r _ [6, 7, 8, 9, 5, 10, 51, 52, 53, 54, 55, 56, 57, 58, 59, 60, 61, 62, 63] (by decide +kernel) (by decide +kernel)
set_option maxRecDepth 20000 in
theorem gX3_replicate_X3_refuses : GoodIn wsX3_replicate (wsV RX3 85 RX3 yX3_refuses wsX3_refuses) := goodIn_app (goodIn_of _ (by decide +kernel)) ggX3_replicate_X3_refuses
set_option maxRecDepth 20000 in
theorem ggX3_replicate_X3_replicates : GoodIn wsX3_replicate wsX3_replicates := goodIn_r _ [14, 15, 16, 17, 18, 5, 19, 20, 21, 22, 23, 24, 25, 26, 27, 28, 29, 30, 31, 32, 7, 33, 34, 35, 36, 37, 38, 39, 40, 41, 42, 43, 44, 45, 46, 47, 48, 49, 50, 51, 52, 53, 54, 55, 56, 57, 58, 59, 60, 61, 62, 63] (by decide +kernel) (by decide +kernel)
set_option maxRecDepth 20000 in
theorem gX3_replicate_X3_replicates : GoodIn wsX3_replicate (wsV RX3 108 RX3 yX3_replicates wsX3_replicates) := goodIn_app (goodIn_of _ (by decide +kernel)) ggX3_replicate_X3_replicates
theorem dX3_replicate_0 : decode cX3_replicate 0 = .ok (.aload_n 0, 1) := by decide +kernel
theorem dX3_replicate_1 : decode cX3_replicate 1 = .ok (.aload_n 0, 1) := by decide +kernel
theorem dX3_replicate_2 : decode cX3_replicate 2 = .ok (.iload_n 1, 1) := by decide +kernel
theorem dX3_replicate_3 : decode cX3_replicate 3 = .ok (.invokevirtual 85, 3) := by decide +kernel
theorem dX3_replicate_6 : decode cX3_replicate 6 = .ok (.putfield 41, 3) := by decide +kernel
theorem dX3_replicate_9 : decode cX3_replicate 9 = .ok (.aload_n 0, 1) := by decide +kernel
theorem dX3_replicate_10 : decode cX3_replicate 10 = .ok (.getfield 41, 3) := by decide +kernel
theorem dX3_replicate_13 : decode cX3_replicate 13 = .ok (.ifCond .ne 11, 3) := by decide +kernel
theorem dX3_replicate_16 : decode cX3_replicate 16 = .ok (.aload_n 0, 1) := by decide +kernel
theorem dX3_replicate_17 : decode cX3_replicate 17 = .ok (.iload_n 1, 1) := by decide +kernel
theorem dX3_replicate_18 : decode cX3_replicate 18 = .ok (.invokevirtual 108, 3) := by decide +kernel
theorem dX3_replicate_21 : decode cX3_replicate 21 = .ok (.goto 4, 3) := by decide +kernel
theorem dX3_replicate_24 : decode cX3_replicate 24 = .ok (.iconst 0, 1) := by decide +kernel
theorem dX3_replicate_25 : decode cX3_replicate 25 = .ok (.ireturn, 1) := by decide +kernel
set_option maxRecDepth 20000 in
theorem ggX3_round_X3_checks : GoodIn wsX3_round wsX3_checks := goodIn_r _ [6, 7, 1, 59, 60, 61, 62, 63, 64, 65, 66, 67, 68, 69, 70, 71] (by decide +kernel) (by decide +kernel)
set_option maxRecDepth 20000 in
theorem gX3_round_X3_checks : GoodIn wsX3_round (wsV RX3 98 RX3 yX3_checks wsX3_checks) := goodIn_app (goodIn_of _ (by decide +kernel)) ggX3_round_X3_checks
set_option maxRecDepth 20000 in
theorem ggX3_round_X3_stabilizes : GoodIn wsX3_round wsX3_stabilizes := goodIn_r _ [11, 7, 1, 12, 13, 14, 5, 15, 16, 17, 18, 19, 20, 21, 22, 23, 24, 25, 26, 27, 28, 29, 59, 60, 61, 62, 63, 64, 65, 66, 67, 68, 69, 70, 71] (by decide +kernel) (by decide +kernel)
set_option maxRecDepth 20000 in
theorem gX3_round_X3_stabilizes : GoodIn wsX3_round (wsV RX3 102 RX3 yX3_stabilizes wsX3_stabilizes) := goodIn_app (goodIn_of _ (by decide +kernel)) ggX3_round_X3_stabilizes
set_option maxRecDepth 20000 in
theorem ggX3_round_X3_fixes : GoodIn wsX3_round wsX3_fixes := goodIn_r _ [33, 34, 35, 36, 37, 5, 38, 39, 40, 12, 13, 14, 15, 1, 16, 20, 21, 22, 23, 24, 25, 41, 42, 43, 44, 17, 18, 19, 59, 60, 61, 62, 63, 64, 65, 66, 67, 68, 69, 70, 71] (by decide +kernel) (by decide +kernel)
set_option maxRecDepth 20000 in
theorem gX3_round_X3_fixes : GoodIn wsX3_round (wsV RX3 105 RX3 yX3_fixes wsX3_fixes) := goodIn_app (goodIn_of _ (by decide +kernel)) ggX3_round_X3_fixes
set_option maxRecDepth 20000 in
theorem ggX3_round_X3_replicates : GoodIn wsX3_round wsX3_replicates := goodIn_r _ [48, 49, 7, 20, 21, 5, 22, 23, 24, 25, 35, 36, 37, 38, 39, 40, 12, 13, 14, 15, 1, 16, 41, 42, 43, 44, 34, 17, 18, 19, 50, 51, 52, 53, 54, 55, 56, 57, 58, 59, 60, 61, 62, 63, 64, 65, 66, 67, 68, 69, 70, 71] (by decide +kernel) (by decide +kernel)
set_option maxRecDepth 20000 in
theorem gX3_round_X3_replicates : GoodIn wsX3_round (wsV RX3 108 RX3 yX3_replicates wsX3_replicates) := goodIn_app (goodIn_of _ (by decide +kernel)) ggX3_round_X3_replicates
theorem dX3_round_0 : decode cX3_round 0 = .ok (.iconst 0, 1) := by decide +kernel
theorem dX3_round_1 : decode cX3_round 1 = .ok (.istore_n 2, 1) := by decide +kernel
theorem dX3_round_2 : decode cX3_round 2 = .ok (.iload_n 2, 1) := by decide +kernel
theorem dX3_round_3 : decode cX3_round 3 = .ok (.bipush 64, 2) := by decide +kernel
theorem dX3_round_5 : decode cX3_round 5 = .ok (.if_icmp .ge 49, 3) := by decide +kernel
theorem dX3_round_8 : decode cX3_round 8 = .ok (.aload_n 0, 1) := by decide +kernel
theorem dX3_round_9 : decode cX3_round 9 = .ok (.getfield 7, 3) := by decide +kernel
theorem dX3_round_12 : decode cX3_round 12 = .ok (.iload_n 2, 1) := by decide +kernel
theorem dX3_round_13 : decode cX3_round 13 = .ok (.baload, 1) := by decide +kernel
theorem dX3_round_14 : decode cX3_round 14 = .ok (.ifCond .eq 34, 3) := by decide +kernel
theorem dX3_round_17 : decode cX3_round 17 = .ok (.aload_n 0, 1) := by decide +kernel
theorem dX3_round_18 : decode cX3_round 18 = .ok (.iload_n 2, 1) := by decide +kernel
theorem dX3_round_19 : decode cX3_round 19 = .ok (.invokevirtual 98, 3) := by decide +kernel
theorem dX3_round_22 : decode cX3_round 22 = .ok (.aload_n 0, 1) := by decide +kernel
theorem dX3_round_23 : decode cX3_round 23 = .ok (.iload_n 2, 1) := by decide +kernel
theorem dX3_round_24 : decode cX3_round 24 = .ok (.invokevirtual 102, 3) := by decide +kernel
theorem dX3_round_27 : decode cX3_round 27 = .ok (.aload_n 0, 1) := by decide +kernel
theorem dX3_round_28 : decode cX3_round 28 = .ok (.iload_n 2, 1) := by decide +kernel
theorem dX3_round_29 : decode cX3_round 29 = .ok (.invokevirtual 105, 3) := by decide +kernel
theorem dX3_round_32 : decode cX3_round 32 = .ok (.istore_n 3, 1) := by decide +kernel
theorem dX3_round_33 : decode cX3_round 33 = .ok (.iload_n 1, 1) := by decide +kernel
theorem dX3_round_34 : decode cX3_round 34 = .ok (.ifCond .eq 11, 3) := by decide +kernel
theorem dX3_round_37 : decode cX3_round 37 = .ok (.aload_n 0, 1) := by decide +kernel
theorem dX3_round_38 : decode cX3_round 38 = .ok (.iload_n 2, 1) := by decide +kernel
theorem dX3_round_39 : decode cX3_round 39 = .ok (.invokevirtual 108, 3) := by decide +kernel
theorem dX3_round_42 : decode cX3_round 42 = .ok (.goto 4, 3) := by decide +kernel
theorem dX3_round_45 : decode cX3_round 45 = .ok (.iconst 0, 1) := by decide +kernel
theorem dX3_round_46 : decode cX3_round 46 = .ok (.istore 4, 2) := by decide +kernel
theorem dX3_round_48 : decode cX3_round 48 = .ok (.iinc 2 1, 3) := by decide +kernel
theorem dX3_round_51 : decode cX3_round 51 = .ok (.goto (-49), 3) := by decide +kernel
theorem dX3_round_54 : decode cX3_round 54 = .ok (.return_, 1) := by decide +kernel
set_option maxRecDepth 20000 in
theorem ggX3_goRounds_X3_fails : GoodIn wsX3_goRounds wsX3_fails := goodIn_r _ [6, 1, 84, 85, 86, 87, 88, 89, 90, 91, 92, 93, 94, 95, 96] (by decide +kernel) (by decide +kernel)
set_option maxRecDepth 20000 in
theorem gX3_goRounds_X3_fails : GoodIn wsX3_goRounds (wsV RX3 71 RX3 yX3_fails wsX3_fails) := goodIn_app (goodIn_of _ (by decide +kernel)) ggX3_goRounds_X3_fails
set_option maxRecDepth 20000 in
theorem ggX3_goRounds_X3_round : GoodIn wsX3_goRounds wsX3_round := goodIn_r _ [10, 11, 12, 13, 14, 5, 15, 16, 17, 18, 19, 20, 21, 22, 23, 24, 25, 26, 27, 28, 29, 30, 31, 32, 33, 34, 35, 36, 37, 38, 39, 40, 41, 42, 43, 44, 45, 46, 47, 48, 49, 50, 51, 52, 53, 54, 55, 56, 57, 58, 59, 60, 61, 62, 63, 64, 65, 66, 67, 84, 85, 86, 87, 88, 89, 90, 91, 92, 93, 94, 95, 96] (by decide +kernel) (by decide +kernel)
set_option maxRecDepth 20000 in
theorem gX3_goRounds_X3_round : GoodIn wsX3_goRounds (wsV RX3 111 RX3 yX3_round wsX3_round) := goodIn_app (goodIn_of _ (by decide +kernel)) ggX3_goRounds_X3_round
set_option maxRecDepth 20000 in
theorem ggX3_goRounds_X3_countWrong : GoodIn wsX3_goRounds wsX3_countWrong := goodIn_r _ [71, 11, 72, 73, 74, 5, 75, 16, 43, 21, 22, 23, 24, 25, 76, 77, 78, 79, 80, 81, 82, 83, 84, 85, 86, 87, 88, 89, 90, 91, 92, 93, 94, 95, 96] (by decide +kernel) (by decide +kernel)
set_option maxRecDepth 20000 in
theorem gX3_goRounds_X3_countWrong : GoodIn wsX3_goRounds (wsV RX3 115 RX3 yX3_countWrong wsX3_countWrong) := goodIn_app (goodIn_of _ (by decide +kernel)) ggX3_goRounds_X3_countWrong
theorem dX3_goRounds_0 : decode cX3_goRounds 0 = .ok (.aload_n 0, 1) := by decide +kernel
theorem dX3_goRounds_1 : decode cX3_goRounds 1 = .ok (.iconst 0, 1) := by decide +kernel
theorem dX3_goRounds_2 : decode cX3_goRounds 2 = .ok (.putfield 41, 3) := by decide +kernel
theorem dX3_goRounds_5 : decode cX3_goRounds 5 = .ok (.iload_n 1, 1) := by decide +kernel
theorem dX3_goRounds_6 : decode cX3_goRounds 6 = .ok (.iconst 1, 1) := by decide +kernel
theorem dX3_goRounds_7 : decode cX3_goRounds 7 = .ok (.if_icmp .lt 9, 3) := by decide +kernel
theorem dX3_goRounds_10 : decode cX3_goRounds 10 = .ok (.iload_n 1, 1) := by decide +kernel
theorem dX3_goRounds_11 : decode cX3_goRounds 11 = .ok (.bipush 20, 2) := by decide +kernel
theorem dX3_goRounds_13 : decode cX3_goRounds 13 = .ok (.if_icmp .le 9, 3) := by decide +kernel
theorem dX3_goRounds_16 : decode cX3_goRounds 16 = .ok (.aload_n 0, 1) := by decide +kernel
theorem dX3_goRounds_17 : decode cX3_goRounds 17 = .ok (.iconst 1, 1) := by decide +kernel
theorem dX3_goRounds_18 : decode cX3_goRounds 18 = .ok (.invokevirtual 71, 3) := by decide +kernel
theorem dX3_goRounds_21 : decode cX3_goRounds 21 = .ok (.ireturn, 1) := by decide +kernel
theorem dX3_goRounds_22 : decode cX3_goRounds 22 = .ok (.iconst 0, 1) := by decide +kernel
theorem dX3_goRounds_23 : decode cX3_goRounds 23 = .ok (.istore_n 2, 1) := by decide +kernel
theorem dX3_goRounds_24 : decode cX3_goRounds 24 = .ok (.iload_n 2, 1) := by decide +kernel
theorem dX3_goRounds_25 : decode cX3_goRounds 25 = .ok (.iload_n 1, 1) := by decide +kernel
theorem dX3_goRounds_26 : decode cX3_goRounds 26 = .ok (.if_icmp .ge 14, 3) := by decide +kernel
theorem dX3_goRounds_29 : decode cX3_goRounds 29 = .ok (.aload_n 0, 1) := by decide +kernel
theorem dX3_goRounds_30 : decode cX3_goRounds 30 = .ok (.iconst 1, 1) := by decide +kernel
theorem dX3_goRounds_31 : decode cX3_goRounds 31 = .ok (.invokevirtual 111, 3) := by decide +kernel
theorem dX3_goRounds_34 : decode cX3_goRounds 34 = .ok (.iinc 2 1, 3) := by decide +kernel
theorem dX3_goRounds_37 : decode cX3_goRounds 37 = .ok (.goto (-13), 3) := by decide +kernel
theorem dX3_goRounds_40 : decode cX3_goRounds 40 = .ok (.aload_n 0, 1) := by decide +kernel
theorem dX3_goRounds_41 : decode cX3_goRounds 41 = .ok (.invokevirtual 115, 3) := by decide +kernel
theorem dX3_goRounds_44 : decode cX3_goRounds 44 = .ok (.ireturn, 1) := by decide +kernel
set_option maxRecDepth 20000 in
theorem ggX3_refusesLookup_X3_isId : GoodIn wsX3_refusesLookup wsX3_isId := goodIn_r _ [4] (by decide +kernel) (by decide +kernel)
set_option maxRecDepth 20000 in
theorem gX3_refusesLookup_X3_isId : GoodIn wsX3_refusesLookup (va_wsS RX3 67 yX3_isId wsX3_isId) := goodIn_app (goodIn_of _ (by decide +kernel)) ggX3_refusesLookup_X3_isId
set_option maxRecDepth 20000 in
theorem ggX3_refusesLookup_X3_refuses : GoodIn wsX3_refusesLookup wsX3_refuses := goodIn_r _ [8, 9, 1, 2, 3, 4, 10, 11, 12, 13, 14, 15, 16, 17, 18, 19, 20, 21, 22] (by decide +kernel) (by decide +kernel)
set_option maxRecDepth 20000 in
theorem gX3_refusesLookup_X3_refuses : GoodIn wsX3_refusesLookup (wsV RX3 85 RX3 yX3_refuses wsX3_refuses) := goodIn_app (goodIn_of _ (by decide +kernel)) ggX3_refusesLookup_X3_refuses
theorem dX3_refusesLookup_0 : decode cX3_refusesLookup 0 = .ok (.iload_n 1, 1) := by decide +kernel
theorem dX3_refusesLookup_1 : decode cX3_refusesLookup 1 = .ok (.invokestatic 67, 3) := by decide +kernel
theorem dX3_refusesLookup_4 : decode cX3_refusesLookup 4 = .ok (.ifCond .eq 18, 3) := by decide +kernel
theorem dX3_refusesLookup_7 : decode cX3_refusesLookup 7 = .ok (.iload_n 2, 1) := by decide +kernel
theorem dX3_refusesLookup_8 : decode cX3_refusesLookup 8 = .ok (.invokestatic 67, 3) := by decide +kernel
theorem dX3_refusesLookup_11 : decode cX3_refusesLookup 11 = .ok (.ifCond .eq 11, 3) := by decide +kernel
theorem dX3_refusesLookup_14 : decode cX3_refusesLookup 14 = .ok (.aload_n 0, 1) := by decide +kernel
theorem dX3_refusesLookup_15 : decode cX3_refusesLookup 15 = .ok (.iload_n 1, 1) := by decide +kernel
theorem dX3_refusesLookup_16 : decode cX3_refusesLookup 16 = .ok (.invokevirtual 85, 3) := by decide +kernel
theorem dX3_refusesLookup_19 : decode cX3_refusesLookup 19 = .ok (.goto 4, 3) := by decide +kernel
theorem dX3_refusesLookup_22 : decode cX3_refusesLookup 22 = .ok (.iconst 1, 1) := by decide +kernel
theorem dX3_refusesLookup_23 : decode cX3_refusesLookup 23 = .ok (.ireturn, 1) := by decide +kernel
set_option maxRecDepth 20000 in
theorem ggX3_lookup_X3_refusesLookup : GoodIn wsX3_lookup wsX3_refusesLookup := goodIn_r _ [6, 7, 8, 5, 9, 10, 11, 12, 13, 14, 40, 41, 42, 43, 44, 45, 46, 47, 48, 49, 50, 51, 52] (by decide +kernel) (by decide +kernel)
set_option maxRecDepth 20000 in
theorem gX3_lookup_X3_refusesLookup : GoodIn wsX3_lookup (wsV RX3 118 RX3 yX3_refusesLookup wsX3_refusesLookup) := goodIn_app (goodIn_of _ (by decide +kernel)) ggX3_lookup_X3_refusesLookup
set_option maxRecDepth 20000 in
theorem ggX3_lookup_X3_find : GoodIn wsX3_lookup wsX3_find := goodIn_r _ [18, 19, 20, 21, 22, 23, 5, 24, 14, 25, 26, 27, 28, 29, 30, 31, 32, 33, 34, 35, 36, 37, 38, 39, 40, 41, 42, 43, 44, 45, 46, 47, 48, 49, 50, 51, 52] (by decide +kernel) (by decide +kernel)
set_option maxRecDepth 20000 in
theorem gX3_lookup_X3_find : GoodIn wsX3_lookup (wsV RX3 82 RX3 yX3_find wsX3_find) := goodIn_app (goodIn_of _ (by decide +kernel)) ggX3_lookup_X3_find
theorem dX3_lookup_0 : decode cX3_lookup 0 = .ok (.aload_n 0, 1) := by decide +kernel
theorem dX3_lookup_1 : decode cX3_lookup 1 = .ok (.aload_n 0, 1) := by decide +kernel
theorem dX3_lookup_2 : decode cX3_lookup 2 = .ok (.iload_n 1, 1) := by decide +kernel
theorem dX3_lookup_3 : decode cX3_lookup 3 = .ok (.iload_n 2, 1) := by decide +kernel
theorem dX3_lookup_4 : decode cX3_lookup 4 = .ok (.invokevirtual 118, 3) := by decide +kernel
theorem dX3_lookup_7 : decode cX3_lookup 7 = .ok (.putfield 41, 3) := by decide +kernel
theorem dX3_lookup_10 : decode cX3_lookup 10 = .ok (.aload_n 0, 1) := by decide +kernel
theorem dX3_lookup_11 : decode cX3_lookup 11 = .ok (.getfield 41, 3) := by decide +kernel
theorem dX3_lookup_14 : decode cX3_lookup 14 = .ok (.ifCond .ne 12, 3) := by decide +kernel
theorem dX3_lookup_17 : decode cX3_lookup 17 = .ok (.aload_n 0, 1) := by decide +kernel
theorem dX3_lookup_18 : decode cX3_lookup 18 = .ok (.iload_n 1, 1) := by decide +kernel
theorem dX3_lookup_19 : decode cX3_lookup 19 = .ok (.iload_n 2, 1) := by decide +kernel
theorem dX3_lookup_20 : decode cX3_lookup 20 = .ok (.invokevirtual 82, 3) := by decide +kernel
theorem dX3_lookup_23 : decode cX3_lookup 23 = .ok (.goto 4, 3) := by decide +kernel
theorem dX3_lookup_26 : decode cX3_lookup 26 = .ok (.iconst 0, 1) := by decide +kernel
theorem dX3_lookup_27 : decode cX3_lookup 27 = .ok (.ireturn, 1) := by decide +kernel
set_option maxRecDepth 20000 in
theorem ggX3_hops_X3_refusesLookup : GoodIn wsX3_hops wsX3_refusesLookup := goodIn_r _ [7, 8, 9, 6, 10, 11, 12, 13, 14, 15, 40, 41, 42, 43, 44, 45, 46, 47, 48, 49, 50, 51, 52] (by decide +kernel) (by decide +kernel)
set_option maxRecDepth 20000 in
theorem gX3_hops_X3_refusesLookup : GoodIn wsX3_hops (wsV RX3 118 RX3 yX3_refusesLookup wsX3_refusesLookup) := goodIn_app (goodIn_of _ (by decide +kernel)) ggX3_hops_X3_refusesLookup
set_option maxRecDepth 20000 in
theorem ggX3_hops_X3_find : GoodIn wsX3_hops wsX3_find := goodIn_r _ [19, 2, 20, 21, 22, 23, 6, 24, 15, 25, 26, 27, 28, 29, 30, 31, 32, 33, 34, 35, 36, 37, 38, 39, 40, 41, 42, 43, 44, 45, 46, 47, 48, 49, 50, 51, 52] (by decide +kernel) (by decide +kernel)
set_option maxRecDepth 20000 in
theorem gX3_hops_X3_find : GoodIn wsX3_hops (wsV RX3 82 RX3 yX3_find wsX3_find) := goodIn_app (goodIn_of _ (by decide +kernel)) ggX3_hops_X3_find
theorem dX3_hops_0 : decode cX3_hops 0 = .ok (.aload_n 0, 1) := by decide +kernel
theorem dX3_hops_1 : decode cX3_hops 1 = .ok (.aload_n 0, 1) := by decide +kernel
theorem dX3_hops_2 : decode cX3_hops 2 = .ok (.iload_n 1, 1) := by decide +kernel
theorem dX3_hops_3 : decode cX3_hops 3 = .ok (.iload_n 2, 1) := by decide +kernel
theorem dX3_hops_4 : decode cX3_hops 4 = .ok (.invokevirtual 118, 3) := by decide +kernel
theorem dX3_hops_7 : decode cX3_hops 7 = .ok (.putfield 41, 3) := by decide +kernel
theorem dX3_hops_10 : decode cX3_hops 10 = .ok (.aload_n 0, 1) := by decide +kernel
theorem dX3_hops_11 : decode cX3_hops 11 = .ok (.getfield 41, 3) := by decide +kernel
theorem dX3_hops_14 : decode cX3_hops 14 = .ok (.ifCond .le 5, 3) := by decide +kernel
theorem dX3_hops_17 : decode cX3_hops 17 = .ok (.iconst 0, 1) := by decide +kernel
theorem dX3_hops_18 : decode cX3_hops 18 = .ok (.ireturn, 1) := by decide +kernel
theorem dX3_hops_19 : decode cX3_hops 19 = .ok (.aload_n 0, 1) := by decide +kernel
theorem dX3_hops_20 : decode cX3_hops 20 = .ok (.iload_n 1, 1) := by decide +kernel
theorem dX3_hops_21 : decode cX3_hops 21 = .ok (.iload_n 2, 1) := by decide +kernel
theorem dX3_hops_22 : decode cX3_hops 22 = .ok (.invokevirtual 82, 3) := by decide +kernel
theorem dX3_hops_25 : decode cX3_hops 25 = .ok (.istore_n 3, 1) := by decide +kernel
theorem dX3_hops_26 : decode cX3_hops 26 = .ok (.aload_n 0, 1) := by decide +kernel
theorem dX3_hops_27 : decode cX3_hops 27 = .ok (.getfield 60, 3) := by decide +kernel
theorem dX3_hops_30 : decode cX3_hops 30 = .ok (.ireturn, 1) := by decide +kernel
set_option maxRecDepth 20000 in
theorem ggX3_hopAt_X3_refusesLookup : GoodIn wsX3_hopAt wsX3_refusesLookup := goodIn_r _ [8, 9, 10, 7, 11, 12, 13, 14, 15, 16, 44, 45, 46, 47, 48, 49, 50, 51, 52, 53, 54, 55, 56] (by decide +kernel) (by decide +kernel)
set_option maxRecDepth 20000 in
theorem gX3_hopAt_X3_refusesLookup : GoodIn wsX3_hopAt (wsV RX3 118 RX3 yX3_refusesLookup wsX3_refusesLookup) := goodIn_app (goodIn_of _ (by decide +kernel)) ggX3_hopAt_X3_refusesLookup
set_option maxRecDepth 20000 in
theorem ggX3_hopAt_X3_find : GoodIn wsX3_hopAt wsX3_find := goodIn_r _ [20, 2, 3, 21, 22, 23, 7, 24, 16, 25, 26, 27, 28, 29, 30, 31, 32, 33, 34, 35, 36, 37, 38, 39, 44, 45, 46, 47, 48, 49, 50, 51, 52, 53, 54, 55, 56] (by decide +kernel) (by decide +kernel)
set_option maxRecDepth 20000 in
theorem gX3_hopAt_X3_find : GoodIn wsX3_hopAt (wsV RX3 82 RX3 yX3_find wsX3_find) := goodIn_app (goodIn_of _ (by decide +kernel)) ggX3_hopAt_X3_find
set_option maxRecDepth 20000 in
theorem ggX3_hopAt_X3_fails : GoodIn wsX3_hopAt wsX3_fails := goodIn_r _ [43, 1, 44, 45, 46, 47, 48, 49, 50, 51, 52, 53, 54, 55, 56] (by decide +kernel) (by decide +kernel)
set_option maxRecDepth 20000 in
theorem gX3_hopAt_X3_fails : GoodIn wsX3_hopAt (wsV RX3 71 RX3 yX3_fails wsX3_fails) := goodIn_app (goodIn_of _ (by decide +kernel)) ggX3_hopAt_X3_fails
theorem dX3_hopAt_0 : decode cX3_hopAt 0 = .ok (.aload_n 0, 1) := by decide +kernel
theorem dX3_hopAt_1 : decode cX3_hopAt 1 = .ok (.aload_n 0, 1) := by decide +kernel
theorem dX3_hopAt_2 : decode cX3_hopAt 2 = .ok (.iload_n 1, 1) := by decide +kernel
theorem dX3_hopAt_3 : decode cX3_hopAt 3 = .ok (.iload_n 2, 1) := by decide +kernel
theorem dX3_hopAt_4 : decode cX3_hopAt 4 = .ok (.invokevirtual 118, 3) := by decide +kernel
theorem dX3_hopAt_7 : decode cX3_hopAt 7 = .ok (.putfield 41, 3) := by decide +kernel
theorem dX3_hopAt_10 : decode cX3_hopAt 10 = .ok (.aload_n 0, 1) := by decide +kernel
theorem dX3_hopAt_11 : decode cX3_hopAt 11 = .ok (.getfield 41, 3) := by decide +kernel
theorem dX3_hopAt_14 : decode cX3_hopAt 14 = .ok (.ifCond .le 5, 3) := by decide +kernel
theorem dX3_hopAt_17 : decode cX3_hopAt 17 = .ok (.iconst 0, 1) := by decide +kernel
theorem dX3_hopAt_18 : decode cX3_hopAt 18 = .ok (.ireturn, 1) := by decide +kernel
theorem dX3_hopAt_19 : decode cX3_hopAt 19 = .ok (.aload_n 0, 1) := by decide +kernel
theorem dX3_hopAt_20 : decode cX3_hopAt 20 = .ok (.iload_n 1, 1) := by decide +kernel
theorem dX3_hopAt_21 : decode cX3_hopAt 21 = .ok (.iload_n 2, 1) := by decide +kernel
theorem dX3_hopAt_22 : decode cX3_hopAt 22 = .ok (.invokevirtual 82, 3) := by decide +kernel
theorem dX3_hopAt_25 : decode cX3_hopAt 25 = .ok (.istore 4, 2) := by decide +kernel
theorem dX3_hopAt_27 : decode cX3_hopAt 27 = .ok (.iload_n 3, 1) := by decide +kernel
theorem dX3_hopAt_28 : decode cX3_hopAt 28 = .ok (.ifCond .lt 20, 3) := by decide +kernel
theorem dX3_hopAt_31 : decode cX3_hopAt 31 = .ok (.iload_n 3, 1) := by decide +kernel
theorem dX3_hopAt_32 : decode cX3_hopAt 32 = .ok (.aload_n 0, 1) := by decide +kernel
theorem dX3_hopAt_33 : decode cX3_hopAt 33 = .ok (.getfield 60, 3) := by decide +kernel
theorem dX3_hopAt_36 : decode cX3_hopAt 36 = .ok (.if_icmp .gt 12, 3) := by decide +kernel
theorem dX3_hopAt_39 : decode cX3_hopAt 39 = .ok (.aload_n 0, 1) := by decide +kernel
theorem dX3_hopAt_40 : decode cX3_hopAt 40 = .ok (.getfield 29, 3) := by decide +kernel
theorem dX3_hopAt_43 : decode cX3_hopAt 43 = .ok (.iload_n 3, 1) := by decide +kernel
theorem dX3_hopAt_44 : decode cX3_hopAt 44 = .ok (.iaload, 1) := by decide +kernel
theorem dX3_hopAt_45 : decode cX3_hopAt 45 = .ok (.goto 8, 3) := by decide +kernel
theorem dX3_hopAt_48 : decode cX3_hopAt 48 = .ok (.aload_n 0, 1) := by decide +kernel
theorem dX3_hopAt_49 : decode cX3_hopAt 49 = .ok (.iconst 3, 1) := by decide +kernel
theorem dX3_hopAt_50 : decode cX3_hopAt 50 = .ok (.invokevirtual 71, 3) := by decide +kernel
theorem dX3_hopAt_53 : decode cX3_hopAt 53 = .ok (.ireturn, 1) := by decide +kernel
set_option maxRecDepth 20000 in
theorem ggX3_put_X3_refusesLookup : GoodIn wsX3_put wsX3_refusesLookup := goodIn_r _ [9, 10, 11, 8, 12, 13, 14, 15, 16, 17, 51, 52, 53, 54, 55, 56, 57, 58, 59, 60, 61, 62, 63] (by decide +kernel) (by decide +kernel)
set_option maxRecDepth 20000 in
theorem gX3_put_X3_refusesLookup : GoodIn wsX3_put (wsV RX3 118 RX3 yX3_refusesLookup wsX3_refusesLookup) := goodIn_app (goodIn_of _ (by decide +kernel)) ggX3_put_X3_refusesLookup
set_option maxRecDepth 20000 in
theorem ggX3_put_X3_find : GoodIn wsX3_put wsX3_find := goodIn_r _ [21, 22, 23, 24, 25, 26, 8, 27, 17, 28, 29, 30, 31, 32, 33, 34, 35, 36, 37, 38, 39, 40, 41, 42, 51, 52, 53, 54, 55, 56, 57, 58, 59, 60, 61, 62, 63] (by decide +kernel) (by decide +kernel)
set_option maxRecDepth 20000 in
theorem gX3_put_X3_find : GoodIn wsX3_put (wsV RX3 82 RX3 yX3_find wsX3_find) := goodIn_app (goodIn_of _ (by decide +kernel)) ggX3_put_X3_find
set_option maxRecDepth 20000 in
theorem ggX3_put_X3_spreads : GoodIn wsX3_put wsX3_spreads := goodIn_r _ [46, 28, 17, 47, 48, 49, 8, 50, 3, 4, 51, 52, 53, 54, 55, 56, 57, 58, 59, 60, 61, 62, 63] (by decide +kernel) (by decide +kernel)
set_option maxRecDepth 20000 in
theorem gX3_put_X3_spreads : GoodIn wsX3_put (wsV RX3 95 RX3 yX3_spreads wsX3_spreads) := goodIn_app (goodIn_of _ (by decide +kernel)) ggX3_put_X3_spreads
theorem dX3_put_0 : decode cX3_put 0 = .ok (.aload_n 0, 1) := by decide +kernel
theorem dX3_put_1 : decode cX3_put 1 = .ok (.iload_n 3, 1) := by decide +kernel
theorem dX3_put_2 : decode cX3_put 2 = .ok (.ifCond .lt 19, 3) := by decide +kernel
theorem dX3_put_5 : decode cX3_put 5 = .ok (.iload_n 3, 1) := by decide +kernel
theorem dX3_put_6 : decode cX3_put 6 = .ok (.sipush 999, 3) := by decide +kernel
theorem dX3_put_9 : decode cX3_put 9 = .ok (.if_icmp .gt 12, 3) := by decide +kernel
theorem dX3_put_12 : decode cX3_put 12 = .ok (.aload_n 0, 1) := by decide +kernel
theorem dX3_put_13 : decode cX3_put 13 = .ok (.iload_n 1, 1) := by decide +kernel
theorem dX3_put_14 : decode cX3_put 14 = .ok (.iload_n 2, 1) := by decide +kernel
theorem dX3_put_15 : decode cX3_put 15 = .ok (.invokevirtual 118, 3) := by decide +kernel
theorem dX3_put_18 : decode cX3_put 18 = .ok (.goto 4, 3) := by decide +kernel
theorem dX3_put_21 : decode cX3_put 21 = .ok (.iconst 1, 1) := by decide +kernel
theorem dX3_put_22 : decode cX3_put 22 = .ok (.putfield 41, 3) := by decide +kernel
theorem dX3_put_25 : decode cX3_put 25 = .ok (.aload_n 0, 1) := by decide +kernel
theorem dX3_put_26 : decode cX3_put 26 = .ok (.getfield 41, 3) := by decide +kernel
theorem dX3_put_29 : decode cX3_put 29 = .ok (.ifCond .ne 12, 3) := by decide +kernel
theorem dX3_put_32 : decode cX3_put 32 = .ok (.aload_n 0, 1) := by decide +kernel
theorem dX3_put_33 : decode cX3_put 33 = .ok (.iload_n 1, 1) := by decide +kernel
theorem dX3_put_34 : decode cX3_put 34 = .ok (.iload_n 2, 1) := by decide +kernel
theorem dX3_put_35 : decode cX3_put 35 = .ok (.invokevirtual 82, 3) := by decide +kernel
theorem dX3_put_38 : decode cX3_put 38 = .ok (.goto 4, 3) := by decide +kernel
theorem dX3_put_41 : decode cX3_put 41 = .ok (.iconst 0, 1) := by decide +kernel
theorem dX3_put_42 : decode cX3_put 42 = .ok (.istore 4, 2) := by decide +kernel
theorem dX3_put_44 : decode cX3_put 44 = .ok (.aload_n 0, 1) := by decide +kernel
theorem dX3_put_45 : decode cX3_put 45 = .ok (.iload 4, 2) := by decide +kernel
theorem dX3_put_47 : decode cX3_put 47 = .ok (.iconst (-1), 1) := by decide +kernel
theorem dX3_put_48 : decode cX3_put 48 = .ok (.if_icmp .ne 7, 3) := by decide +kernel
theorem dX3_put_51 : decode cX3_put 51 = .ok (.iconst 2, 1) := by decide +kernel
theorem dX3_put_52 : decode cX3_put 52 = .ok (.goto 7, 3) := by decide +kernel
theorem dX3_put_55 : decode cX3_put 55 = .ok (.aload_n 0, 1) := by decide +kernel
theorem dX3_put_56 : decode cX3_put 56 = .ok (.getfield 41, 3) := by decide +kernel
theorem dX3_put_59 : decode cX3_put 59 = .ok (.putfield 41, 3) := by decide +kernel
theorem dX3_put_62 : decode cX3_put 62 = .ok (.aload_n 0, 1) := by decide +kernel
theorem dX3_put_63 : decode cX3_put 63 = .ok (.getfield 41, 3) := by decide +kernel
theorem dX3_put_66 : decode cX3_put 66 = .ok (.ifCond .le 5, 3) := by decide +kernel
theorem dX3_put_69 : decode cX3_put 69 = .ok (.iconst 0, 1) := by decide +kernel
theorem dX3_put_70 : decode cX3_put 70 = .ok (.ireturn, 1) := by decide +kernel
theorem dX3_put_71 : decode cX3_put 71 = .ok (.aload_n 0, 1) := by decide +kernel
theorem dX3_put_72 : decode cX3_put 72 = .ok (.dup, 1) := by decide +kernel
theorem dX3_put_73 : decode cX3_put 73 = .ok (.getfield 121, 3) := by decide +kernel
theorem dX3_put_76 : decode cX3_put 76 = .ok (.iconst 1, 1) := by decide +kernel
theorem dX3_put_77 : decode cX3_put 77 = .ok (.iadd, 1) := by decide +kernel
theorem dX3_put_78 : decode cX3_put 78 = .ok (.putfield 121, 3) := by decide +kernel
theorem dX3_put_81 : decode cX3_put 81 = .ok (.aload_n 0, 1) := by decide +kernel
theorem dX3_put_82 : decode cX3_put 82 = .ok (.getfield 26, 3) := by decide +kernel
theorem dX3_put_85 : decode cX3_put 85 = .ok (.bipush 64, 2) := by decide +kernel
theorem dX3_put_87 : decode cX3_put 87 = .ok (.iload 4, 2) := by decide +kernel
theorem dX3_put_89 : decode cX3_put 89 = .ok (.imul, 1) := by decide +kernel
theorem dX3_put_90 : decode cX3_put 90 = .ok (.iload_n 2, 1) := by decide +kernel
theorem dX3_put_91 : decode cX3_put 91 = .ok (.iadd, 1) := by decide +kernel
theorem dX3_put_92 : decode cX3_put 92 = .ok (.aload_n 0, 1) := by decide +kernel
theorem dX3_put_93 : decode cX3_put 93 = .ok (.getfield 121, 3) := by decide +kernel
theorem dX3_put_96 : decode cX3_put 96 = .ok (.iastore, 1) := by decide +kernel
theorem dX3_put_97 : decode cX3_put 97 = .ok (.aload_n 0, 1) := by decide +kernel
theorem dX3_put_98 : decode cX3_put 98 = .ok (.getfield 23, 3) := by decide +kernel
theorem dX3_put_101 : decode cX3_put 101 = .ok (.bipush 64, 2) := by decide +kernel
theorem dX3_put_103 : decode cX3_put 103 = .ok (.iload 4, 2) := by decide +kernel
theorem dX3_put_105 : decode cX3_put 105 = .ok (.imul, 1) := by decide +kernel
theorem dX3_put_106 : decode cX3_put 106 = .ok (.iload_n 2, 1) := by decide +kernel
theorem dX3_put_107 : decode cX3_put 107 = .ok (.iadd, 1) := by decide +kernel
theorem dX3_put_108 : decode cX3_put 108 = .ok (.iload_n 3, 1) := by decide +kernel
theorem dX3_put_109 : decode cX3_put 109 = .ok (.iastore, 1) := by decide +kernel
theorem dX3_put_110 : decode cX3_put 110 = .ok (.aload_n 0, 1) := by decide +kernel
theorem dX3_put_111 : decode cX3_put 111 = .ok (.iload 4, 2) := by decide +kernel
theorem dX3_put_113 : decode cX3_put 113 = .ok (.iload_n 2, 1) := by decide +kernel
theorem dX3_put_114 : decode cX3_put 114 = .ok (.invokevirtual 95, 3) := by decide +kernel
theorem dX3_put_117 : decode cX3_put 117 = .ok (.istore 5, 2) := by decide +kernel
theorem dX3_put_119 : decode cX3_put 119 = .ok (.iload 4, 2) := by decide +kernel
theorem dX3_put_121 : decode cX3_put 121 = .ok (.ireturn, 1) := by decide +kernel
theorem dX3_keptAt_0 : decode cX3_keptAt 0 = .ok (.aload_n 0, 1) := by decide +kernel
theorem dX3_keptAt_1 : decode cX3_keptAt 1 = .ok (.getfield 26, 3) := by decide +kernel
theorem dX3_keptAt_4 : decode cX3_keptAt 4 = .ok (.bipush 64, 2) := by decide +kernel
theorem dX3_keptAt_6 : decode cX3_keptAt 6 = .ok (.iload_n 1, 1) := by decide +kernel
theorem dX3_keptAt_7 : decode cX3_keptAt 7 = .ok (.imul, 1) := by decide +kernel
theorem dX3_keptAt_8 : decode cX3_keptAt 8 = .ok (.iload_n 2, 1) := by decide +kernel
theorem dX3_keptAt_9 : decode cX3_keptAt 9 = .ok (.iadd, 1) := by decide +kernel
theorem dX3_keptAt_10 : decode cX3_keptAt 10 = .ok (.iaload, 1) := by decide +kernel
theorem dX3_keptAt_11 : decode cX3_keptAt 11 = .ok (.ifCond .le 17, 3) := by decide +kernel
theorem dX3_keptAt_14 : decode cX3_keptAt 14 = .ok (.aload_n 0, 1) := by decide +kernel
theorem dX3_keptAt_15 : decode cX3_keptAt 15 = .ok (.getfield 23, 3) := by decide +kernel
theorem dX3_keptAt_18 : decode cX3_keptAt 18 = .ok (.bipush 64, 2) := by decide +kernel
theorem dX3_keptAt_20 : decode cX3_keptAt 20 = .ok (.iload_n 1, 1) := by decide +kernel
theorem dX3_keptAt_21 : decode cX3_keptAt 21 = .ok (.imul, 1) := by decide +kernel
theorem dX3_keptAt_22 : decode cX3_keptAt 22 = .ok (.iload_n 2, 1) := by decide +kernel
theorem dX3_keptAt_23 : decode cX3_keptAt 23 = .ok (.iadd, 1) := by decide +kernel
theorem dX3_keptAt_24 : decode cX3_keptAt 24 = .ok (.iaload, 1) := by decide +kernel
theorem dX3_keptAt_25 : decode cX3_keptAt 25 = .ok (.goto 4, 3) := by decide +kernel
theorem dX3_keptAt_28 : decode cX3_keptAt 28 = .ok (.iconst (-1), 1) := by decide +kernel
theorem dX3_keptAt_29 : decode cX3_keptAt 29 = .ok (.ireturn, 1) := by decide +kernel
set_option maxRecDepth 20000 in
theorem ggX3_get_X3_refusesLookup : GoodIn wsX3_get wsX3_refusesLookup := goodIn_r _ [6, 7, 8, 5, 9, 10, 11, 12, 13, 14, 46, 47, 48, 49, 50, 51, 52, 53, 54, 55, 56, 57, 58] (by decide +kernel) (by decide +kernel)
set_option maxRecDepth 20000 in
theorem gX3_get_X3_refusesLookup : GoodIn wsX3_get (wsV RX3 118 RX3 yX3_refusesLookup wsX3_refusesLookup) := goodIn_app (goodIn_of _ (by decide +kernel)) ggX3_get_X3_refusesLookup
set_option maxRecDepth 20000 in
theorem ggX3_get_X3_find : GoodIn wsX3_get wsX3_find := goodIn_r _ [18, 19, 20, 21, 22, 23, 5, 24, 14, 25, 26, 27, 28, 29, 30, 31, 32, 33, 34, 35, 36, 37, 38, 39, 46, 47, 48, 49, 50, 51, 52, 53, 54, 55, 56, 57, 58] (by decide +kernel) (by decide +kernel)
set_option maxRecDepth 20000 in
theorem gX3_get_X3_find : GoodIn wsX3_get (wsV RX3 82 RX3 yX3_find wsX3_find) := goodIn_app (goodIn_of _ (by decide +kernel)) ggX3_get_X3_find
set_option maxRecDepth 20000 in
theorem ggX3_get_X3_keptAt : GoodIn wsX3_get wsX3_keptAt := goodIn_r _ [43, 44, 45, 46, 47, 48, 49, 50, 51, 52, 53, 54, 55, 56, 57, 58] (by decide +kernel) (by decide +kernel)
set_option maxRecDepth 20000 in
theorem gX3_get_X3_keptAt : GoodIn wsX3_get (wsV RX3 124 RX3 yX3_keptAt wsX3_keptAt) := goodIn_app (goodIn_of _ (by decide +kernel)) ggX3_get_X3_keptAt
theorem dX3_get_0 : decode cX3_get 0 = .ok (.aload_n 0, 1) := by decide +kernel
theorem dX3_get_1 : decode cX3_get 1 = .ok (.aload_n 0, 1) := by decide +kernel
theorem dX3_get_2 : decode cX3_get 2 = .ok (.iload_n 1, 1) := by decide +kernel
theorem dX3_get_3 : decode cX3_get 3 = .ok (.iload_n 2, 1) := by decide +kernel
theorem dX3_get_4 : decode cX3_get 4 = .ok (.invokevirtual 118, 3) := by decide +kernel
theorem dX3_get_7 : decode cX3_get 7 = .ok (.putfield 41, 3) := by decide +kernel
theorem dX3_get_10 : decode cX3_get 10 = .ok (.aload_n 0, 1) := by decide +kernel
theorem dX3_get_11 : decode cX3_get 11 = .ok (.getfield 41, 3) := by decide +kernel
theorem dX3_get_14 : decode cX3_get 14 = .ok (.ifCond .le 5, 3) := by decide +kernel
theorem dX3_get_17 : decode cX3_get 17 = .ok (.iconst 0, 1) := by decide +kernel
theorem dX3_get_18 : decode cX3_get 18 = .ok (.ireturn, 1) := by decide +kernel
theorem dX3_get_19 : decode cX3_get 19 = .ok (.aload_n 0, 1) := by decide +kernel
theorem dX3_get_20 : decode cX3_get 20 = .ok (.iload_n 1, 1) := by decide +kernel
theorem dX3_get_21 : decode cX3_get 21 = .ok (.iload_n 2, 1) := by decide +kernel
theorem dX3_get_22 : decode cX3_get 22 = .ok (.invokevirtual 82, 3) := by decide +kernel
theorem dX3_get_25 : decode cX3_get 25 = .ok (.istore_n 3, 1) := by decide +kernel
theorem dX3_get_26 : decode cX3_get 26 = .ok (.iload_n 3, 1) := by decide +kernel
theorem dX3_get_27 : decode cX3_get 27 = .ok (.iconst (-1), 1) := by decide +kernel
theorem dX3_get_28 : decode cX3_get 28 = .ok (.if_icmp .ne 7, 3) := by decide +kernel
theorem dX3_get_31 : decode cX3_get 31 = .ok (.iconst (-1), 1) := by decide +kernel
theorem dX3_get_32 : decode cX3_get 32 = .ok (.goto 9, 3) := by decide +kernel
theorem dX3_get_35 : decode cX3_get 35 = .ok (.aload_n 0, 1) := by decide +kernel
theorem dX3_get_36 : decode cX3_get 36 = .ok (.iload_n 3, 1) := by decide +kernel
theorem dX3_get_37 : decode cX3_get 37 = .ok (.iload_n 2, 1) := by decide +kernel
theorem dX3_get_38 : decode cX3_get 38 = .ok (.invokevirtual 124, 3) := by decide +kernel
theorem dX3_get_41 : decode cX3_get 41 = .ok (.ireturn, 1) := by decide +kernel
set_option maxRecDepth 20000 in
theorem ggX3_kept_X3_refusesLookup : GoodIn wsX3_kept wsX3_refusesLookup := goodIn_r _ [6, 7, 8, 5, 9, 10, 11, 12, 13, 14, 21, 22, 23, 24, 25, 26, 27, 28, 29, 30, 31, 32, 33] (by decide +kernel) (by decide +kernel)
set_option maxRecDepth 20000 in
theorem gX3_kept_X3_refusesLookup : GoodIn wsX3_kept (wsV RX3 118 RX3 yX3_refusesLookup wsX3_refusesLookup) := goodIn_app (goodIn_of _ (by decide +kernel)) ggX3_kept_X3_refusesLookup
set_option maxRecDepth 20000 in
theorem ggX3_kept_X3_keptAt : GoodIn wsX3_kept wsX3_keptAt := goodIn_r _ [18, 19, 20, 21, 22, 23, 24, 25, 26, 27, 28, 29, 30, 31, 32, 33] (by decide +kernel) (by decide +kernel)
set_option maxRecDepth 20000 in
theorem gX3_kept_X3_keptAt : GoodIn wsX3_kept (wsV RX3 124 RX3 yX3_keptAt wsX3_keptAt) := goodIn_app (goodIn_of _ (by decide +kernel)) ggX3_kept_X3_keptAt
theorem dX3_kept_0 : decode cX3_kept 0 = .ok (.aload_n 0, 1) := by decide +kernel
theorem dX3_kept_1 : decode cX3_kept 1 = .ok (.aload_n 0, 1) := by decide +kernel
theorem dX3_kept_2 : decode cX3_kept 2 = .ok (.iload_n 1, 1) := by decide +kernel
theorem dX3_kept_3 : decode cX3_kept 3 = .ok (.iload_n 2, 1) := by decide +kernel
theorem dX3_kept_4 : decode cX3_kept 4 = .ok (.invokevirtual 118, 3) := by decide +kernel
theorem dX3_kept_7 : decode cX3_kept 7 = .ok (.putfield 41, 3) := by decide +kernel
theorem dX3_kept_10 : decode cX3_kept 10 = .ok (.aload_n 0, 1) := by decide +kernel
theorem dX3_kept_11 : decode cX3_kept 11 = .ok (.getfield 41, 3) := by decide +kernel
theorem dX3_kept_14 : decode cX3_kept 14 = .ok (.ifCond .ne 12, 3) := by decide +kernel
theorem dX3_kept_17 : decode cX3_kept 17 = .ok (.aload_n 0, 1) := by decide +kernel
theorem dX3_kept_18 : decode cX3_kept 18 = .ok (.iload_n 1, 1) := by decide +kernel
theorem dX3_kept_19 : decode cX3_kept 19 = .ok (.iload_n 2, 1) := by decide +kernel
theorem dX3_kept_20 : decode cX3_kept 20 = .ok (.invokevirtual 124, 3) := by decide +kernel
theorem dX3_kept_23 : decode cX3_kept 23 = .ok (.goto 4, 3) := by decide +kernel
theorem dX3_kept_26 : decode cX3_kept 26 = .ok (.iconst 0, 1) := by decide +kernel
theorem dX3_kept_27 : decode cX3_kept 27 = .ok (.ireturn, 1) := by decide +kernel
set_option maxRecDepth 20000 in
theorem ggX3_keepers_X3_isId : GoodIn wsX3_keepers wsX3_isId := goodIn_r _ [7] (by decide +kernel) (by decide +kernel)
set_option maxRecDepth 20000 in
theorem gX3_keepers_X3_isId : GoodIn wsX3_keepers (va_wsS RX3 67 yX3_isId wsX3_isId) := goodIn_app (goodIn_of _ (by decide +kernel)) ggX3_keepers_X3_isId
set_option maxRecDepth 20000 in
theorem ggX3_keepers_X3_fails : GoodIn wsX3_keepers wsX3_fails := goodIn_r _ [11, 1, 12, 13, 14, 15, 16, 17, 18, 19, 20, 21, 22, 23, 24] (by decide +kernel) (by decide +kernel)
set_option maxRecDepth 20000 in
theorem gX3_keepers_X3_fails : GoodIn wsX3_keepers (wsV RX3 71 RX3 yX3_fails wsX3_fails) := goodIn_app (goodIn_of _ (by decide +kernel)) ggX3_keepers_X3_fails
theorem dX3_keepers_0 : decode cX3_keepers 0 = .ok (.aload_n 0, 1) := by decide +kernel
theorem dX3_keepers_1 : decode cX3_keepers 1 = .ok (.iconst 0, 1) := by decide +kernel
theorem dX3_keepers_2 : decode cX3_keepers 2 = .ok (.putfield 41, 3) := by decide +kernel
theorem dX3_keepers_5 : decode cX3_keepers 5 = .ok (.iload_n 1, 1) := by decide +kernel
theorem dX3_keepers_6 : decode cX3_keepers 6 = .ok (.invokestatic 67, 3) := by decide +kernel
theorem dX3_keepers_9 : decode cX3_keepers 9 = .ok (.ifCond .ne 9, 3) := by decide +kernel
theorem dX3_keepers_12 : decode cX3_keepers 12 = .ok (.aload_n 0, 1) := by decide +kernel
theorem dX3_keepers_13 : decode cX3_keepers 13 = .ok (.iconst 1, 1) := by decide +kernel
theorem dX3_keepers_14 : decode cX3_keepers 14 = .ok (.invokevirtual 71, 3) := by decide +kernel
theorem dX3_keepers_17 : decode cX3_keepers 17 = .ok (.ireturn, 1) := by decide +kernel
theorem dX3_keepers_18 : decode cX3_keepers 18 = .ok (.iconst 0, 1) := by decide +kernel
theorem dX3_keepers_19 : decode cX3_keepers 19 = .ok (.istore_n 2, 1) := by decide +kernel
theorem dX3_keepers_20 : decode cX3_keepers 20 = .ok (.iconst 0, 1) := by decide +kernel
theorem dX3_keepers_21 : decode cX3_keepers 21 = .ok (.istore_n 3, 1) := by decide +kernel
theorem dX3_keepers_22 : decode cX3_keepers 22 = .ok (.iload_n 3, 1) := by decide +kernel
theorem dX3_keepers_23 : decode cX3_keepers 23 = .ok (.bipush 64, 2) := by decide +kernel
theorem dX3_keepers_25 : decode cX3_keepers 25 = .ok (.if_icmp .ge 40, 3) := by decide +kernel
theorem dX3_keepers_28 : decode cX3_keepers 28 = .ok (.iload_n 2, 1) := by decide +kernel
theorem dX3_keepers_29 : decode cX3_keepers 29 = .ok (.aload_n 0, 1) := by decide +kernel
theorem dX3_keepers_30 : decode cX3_keepers 30 = .ok (.getfield 7, 3) := by decide +kernel
theorem dX3_keepers_33 : decode cX3_keepers 33 = .ok (.iload_n 3, 1) := by decide +kernel
theorem dX3_keepers_34 : decode cX3_keepers 34 = .ok (.baload, 1) := by decide +kernel
theorem dX3_keepers_35 : decode cX3_keepers 35 = .ok (.ifCond .eq 21, 3) := by decide +kernel
theorem dX3_keepers_38 : decode cX3_keepers 38 = .ok (.aload_n 0, 1) := by decide +kernel
theorem dX3_keepers_39 : decode cX3_keepers 39 = .ok (.getfield 26, 3) := by decide +kernel
theorem dX3_keepers_42 : decode cX3_keepers 42 = .ok (.bipush 64, 2) := by decide +kernel
theorem dX3_keepers_44 : decode cX3_keepers 44 = .ok (.iload_n 3, 1) := by decide +kernel
theorem dX3_keepers_45 : decode cX3_keepers 45 = .ok (.imul, 1) := by decide +kernel
theorem dX3_keepers_46 : decode cX3_keepers 46 = .ok (.iload_n 1, 1) := by decide +kernel
theorem dX3_keepers_47 : decode cX3_keepers 47 = .ok (.iadd, 1) := by decide +kernel
theorem dX3_keepers_48 : decode cX3_keepers 48 = .ok (.iaload, 1) := by decide +kernel
theorem dX3_keepers_49 : decode cX3_keepers 49 = .ok (.ifCond .le 7, 3) := by decide +kernel
theorem dX3_keepers_52 : decode cX3_keepers 52 = .ok (.iconst 1, 1) := by decide +kernel
theorem dX3_keepers_53 : decode cX3_keepers 53 = .ok (.goto 4, 3) := by decide +kernel
theorem dX3_keepers_56 : decode cX3_keepers 56 = .ok (.iconst 0, 1) := by decide +kernel
theorem dX3_keepers_57 : decode cX3_keepers 57 = .ok (.iadd, 1) := by decide +kernel
theorem dX3_keepers_58 : decode cX3_keepers 58 = .ok (.istore_n 2, 1) := by decide +kernel
theorem dX3_keepers_59 : decode cX3_keepers 59 = .ok (.iinc 3 1, 3) := by decide +kernel
theorem dX3_keepers_62 : decode cX3_keepers 62 = .ok (.goto (-40), 3) := by decide +kernel
theorem dX3_keepers_65 : decode cX3_keepers 65 = .ok (.iload_n 2, 1) := by decide +kernel
theorem dX3_keepers_66 : decode cX3_keepers 66 = .ok (.ireturn, 1) := by decide +kernel
theorem dX3_ownerOf_0 : decode cX3_ownerOf 0 = .ok (.iconst (-1), 1) := by decide +kernel
theorem dX3_ownerOf_1 : decode cX3_ownerOf 1 = .ok (.istore_n 2, 1) := by decide +kernel
theorem dX3_ownerOf_2 : decode cX3_ownerOf 2 = .ok (.bipush 63, 2) := by decide +kernel
theorem dX3_ownerOf_4 : decode cX3_ownerOf 4 = .ok (.istore_n 3, 1) := by decide +kernel
theorem dX3_ownerOf_5 : decode cX3_ownerOf 5 = .ok (.iload_n 3, 1) := by decide +kernel
theorem dX3_ownerOf_6 : decode cX3_ownerOf 6 = .ok (.ifCond .lt 34, 3) := by decide +kernel
theorem dX3_ownerOf_9 : decode cX3_ownerOf 9 = .ok (.aload_n 0, 1) := by decide +kernel
theorem dX3_ownerOf_10 : decode cX3_ownerOf 10 = .ok (.getfield 7, 3) := by decide +kernel
theorem dX3_ownerOf_13 : decode cX3_ownerOf 13 = .ok (.iload_n 1, 1) := by decide +kernel
theorem dX3_ownerOf_14 : decode cX3_ownerOf 14 = .ok (.iload_n 3, 1) := by decide +kernel
theorem dX3_ownerOf_15 : decode cX3_ownerOf 15 = .ok (.iadd, 1) := by decide +kernel
theorem dX3_ownerOf_16 : decode cX3_ownerOf 16 = .ok (.bipush 64, 2) := by decide +kernel
theorem dX3_ownerOf_18 : decode cX3_ownerOf 18 = .ok (.irem, 1) := by decide +kernel
theorem dX3_ownerOf_19 : decode cX3_ownerOf 19 = .ok (.baload, 1) := by decide +kernel
theorem dX3_ownerOf_20 : decode cX3_ownerOf 20 = .ok (.ifCond .eq 12, 3) := by decide +kernel
theorem dX3_ownerOf_23 : decode cX3_ownerOf 23 = .ok (.iload_n 1, 1) := by decide +kernel
theorem dX3_ownerOf_24 : decode cX3_ownerOf 24 = .ok (.iload_n 3, 1) := by decide +kernel
theorem dX3_ownerOf_25 : decode cX3_ownerOf 25 = .ok (.iadd, 1) := by decide +kernel
theorem dX3_ownerOf_26 : decode cX3_ownerOf 26 = .ok (.bipush 64, 2) := by decide +kernel
theorem dX3_ownerOf_28 : decode cX3_ownerOf 28 = .ok (.irem, 1) := by decide +kernel
theorem dX3_ownerOf_29 : decode cX3_ownerOf 29 = .ok (.goto 4, 3) := by decide +kernel
theorem dX3_ownerOf_32 : decode cX3_ownerOf 32 = .ok (.iload_n 2, 1) := by decide +kernel
theorem dX3_ownerOf_33 : decode cX3_ownerOf 33 = .ok (.istore_n 2, 1) := by decide +kernel
theorem dX3_ownerOf_34 : decode cX3_ownerOf 34 = .ok (.iinc 3 (-1), 3) := by decide +kernel
theorem dX3_ownerOf_37 : decode cX3_ownerOf 37 = .ok (.goto (-32), 3) := by decide +kernel
theorem dX3_ownerOf_40 : decode cX3_ownerOf 40 = .ok (.iload_n 2, 1) := by decide +kernel
theorem dX3_ownerOf_41 : decode cX3_ownerOf 41 = .ok (.ireturn, 1) := by decide +kernel
theorem dX3_before_0 : decode cX3_before 0 = .ok (.iload_n 1, 1) := by decide +kernel
theorem dX3_before_1 : decode cX3_before 1 = .ok (.istore_n 2, 1) := by decide +kernel
theorem dX3_before_2 : decode cX3_before 2 = .ok (.bipush 64, 2) := by decide +kernel
theorem dX3_before_4 : decode cX3_before 4 = .ok (.istore_n 3, 1) := by decide +kernel
theorem dX3_before_5 : decode cX3_before 5 = .ok (.iload_n 3, 1) := by decide +kernel
theorem dX3_before_6 : decode cX3_before 6 = .ok (.ifCond .le 40, 3) := by decide +kernel
theorem dX3_before_9 : decode cX3_before 9 = .ok (.aload_n 0, 1) := by decide +kernel
theorem dX3_before_10 : decode cX3_before 10 = .ok (.getfield 7, 3) := by decide +kernel
theorem dX3_before_13 : decode cX3_before 13 = .ok (.iload_n 1, 1) := by decide +kernel
theorem dX3_before_14 : decode cX3_before 14 = .ok (.bipush 64, 2) := by decide +kernel
theorem dX3_before_16 : decode cX3_before 16 = .ok (.iadd, 1) := by decide +kernel
theorem dX3_before_17 : decode cX3_before 17 = .ok (.iload_n 3, 1) := by decide +kernel
theorem dX3_before_18 : decode cX3_before 18 = .ok (.isub, 1) := by decide +kernel
theorem dX3_before_19 : decode cX3_before 19 = .ok (.bipush 64, 2) := by decide +kernel
theorem dX3_before_21 : decode cX3_before 21 = .ok (.irem, 1) := by decide +kernel
theorem dX3_before_22 : decode cX3_before 22 = .ok (.baload, 1) := by decide +kernel
theorem dX3_before_23 : decode cX3_before 23 = .ok (.ifCond .eq 15, 3) := by decide +kernel
theorem dX3_before_26 : decode cX3_before 26 = .ok (.iload_n 1, 1) := by decide +kernel
theorem dX3_before_27 : decode cX3_before 27 = .ok (.bipush 64, 2) := by decide +kernel
theorem dX3_before_29 : decode cX3_before 29 = .ok (.iadd, 1) := by decide +kernel
theorem dX3_before_30 : decode cX3_before 30 = .ok (.iload_n 3, 1) := by decide +kernel
theorem dX3_before_31 : decode cX3_before 31 = .ok (.isub, 1) := by decide +kernel
theorem dX3_before_32 : decode cX3_before 32 = .ok (.bipush 64, 2) := by decide +kernel
theorem dX3_before_34 : decode cX3_before 34 = .ok (.irem, 1) := by decide +kernel
theorem dX3_before_35 : decode cX3_before 35 = .ok (.goto 4, 3) := by decide +kernel
theorem dX3_before_38 : decode cX3_before 38 = .ok (.iload_n 2, 1) := by decide +kernel
theorem dX3_before_39 : decode cX3_before 39 = .ok (.istore_n 2, 1) := by decide +kernel
theorem dX3_before_40 : decode cX3_before 40 = .ok (.iinc 3 (-1), 3) := by decide +kernel
theorem dX3_before_43 : decode cX3_before 43 = .ok (.goto (-38), 3) := by decide +kernel
theorem dX3_before_46 : decode cX3_before 46 = .ok (.iload_n 2, 1) := by decide +kernel
theorem dX3_before_47 : decode cX3_before 47 = .ok (.ireturn, 1) := by decide +kernel
set_option maxRecDepth 20000 in
theorem ggX3_wrongOf_X3_liveSuccessorOf : GoodIn wsX3_wrongOf wsX3_liveSuccessorOf := goodIn_r _ [7, 8, 9, 18, 19, 20, 21, 22, 23, 24, 25, 26, 27, 28, 29, 30] (by decide +kernel) (by decide +kernel)
set_option maxRecDepth 20000 in
theorem gX3_wrongOf_X3_liveSuccessorOf : GoodIn wsX3_wrongOf (wsV RX3 56 RX3 yX3_liveSuccessorOf wsX3_liveSuccessorOf) := goodIn_app (goodIn_of _ (by decide +kernel)) ggX3_wrongOf_X3_liveSuccessorOf
set_option maxRecDepth 20000 in
theorem ggX3_wrongOf_X3_ownerOf : GoodIn wsX3_wrongOf wsX3_ownerOf := goodIn_r _ [13, 8, 18, 19, 20, 21, 22, 23, 24, 25, 26, 27, 28, 29, 30] (by decide +kernel) (by decide +kernel)
set_option maxRecDepth 20000 in
theorem gX3_wrongOf_X3_ownerOf : GoodIn wsX3_wrongOf (wsV RX3 127 RX3 yX3_ownerOf wsX3_ownerOf) := goodIn_app (goodIn_of _ (by decide +kernel)) ggX3_wrongOf_X3_ownerOf
set_option maxRecDepth 20000 in
theorem ggX3_wrongOf_X3_before : GoodIn wsX3_wrongOf wsX3_before := goodIn_r _ [17, 8, 18, 19, 20, 21, 22, 23, 24, 25, 26, 27, 28, 29, 30] (by decide +kernel) (by decide +kernel)
set_option maxRecDepth 20000 in
theorem gX3_wrongOf_X3_before : GoodIn wsX3_wrongOf (wsV RX3 130 RX3 yX3_before wsX3_before) := goodIn_app (goodIn_of _ (by decide +kernel)) ggX3_wrongOf_X3_before
theorem dX3_wrongOf_0 : decode cX3_wrongOf 0 = .ok (.aload_n 0, 1) := by decide +kernel
theorem dX3_wrongOf_1 : decode cX3_wrongOf 1 = .ok (.iload_n 1, 1) := by decide +kernel
theorem dX3_wrongOf_2 : decode cX3_wrongOf 2 = .ok (.invokevirtual 56, 3) := by decide +kernel
theorem dX3_wrongOf_5 : decode cX3_wrongOf 5 = .ok (.aload_n 0, 1) := by decide +kernel
theorem dX3_wrongOf_6 : decode cX3_wrongOf 6 = .ok (.iload_n 1, 1) := by decide +kernel
theorem dX3_wrongOf_7 : decode cX3_wrongOf 7 = .ok (.iconst 1, 1) := by decide +kernel
theorem dX3_wrongOf_8 : decode cX3_wrongOf 8 = .ok (.iadd, 1) := by decide +kernel
theorem dX3_wrongOf_9 : decode cX3_wrongOf 9 = .ok (.bipush 64, 2) := by decide +kernel
theorem dX3_wrongOf_11 : decode cX3_wrongOf 11 = .ok (.irem, 1) := by decide +kernel
theorem dX3_wrongOf_12 : decode cX3_wrongOf 12 = .ok (.invokevirtual 127, 3) := by decide +kernel
theorem dX3_wrongOf_15 : decode cX3_wrongOf 15 = .ok (.if_icmp .ne 7, 3) := by decide +kernel
theorem dX3_wrongOf_18 : decode cX3_wrongOf 18 = .ok (.iconst 0, 1) := by decide +kernel
theorem dX3_wrongOf_19 : decode cX3_wrongOf 19 = .ok (.goto 4, 3) := by decide +kernel
theorem dX3_wrongOf_22 : decode cX3_wrongOf 22 = .ok (.iconst 1, 1) := by decide +kernel
theorem dX3_wrongOf_23 : decode cX3_wrongOf 23 = .ok (.istore_n 2, 1) := by decide +kernel
theorem dX3_wrongOf_24 : decode cX3_wrongOf 24 = .ok (.iload_n 2, 1) := by decide +kernel
theorem dX3_wrongOf_25 : decode cX3_wrongOf 25 = .ok (.aload_n 0, 1) := by decide +kernel
theorem dX3_wrongOf_26 : decode cX3_wrongOf 26 = .ok (.getfield 17, 3) := by decide +kernel
theorem dX3_wrongOf_29 : decode cX3_wrongOf 29 = .ok (.iload_n 1, 1) := by decide +kernel
theorem dX3_wrongOf_30 : decode cX3_wrongOf 30 = .ok (.iaload, 1) := by decide +kernel
theorem dX3_wrongOf_31 : decode cX3_wrongOf 31 = .ok (.aload_n 0, 1) := by decide +kernel
theorem dX3_wrongOf_32 : decode cX3_wrongOf 32 = .ok (.iload_n 1, 1) := by decide +kernel
theorem dX3_wrongOf_33 : decode cX3_wrongOf 33 = .ok (.invokevirtual 130, 3) := by decide +kernel
theorem dX3_wrongOf_36 : decode cX3_wrongOf 36 = .ok (.if_icmp .ne 7, 3) := by decide +kernel
theorem dX3_wrongOf_39 : decode cX3_wrongOf 39 = .ok (.iconst 0, 1) := by decide +kernel
theorem dX3_wrongOf_40 : decode cX3_wrongOf 40 = .ok (.goto 4, 3) := by decide +kernel
theorem dX3_wrongOf_43 : decode cX3_wrongOf 43 = .ok (.iconst 1, 1) := by decide +kernel
theorem dX3_wrongOf_44 : decode cX3_wrongOf 44 = .ok (.iadd, 1) := by decide +kernel
theorem dX3_wrongOf_45 : decode cX3_wrongOf 45 = .ok (.istore_n 2, 1) := by decide +kernel
theorem dX3_wrongOf_46 : decode cX3_wrongOf 46 = .ok (.iconst 0, 1) := by decide +kernel
theorem dX3_wrongOf_47 : decode cX3_wrongOf 47 = .ok (.istore_n 3, 1) := by decide +kernel
theorem dX3_wrongOf_48 : decode cX3_wrongOf 48 = .ok (.iload_n 3, 1) := by decide +kernel
theorem dX3_wrongOf_49 : decode cX3_wrongOf 49 = .ok (.bipush 6, 2) := by decide +kernel
theorem dX3_wrongOf_51 : decode cX3_wrongOf 51 = .ok (.if_icmp .ge 43, 3) := by decide +kernel
theorem dX3_wrongOf_54 : decode cX3_wrongOf 54 = .ok (.iload_n 2, 1) := by decide +kernel
theorem dX3_wrongOf_55 : decode cX3_wrongOf 55 = .ok (.aload_n 0, 1) := by decide +kernel
theorem dX3_wrongOf_56 : decode cX3_wrongOf 56 = .ok (.getfield 20, 3) := by decide +kernel
theorem dX3_wrongOf_59 : decode cX3_wrongOf 59 = .ok (.bipush 6, 2) := by decide +kernel
theorem dX3_wrongOf_61 : decode cX3_wrongOf 61 = .ok (.iload_n 1, 1) := by decide +kernel
theorem dX3_wrongOf_62 : decode cX3_wrongOf 62 = .ok (.imul, 1) := by decide +kernel
theorem dX3_wrongOf_63 : decode cX3_wrongOf 63 = .ok (.iload_n 3, 1) := by decide +kernel
theorem dX3_wrongOf_64 : decode cX3_wrongOf 64 = .ok (.iadd, 1) := by decide +kernel
theorem dX3_wrongOf_65 : decode cX3_wrongOf 65 = .ok (.iaload, 1) := by decide +kernel
theorem dX3_wrongOf_66 : decode cX3_wrongOf 66 = .ok (.aload_n 0, 1) := by decide +kernel
theorem dX3_wrongOf_67 : decode cX3_wrongOf 67 = .ok (.iload_n 1, 1) := by decide +kernel
theorem dX3_wrongOf_68 : decode cX3_wrongOf 68 = .ok (.iconst 1, 1) := by decide +kernel
theorem dX3_wrongOf_69 : decode cX3_wrongOf 69 = .ok (.iload_n 3, 1) := by decide +kernel
theorem dX3_wrongOf_70 : decode cX3_wrongOf 70 = .ok (.ishl, 1) := by decide +kernel
theorem dX3_wrongOf_71 : decode cX3_wrongOf 71 = .ok (.iadd, 1) := by decide +kernel
theorem dX3_wrongOf_72 : decode cX3_wrongOf 72 = .ok (.bipush 64, 2) := by decide +kernel
theorem dX3_wrongOf_74 : decode cX3_wrongOf 74 = .ok (.irem, 1) := by decide +kernel
theorem dX3_wrongOf_75 : decode cX3_wrongOf 75 = .ok (.invokevirtual 127, 3) := by decide +kernel
theorem dX3_wrongOf_78 : decode cX3_wrongOf 78 = .ok (.if_icmp .ne 7, 3) := by decide +kernel
theorem dX3_wrongOf_81 : decode cX3_wrongOf 81 = .ok (.iconst 0, 1) := by decide +kernel
theorem dX3_wrongOf_82 : decode cX3_wrongOf 82 = .ok (.goto 4, 3) := by decide +kernel
theorem dX3_wrongOf_85 : decode cX3_wrongOf 85 = .ok (.iconst 1, 1) := by decide +kernel
theorem dX3_wrongOf_86 : decode cX3_wrongOf 86 = .ok (.iadd, 1) := by decide +kernel
theorem dX3_wrongOf_87 : decode cX3_wrongOf 87 = .ok (.istore_n 2, 1) := by decide +kernel
theorem dX3_wrongOf_88 : decode cX3_wrongOf 88 = .ok (.iinc 3 1, 3) := by decide +kernel
theorem dX3_wrongOf_91 : decode cX3_wrongOf 91 = .ok (.goto (-43), 3) := by decide +kernel
theorem dX3_wrongOf_94 : decode cX3_wrongOf 94 = .ok (.iload_n 2, 1) := by decide +kernel
theorem dX3_wrongOf_95 : decode cX3_wrongOf 95 = .ok (.ireturn, 1) := by decide +kernel
set_option maxRecDepth 20000 in
theorem ggX3_countWrong_X3_wrongOf : GoodIn wsX3_countWrong wsX3_wrongOf := goodIn_r _ [6, 7, 8, 9, 10, 11, 5, 12, 1, 13, 14, 15, 16, 17, 18, 19, 20, 21, 22, 23, 24, 25, 26, 27, 28, 29, 30, 31, 32, 33, 34] (by decide +kernel) (by decide +kernel)
set_option maxRecDepth 20000 in
theorem gX3_countWrong_X3_wrongOf : GoodIn wsX3_countWrong (wsV RX3 133 RX3 yX3_wrongOf wsX3_wrongOf) := goodIn_app (goodIn_of _ (by decide +kernel)) ggX3_countWrong_X3_wrongOf
theorem dX3_countWrong_0 : decode cX3_countWrong 0 = .ok (.iconst 0, 1) := by decide +kernel
theorem dX3_countWrong_1 : decode cX3_countWrong 1 = .ok (.istore_n 1, 1) := by decide +kernel
theorem dX3_countWrong_2 : decode cX3_countWrong 2 = .ok (.iconst 0, 1) := by decide +kernel
theorem dX3_countWrong_3 : decode cX3_countWrong 3 = .ok (.istore_n 2, 1) := by decide +kernel
theorem dX3_countWrong_4 : decode cX3_countWrong 4 = .ok (.iload_n 2, 1) := by decide +kernel
theorem dX3_countWrong_5 : decode cX3_countWrong 5 = .ok (.bipush 64, 2) := by decide +kernel
theorem dX3_countWrong_7 : decode cX3_countWrong 7 = .ok (.if_icmp .ge 30, 3) := by decide +kernel
theorem dX3_countWrong_10 : decode cX3_countWrong 10 = .ok (.iload_n 1, 1) := by decide +kernel
theorem dX3_countWrong_11 : decode cX3_countWrong 11 = .ok (.aload_n 0, 1) := by decide +kernel
theorem dX3_countWrong_12 : decode cX3_countWrong 12 = .ok (.getfield 7, 3) := by decide +kernel
theorem dX3_countWrong_15 : decode cX3_countWrong 15 = .ok (.iload_n 2, 1) := by decide +kernel
theorem dX3_countWrong_16 : decode cX3_countWrong 16 = .ok (.baload, 1) := by decide +kernel
theorem dX3_countWrong_17 : decode cX3_countWrong 17 = .ok (.ifCond .eq 11, 3) := by decide +kernel
theorem dX3_countWrong_20 : decode cX3_countWrong 20 = .ok (.aload_n 0, 1) := by decide +kernel
theorem dX3_countWrong_21 : decode cX3_countWrong 21 = .ok (.iload_n 2, 1) := by decide +kernel
theorem dX3_countWrong_22 : decode cX3_countWrong 22 = .ok (.invokevirtual 133, 3) := by decide +kernel
theorem dX3_countWrong_25 : decode cX3_countWrong 25 = .ok (.goto 4, 3) := by decide +kernel
theorem dX3_countWrong_28 : decode cX3_countWrong 28 = .ok (.iconst 0, 1) := by decide +kernel
theorem dX3_countWrong_29 : decode cX3_countWrong 29 = .ok (.iadd, 1) := by decide +kernel
theorem dX3_countWrong_30 : decode cX3_countWrong 30 = .ok (.istore_n 1, 1) := by decide +kernel
theorem dX3_countWrong_31 : decode cX3_countWrong 31 = .ok (.iinc 2 1, 3) := by decide +kernel
theorem dX3_countWrong_34 : decode cX3_countWrong 34 = .ok (.goto (-30), 3) := by decide +kernel
theorem dX3_countWrong_37 : decode cX3_countWrong 37 = .ok (.iload_n 1, 1) := by decide +kernel
theorem dX3_countWrong_38 : decode cX3_countWrong 38 = .ok (.ireturn, 1) := by decide +kernel
set_option maxRecDepth 20000 in
theorem ggX3_owner_X3_isId : GoodIn wsX3_owner wsX3_isId := goodIn_r _ [5] (by decide +kernel) (by decide +kernel)
set_option maxRecDepth 20000 in
theorem gX3_owner_X3_isId : GoodIn wsX3_owner (va_wsS RX3 67 yX3_isId wsX3_isId) := goodIn_app (goodIn_of _ (by decide +kernel)) ggX3_owner_X3_isId
set_option maxRecDepth 20000 in
theorem ggX3_owner_X3_ownerOf : GoodIn wsX3_owner wsX3_ownerOf := goodIn_r _ [9, 10, 15, 16, 17, 18, 19, 20, 21, 22, 23, 24, 25, 26, 27] (by decide +kernel) (by decide +kernel)
set_option maxRecDepth 20000 in
theorem gX3_owner_X3_ownerOf : GoodIn wsX3_owner (wsV RX3 127 RX3 yX3_ownerOf wsX3_ownerOf) := goodIn_app (goodIn_of _ (by decide +kernel)) ggX3_owner_X3_ownerOf
set_option maxRecDepth 20000 in
theorem ggX3_owner_X3_fails : GoodIn wsX3_owner wsX3_fails := goodIn_r _ [14, 1, 15, 16, 17, 18, 19, 20, 21, 22, 23, 24, 25, 26, 27] (by decide +kernel) (by decide +kernel)
set_option maxRecDepth 20000 in
theorem gX3_owner_X3_fails : GoodIn wsX3_owner (wsV RX3 71 RX3 yX3_fails wsX3_fails) := goodIn_app (goodIn_of _ (by decide +kernel)) ggX3_owner_X3_fails
theorem dX3_owner_0 : decode cX3_owner 0 = .ok (.aload_n 0, 1) := by decide +kernel
theorem dX3_owner_1 : decode cX3_owner 1 = .ok (.iconst 0, 1) := by decide +kernel
theorem dX3_owner_2 : decode cX3_owner 2 = .ok (.putfield 41, 3) := by decide +kernel
theorem dX3_owner_5 : decode cX3_owner 5 = .ok (.iload_n 1, 1) := by decide +kernel
theorem dX3_owner_6 : decode cX3_owner 6 = .ok (.invokestatic 67, 3) := by decide +kernel
theorem dX3_owner_9 : decode cX3_owner 9 = .ok (.ifCond .eq 11, 3) := by decide +kernel
theorem dX3_owner_12 : decode cX3_owner 12 = .ok (.aload_n 0, 1) := by decide +kernel
theorem dX3_owner_13 : decode cX3_owner 13 = .ok (.iload_n 1, 1) := by decide +kernel
theorem dX3_owner_14 : decode cX3_owner 14 = .ok (.invokevirtual 127, 3) := by decide +kernel
theorem dX3_owner_17 : decode cX3_owner 17 = .ok (.goto 8, 3) := by decide +kernel
theorem dX3_owner_20 : decode cX3_owner 20 = .ok (.aload_n 0, 1) := by decide +kernel
theorem dX3_owner_21 : decode cX3_owner 21 = .ok (.iconst 1, 1) := by decide +kernel
theorem dX3_owner_22 : decode cX3_owner 22 = .ok (.invokevirtual 71, 3) := by decide +kernel
theorem dX3_owner_25 : decode cX3_owner 25 = .ok (.ireturn, 1) := by decide +kernel
set_option maxRecDepth 20000 in
theorem ggX3_wrongPointers_X3_countWrong : GoodIn wsX3_wrongPointers wsX3_countWrong := goodIn_r _ [6, 7, 8, 9, 10, 5, 11, 12, 13, 14, 15, 16, 17, 18, 19, 20, 21, 22, 23, 24, 25, 26, 27, 28, 29, 30, 31, 32, 33, 34, 35, 36, 37, 38, 39] (by decide +kernel) (by decide +kernel)
set_option maxRecDepth 20000 in
theorem gX3_wrongPointers_X3_countWrong : GoodIn wsX3_wrongPointers (wsV RX3 115 RX3 yX3_countWrong wsX3_countWrong) := goodIn_app (goodIn_of _ (by decide +kernel)) ggX3_wrongPointers_X3_countWrong
theorem dX3_wrongPointers_0 : decode cX3_wrongPointers 0 = .ok (.aload_n 0, 1) := by decide +kernel
theorem dX3_wrongPointers_1 : decode cX3_wrongPointers 1 = .ok (.iconst 0, 1) := by decide +kernel
theorem dX3_wrongPointers_2 : decode cX3_wrongPointers 2 = .ok (.putfield 41, 3) := by decide +kernel
theorem dX3_wrongPointers_5 : decode cX3_wrongPointers 5 = .ok (.aload_n 0, 1) := by decide +kernel
theorem dX3_wrongPointers_6 : decode cX3_wrongPointers 6 = .ok (.invokevirtual 115, 3) := by decide +kernel
theorem dX3_wrongPointers_9 : decode cX3_wrongPointers 9 = .ok (.ireturn, 1) := by decide +kernel
theorem dX3_move_0 : decode cX3_move 0 = .ok (.iconst 0, 1) := by decide +kernel
theorem dX3_move_1 : decode cX3_move 1 = .ok (.istore_n 2, 1) := by decide +kernel
theorem dX3_move_2 : decode cX3_move 2 = .ok (.iload_n 2, 1) := by decide +kernel
theorem dX3_move_3 : decode cX3_move 3 = .ok (.aload_n 0, 1) := by decide +kernel
theorem dX3_move_4 : decode cX3_move 4 = .ok (.arraylength, 1) := by decide +kernel
theorem dX3_move_5 : decode cX3_move 5 = .ok (.if_icmp .ge 15, 3) := by decide +kernel
theorem dX3_move_8 : decode cX3_move 8 = .ok (.aload_n 1, 1) := by decide +kernel
theorem dX3_move_9 : decode cX3_move 9 = .ok (.iload_n 2, 1) := by decide +kernel
theorem dX3_move_10 : decode cX3_move 10 = .ok (.aload_n 0, 1) := by decide +kernel
theorem dX3_move_11 : decode cX3_move 11 = .ok (.iload_n 2, 1) := by decide +kernel
theorem dX3_move_12 : decode cX3_move 12 = .ok (.iaload, 1) := by decide +kernel
theorem dX3_move_13 : decode cX3_move 13 = .ok (.iastore, 1) := by decide +kernel
theorem dX3_move_14 : decode cX3_move 14 = .ok (.iinc 2 1, 3) := by decide +kernel
theorem dX3_move_17 : decode cX3_move 17 = .ok (.goto (-15), 3) := by decide +kernel
theorem dX3_move_20 : decode cX3_move 20 = .ok (.return_, 1) := by decide +kernel
set_option maxRecDepth 20000 in
theorem ggX3_roundsToRight_X3_fails : GoodIn wsX3_roundsToRight wsX3_fails := goodIn_r _ [12, 1, 90, 91, 92, 93, 94, 95, 96, 97, 98, 99, 100, 101, 102] (by decide +kernel) (by decide +kernel)
set_option maxRecDepth 20000 in
theorem gX3_roundsToRight_X3_fails : GoodIn wsX3_roundsToRight (wsV RX3 71 RX3 yX3_fails wsX3_fails) := goodIn_app (goodIn_of _ (by decide +kernel)) ggX3_roundsToRight_X3_fails
set_option maxRecDepth 20000 in
theorem ggX3_roundsToRight_X3_move : GoodIn wsX3_roundsToRight wsX3_move := goodIn_r _ [15] (by decide +kernel) (by decide +kernel)
set_option maxRecDepth 20000 in
theorem gX3_roundsToRight_X3_move : GoodIn wsX3_roundsToRight (va_wsS RX3 136 yX3_move wsX3_move) := goodIn_app (goodIn_of _ (by decide +kernel)) ggX3_roundsToRight_X3_move
set_option maxRecDepth 20000 in
theorem ggX3_roundsToRight_X3_countWrong : GoodIn wsX3_roundsToRight wsX3_countWrong := goodIn_r _ [19, 20, 21, 22, 23, 11, 24, 4, 6, 25, 26, 27, 28, 2, 29, 30, 31, 32, 33, 34, 35, 36, 90, 91, 92, 93, 94, 95, 96, 97, 98, 99, 100, 101, 102] (by decide +kernel) (by decide +kernel)
set_option maxRecDepth 20000 in
theorem gX3_roundsToRight_X3_countWrong : GoodIn wsX3_roundsToRight (wsV RX3 115 RX3 yX3_countWrong wsX3_countWrong) := goodIn_app (goodIn_of _ (by decide +kernel)) ggX3_roundsToRight_X3_countWrong
set_option maxRecDepth 20000 in
theorem ggX3_roundsToRight_X3_round : GoodIn wsX3_roundsToRight wsX3_round := goodIn_r _ [40, 20, 41, 42, 43, 11, 44, 4, 45, 46, 47, 48, 25, 26, 27, 28, 2, 49, 50, 51, 52, 53, 54, 55, 56, 57, 58, 59, 60, 61, 62, 63, 64, 65, 6, 66, 67, 68, 69, 70, 71, 72, 73, 74, 75, 76, 77, 78, 79, 80, 81, 82, 83, 84, 85, 86, 87, 88, 89, 90, 91, 92, 93, 94, 95, 96, 97, 98, 99, 100, 101, 102] (by decide +kernel) (by decide +kernel)
set_option maxRecDepth 20000 in
theorem gX3_roundsToRight_X3_round : GoodIn wsX3_roundsToRight (wsV RX3 111 RX3 yX3_round wsX3_round) := goodIn_app (goodIn_of _ (by decide +kernel)) ggX3_roundsToRight_X3_round
theorem dX3_roundsToRight_0 : decode cX3_roundsToRight 0 = .ok (.aload_n 0, 1) := by decide +kernel
theorem dX3_roundsToRight_1 : decode cX3_roundsToRight 1 = .ok (.iconst 0, 1) := by decide +kernel
theorem dX3_roundsToRight_2 : decode cX3_roundsToRight 2 = .ok (.putfield 41, 3) := by decide +kernel
theorem dX3_roundsToRight_5 : decode cX3_roundsToRight 5 = .ok (.iload_n 1, 1) := by decide +kernel
theorem dX3_roundsToRight_6 : decode cX3_roundsToRight 6 = .ok (.iconst 1, 1) := by decide +kernel
theorem dX3_roundsToRight_7 : decode cX3_roundsToRight 7 = .ok (.if_icmp .lt 9, 3) := by decide +kernel
theorem dX3_roundsToRight_10 : decode cX3_roundsToRight 10 = .ok (.iload_n 1, 1) := by decide +kernel
theorem dX3_roundsToRight_11 : decode cX3_roundsToRight 11 = .ok (.bipush 30, 2) := by decide +kernel
theorem dX3_roundsToRight_13 : decode cX3_roundsToRight 13 = .ok (.if_icmp .le 9, 3) := by decide +kernel
theorem dX3_roundsToRight_16 : decode cX3_roundsToRight 16 = .ok (.aload_n 0, 1) := by decide +kernel
theorem dX3_roundsToRight_17 : decode cX3_roundsToRight 17 = .ok (.iconst 1, 1) := by decide +kernel
theorem dX3_roundsToRight_18 : decode cX3_roundsToRight 18 = .ok (.invokevirtual 71, 3) := by decide +kernel
theorem dX3_roundsToRight_21 : decode cX3_roundsToRight 21 = .ok (.ireturn, 1) := by decide +kernel
theorem dX3_roundsToRight_22 : decode cX3_roundsToRight 22 = .ok (.aload_n 0, 1) := by decide +kernel
theorem dX3_roundsToRight_23 : decode cX3_roundsToRight 23 = .ok (.getfield 13, 3) := by decide +kernel
theorem dX3_roundsToRight_26 : decode cX3_roundsToRight 26 = .ok (.aload_n 0, 1) := by decide +kernel
theorem dX3_roundsToRight_27 : decode cX3_roundsToRight 27 = .ok (.getfield 32, 3) := by decide +kernel
theorem dX3_roundsToRight_30 : decode cX3_roundsToRight 30 = .ok (.invokestatic 136, 3) := by decide +kernel
theorem dX3_roundsToRight_33 : decode cX3_roundsToRight 33 = .ok (.aload_n 0, 1) := by decide +kernel
theorem dX3_roundsToRight_34 : decode cX3_roundsToRight 34 = .ok (.getfield 17, 3) := by decide +kernel
theorem dX3_roundsToRight_37 : decode cX3_roundsToRight 37 = .ok (.aload_n 0, 1) := by decide +kernel
theorem dX3_roundsToRight_38 : decode cX3_roundsToRight 38 = .ok (.getfield 35, 3) := by decide +kernel
theorem dX3_roundsToRight_41 : decode cX3_roundsToRight 41 = .ok (.invokestatic 136, 3) := by decide +kernel
theorem dX3_roundsToRight_44 : decode cX3_roundsToRight 44 = .ok (.aload_n 0, 1) := by decide +kernel
theorem dX3_roundsToRight_45 : decode cX3_roundsToRight 45 = .ok (.getfield 20, 3) := by decide +kernel
theorem dX3_roundsToRight_48 : decode cX3_roundsToRight 48 = .ok (.aload_n 0, 1) := by decide +kernel
theorem dX3_roundsToRight_49 : decode cX3_roundsToRight 49 = .ok (.getfield 38, 3) := by decide +kernel
theorem dX3_roundsToRight_52 : decode cX3_roundsToRight 52 = .ok (.invokestatic 136, 3) := by decide +kernel
theorem dX3_roundsToRight_55 : decode cX3_roundsToRight 55 = .ok (.iconst 0, 1) := by decide +kernel
theorem dX3_roundsToRight_56 : decode cX3_roundsToRight 56 = .ok (.istore_n 2, 1) := by decide +kernel
theorem dX3_roundsToRight_57 : decode cX3_roundsToRight 57 = .ok (.iload_n 2, 1) := by decide +kernel
theorem dX3_roundsToRight_58 : decode cX3_roundsToRight 58 = .ok (.iload_n 1, 1) := by decide +kernel
theorem dX3_roundsToRight_59 : decode cX3_roundsToRight 59 = .ok (.if_icmp .gt 26, 3) := by decide +kernel
theorem dX3_roundsToRight_62 : decode cX3_roundsToRight 62 = .ok (.aload_n 0, 1) := by decide +kernel
theorem dX3_roundsToRight_63 : decode cX3_roundsToRight 63 = .ok (.invokevirtual 115, 3) := by decide +kernel
theorem dX3_roundsToRight_66 : decode cX3_roundsToRight 66 = .ok (.ifCond .le 19, 3) := by decide +kernel
theorem dX3_roundsToRight_69 : decode cX3_roundsToRight 69 = .ok (.iinc 2 1, 3) := by decide +kernel
theorem dX3_roundsToRight_72 : decode cX3_roundsToRight 72 = .ok (.iload_n 2, 1) := by decide +kernel
theorem dX3_roundsToRight_73 : decode cX3_roundsToRight 73 = .ok (.iload_n 1, 1) := by decide +kernel
theorem dX3_roundsToRight_74 : decode cX3_roundsToRight 74 = .ok (.if_icmp .gt (-17), 3) := by decide +kernel
theorem dX3_roundsToRight_77 : decode cX3_roundsToRight 77 = .ok (.aload_n 0, 1) := by decide +kernel
theorem dX3_roundsToRight_78 : decode cX3_roundsToRight 78 = .ok (.iconst 0, 1) := by decide +kernel
theorem dX3_roundsToRight_79 : decode cX3_roundsToRight 79 = .ok (.invokevirtual 111, 3) := by decide +kernel
theorem dX3_roundsToRight_82 : decode cX3_roundsToRight 82 = .ok (.goto (-25), 3) := by decide +kernel
theorem dX3_roundsToRight_85 : decode cX3_roundsToRight 85 = .ok (.aload_n 0, 1) := by decide +kernel
theorem dX3_roundsToRight_86 : decode cX3_roundsToRight 86 = .ok (.getfield 32, 3) := by decide +kernel
theorem dX3_roundsToRight_89 : decode cX3_roundsToRight 89 = .ok (.aload_n 0, 1) := by decide +kernel
theorem dX3_roundsToRight_90 : decode cX3_roundsToRight 90 = .ok (.getfield 13, 3) := by decide +kernel
theorem dX3_roundsToRight_93 : decode cX3_roundsToRight 93 = .ok (.invokestatic 136, 3) := by decide +kernel
theorem dX3_roundsToRight_96 : decode cX3_roundsToRight 96 = .ok (.aload_n 0, 1) := by decide +kernel
theorem dX3_roundsToRight_97 : decode cX3_roundsToRight 97 = .ok (.getfield 35, 3) := by decide +kernel
theorem dX3_roundsToRight_100 : decode cX3_roundsToRight 100 = .ok (.aload_n 0, 1) := by decide +kernel
theorem dX3_roundsToRight_101 : decode cX3_roundsToRight 101 = .ok (.getfield 17, 3) := by decide +kernel
theorem dX3_roundsToRight_104 : decode cX3_roundsToRight 104 = .ok (.invokestatic 136, 3) := by decide +kernel
theorem dX3_roundsToRight_107 : decode cX3_roundsToRight 107 = .ok (.aload_n 0, 1) := by decide +kernel
theorem dX3_roundsToRight_108 : decode cX3_roundsToRight 108 = .ok (.getfield 38, 3) := by decide +kernel
theorem dX3_roundsToRight_111 : decode cX3_roundsToRight 111 = .ok (.aload_n 0, 1) := by decide +kernel
theorem dX3_roundsToRight_112 : decode cX3_roundsToRight 112 = .ok (.getfield 20, 3) := by decide +kernel
theorem dX3_roundsToRight_115 : decode cX3_roundsToRight 115 = .ok (.invokestatic 136, 3) := by decide +kernel
theorem dX3_roundsToRight_118 : decode cX3_roundsToRight 118 = .ok (.iload_n 2, 1) := by decide +kernel
theorem dX3_roundsToRight_119 : decode cX3_roundsToRight 119 = .ok (.iload_n 1, 1) := by decide +kernel
theorem dX3_roundsToRight_120 : decode cX3_roundsToRight 120 = .ok (.if_icmp .gt 7, 3) := by decide +kernel
theorem dX3_roundsToRight_123 : decode cX3_roundsToRight 123 = .ok (.iload_n 2, 1) := by decide +kernel
theorem dX3_roundsToRight_124 : decode cX3_roundsToRight 124 = .ok (.goto 4, 3) := by decide +kernel
theorem dX3_roundsToRight_127 : decode cX3_roundsToRight 127 = .ok (.iconst (-1), 1) := by decide +kernel
theorem dX3_roundsToRight_128 : decode cX3_roundsToRight 128 = .ok (.ireturn, 1) := by decide +kernel
theorem dJ9_max_7cf53_0 : decode cJ9_max_7cf53 0 = .ok (.iload_n 0, 1) := by decide +kernel
theorem dJ9_max_7cf53_1 : decode cJ9_max_7cf53 1 = .ok (.iload_n 1, 1) := by decide +kernel
theorem dJ9_max_7cf53_2 : decode cJ9_max_7cf53 2 = .ok (.if_icmp .lt 7, 3) := by decide +kernel
theorem dJ9_max_7cf53_5 : decode cJ9_max_7cf53 5 = .ok (.iload_n 0, 1) := by decide +kernel
theorem dJ9_max_7cf53_6 : decode cJ9_max_7cf53 6 = .ok (.goto 4, 3) := by decide +kernel
theorem dJ9_max_7cf53_9 : decode cJ9_max_7cf53 9 = .ok (.iload_n 1, 1) := by decide +kernel
theorem dJ9_max_7cf53_10 : decode cJ9_max_7cf53 10 = .ok (.ireturn, 1) := by decide +kernel
theorem dJ9_min_7cf53_0 : decode cJ9_min_7cf53 0 = .ok (.iload_n 0, 1) := by decide +kernel
theorem dJ9_min_7cf53_1 : decode cJ9_min_7cf53 1 = .ok (.iload_n 1, 1) := by decide +kernel
theorem dJ9_min_7cf53_2 : decode cJ9_min_7cf53 2 = .ok (.if_icmp .gt 7, 3) := by decide +kernel
theorem dJ9_min_7cf53_5 : decode cJ9_min_7cf53 5 = .ok (.iload_n 0, 1) := by decide +kernel
theorem dJ9_min_7cf53_6 : decode cJ9_min_7cf53 6 = .ok (.goto 4, 3) := by decide +kernel
theorem dJ9_min_7cf53_9 : decode cJ9_min_7cf53 9 = .ok (.iload_n 1, 1) := by decide +kernel
theorem dJ9_min_7cf53_10 : decode cJ9_min_7cf53 10 = .ok (.ireturn, 1) := by decide +kernel
theorem dJ7_fill_53178_0 : decode cJ7_fill_53178 0 = .ok (.iconst 0, 1) := by decide +kernel
theorem dJ7_fill_53178_1 : decode cJ7_fill_53178 1 = .ok (.istore_n 2, 1) := by decide +kernel
theorem dJ7_fill_53178_2 : decode cJ7_fill_53178 2 = .ok (.aload_n 0, 1) := by decide +kernel
theorem dJ7_fill_53178_3 : decode cJ7_fill_53178 3 = .ok (.arraylength, 1) := by decide +kernel
theorem dJ7_fill_53178_4 : decode cJ7_fill_53178 4 = .ok (.istore_n 3, 1) := by decide +kernel
theorem dJ7_fill_53178_5 : decode cJ7_fill_53178 5 = .ok (.iload_n 2, 1) := by decide +kernel
theorem dJ7_fill_53178_6 : decode cJ7_fill_53178 6 = .ok (.iload_n 3, 1) := by decide +kernel
theorem dJ7_fill_53178_7 : decode cJ7_fill_53178 7 = .ok (.if_icmp .ge 13, 3) := by decide +kernel
theorem dJ7_fill_53178_10 : decode cJ7_fill_53178 10 = .ok (.aload_n 0, 1) := by decide +kernel
theorem dJ7_fill_53178_11 : decode cJ7_fill_53178 11 = .ok (.iload_n 2, 1) := by decide +kernel
theorem dJ7_fill_53178_12 : decode cJ7_fill_53178 12 = .ok (.iload_n 1, 1) := by decide +kernel
theorem dJ7_fill_53178_13 : decode cJ7_fill_53178 13 = .ok (.iastore, 1) := by decide +kernel
theorem dJ7_fill_53178_14 : decode cJ7_fill_53178 14 = .ok (.iinc 2 1, 3) := by decide +kernel
theorem dJ7_fill_53178_17 : decode cJ7_fill_53178 17 = .ok (.goto (-12), 3) := by decide +kernel
theorem dJ7_fill_53178_20 : decode cJ7_fill_53178 20 = .ok (.return_, 1) := by decide +kernel
