set_option maxRecDepth 20000 in
theorem ggL_create_X2_create : GoodIn wsL_create wsX2_create := goodIn_ca (goodIn_ca (goodIn_r _ [7, 8, 9, 10, 11, 6, 12, 13, 14, 15, 16, 17, 18, 19, 20, 21, 22, 23, 24, 25, 26, 27, 28, 29, 30, 31, 32, 33, 34, 35, 36, 37, 38, 39, 40, 41, 42, 43, 44, 45, 46, 47, 48, 49, 50, 51, 52, 53, 54, 55, 56, 57, 58, 59, 60, 61, 62, 63, 64, 65, 66, 67, 68, 69] (by decide +kernel) (by decide +kernel)) (goodIn_sub (fun _ h => List.mem_cons_of_mem _ (List.mem_append_left _ (List.mem_append_right _ h))) (by decide +kernel))) (goodIn_sub (fun _ h => List.mem_cons_of_mem _ (List.mem_append_right _ h)) (by decide +kernel))
set_option maxRecDepth 20000 in
theorem gL_create_X2_create : GoodIn wsL_create (wsV RL 7 RX2 yX2_create wsX2_create) := goodIn_app (goodIn_of _ (by decide +kernel)) ggL_create_X2_create
theorem dL_create_0 : decode cL_create 0 = .ok (.aload_n 2, 1) := by decide +kernel
theorem dL_create_1 : decode cL_create 1 = .ok (.iconst 0, 1) := by decide +kernel
theorem dL_create_2 : decode cL_create 2 = .ok (.aload_n 0, 1) := by decide +kernel
theorem dL_create_3 : decode cL_create 3 = .ok (.iload_n 1, 1) := by decide +kernel
theorem dL_create_4 : decode cL_create 4 = .ok (.invokevirtual 7, 3) := by decide +kernel
theorem dL_create_7 : decode cL_create 7 = .ok (.i2l, 1) := by decide +kernel
theorem dL_create_8 : decode cL_create 8 = .ok (.lastore, 1) := by decide +kernel
theorem dL_create_9 : decode cL_create 9 = .ok (.goto 9, 3) := by decide +kernel
theorem dL_create_12 : decode cL_create 12 = .ok (.astore_n 3, 1) := by decide +kernel
theorem dL_create_13 : decode cL_create 13 = .ok (.iconst 1, 1) := by decide +kernel
theorem dL_create_14 : decode cL_create 14 = .ok (.ireturn, 1) := by decide +kernel
theorem dL_create_15 : decode cL_create 15 = .ok (.astore_n 3, 1) := by decide +kernel
theorem dL_create_16 : decode cL_create 16 = .ok (.iconst 2, 1) := by decide +kernel
theorem dL_create_17 : decode cL_create 17 = .ok (.ireturn, 1) := by decide +kernel
theorem dL_create_18 : decode cL_create 18 = .ok (.iconst 0, 1) := by decide +kernel
theorem dL_create_19 : decode cL_create 19 = .ok (.ireturn, 1) := by decide +kernel
set_option maxRecDepth 20000 in
theorem ggL_join_X2_join : GoodIn wsL_join wsX2_join := goodIn_ca (goodIn_ca (goodIn_r _ [7, 8, 9, 10, 11, 12, 6, 13, 14, 15, 16, 17, 18, 19, 20, 21, 22, 23, 24, 25, 26, 27, 28, 29, 30, 31, 32, 33, 34, 35, 36, 37, 38, 39, 40, 41, 42, 43, 44, 45, 46, 47, 48, 49, 50, 51, 52, 53, 54, 55, 56, 57, 58, 59, 60, 61, 62, 63, 64, 65, 66, 67, 68, 69, 70, 71, 72, 73, 74, 75, 76, 77, 78, 79, 80, 81, 82, 83, 84, 85, 86, 87, 88, 89, 90, 91, 92, 93, 94] (by decide +kernel) (by decide +kernel)) (goodIn_sub (fun _ h => List.mem_cons_of_mem _ (List.mem_append_left _ (List.mem_append_right _ h))) (by decide +kernel))) (goodIn_sub (fun _ h => List.mem_cons_of_mem _ (List.mem_append_right _ h)) (by decide +kernel))
set_option maxRecDepth 20000 in
theorem gL_join_X2_join : GoodIn wsL_join (wsV RL 17 RX2 yX2_join wsX2_join) := goodIn_app (goodIn_of _ (by decide +kernel)) ggL_join_X2_join
theorem dL_join_0 : decode cL_join 0 = .ok (.aload_n 3, 1) := by decide +kernel
theorem dL_join_1 : decode cL_join 1 = .ok (.iconst 0, 1) := by decide +kernel
theorem dL_join_2 : decode cL_join 2 = .ok (.aload_n 0, 1) := by decide +kernel
theorem dL_join_3 : decode cL_join 3 = .ok (.iload_n 1, 1) := by decide +kernel
theorem dL_join_4 : decode cL_join 4 = .ok (.iload_n 2, 1) := by decide +kernel
theorem dL_join_5 : decode cL_join 5 = .ok (.invokevirtual 17, 3) := by decide +kernel
theorem dL_join_8 : decode cL_join 8 = .ok (.i2l, 1) := by decide +kernel
theorem dL_join_9 : decode cL_join 9 = .ok (.lastore, 1) := by decide +kernel
theorem dL_join_10 : decode cL_join 10 = .ok (.goto 11, 3) := by decide +kernel
theorem dL_join_13 : decode cL_join 13 = .ok (.astore 4, 2) := by decide +kernel
theorem dL_join_15 : decode cL_join 15 = .ok (.iconst 1, 1) := by decide +kernel
theorem dL_join_16 : decode cL_join 16 = .ok (.ireturn, 1) := by decide +kernel
theorem dL_join_17 : decode cL_join 17 = .ok (.astore 4, 2) := by decide +kernel
theorem dL_join_19 : decode cL_join 19 = .ok (.iconst 2, 1) := by decide +kernel
theorem dL_join_20 : decode cL_join 20 = .ok (.ireturn, 1) := by decide +kernel
theorem dL_join_21 : decode cL_join 21 = .ok (.iconst 0, 1) := by decide +kernel
theorem dL_join_22 : decode cL_join 22 = .ok (.ireturn, 1) := by decide +kernel
set_option maxRecDepth 20000 in
theorem ggL_fail_X2_fail : GoodIn wsL_fail wsX2_fail := goodIn_ca (goodIn_ca (goodIn_r _ [7, 8, 9, 6, 10, 11, 12, 13, 14, 15, 16, 17, 18, 19, 20, 21, 22, 23, 24, 25, 26, 27, 28, 29, 30, 31, 32, 33, 34, 35, 36, 37, 38, 39, 40, 41, 42, 43, 44, 45, 46, 47, 48, 49, 50] (by decide +kernel) (by decide +kernel)) (goodIn_sub (fun _ h => List.mem_cons_of_mem _ (List.mem_append_left _ (List.mem_append_right _ h))) (by decide +kernel))) (goodIn_sub (fun _ h => List.mem_cons_of_mem _ (List.mem_append_right _ h)) (by decide +kernel))
set_option maxRecDepth 20000 in
theorem gL_fail_X2_fail : GoodIn wsL_fail (wsV RL 21 RX2 yX2_fail wsX2_fail) := goodIn_app (goodIn_of _ (by decide +kernel)) ggL_fail_X2_fail
theorem dL_fail_0 : decode cL_fail 0 = .ok (.aload_n 2, 1) := by decide +kernel
theorem dL_fail_1 : decode cL_fail 1 = .ok (.iconst 0, 1) := by decide +kernel
theorem dL_fail_2 : decode cL_fail 2 = .ok (.aload_n 0, 1) := by decide +kernel
theorem dL_fail_3 : decode cL_fail 3 = .ok (.iload_n 1, 1) := by decide +kernel
theorem dL_fail_4 : decode cL_fail 4 = .ok (.invokevirtual 21, 3) := by decide +kernel
theorem dL_fail_7 : decode cL_fail 7 = .ok (.i2l, 1) := by decide +kernel
theorem dL_fail_8 : decode cL_fail 8 = .ok (.lastore, 1) := by decide +kernel
theorem dL_fail_9 : decode cL_fail 9 = .ok (.goto 9, 3) := by decide +kernel
theorem dL_fail_12 : decode cL_fail 12 = .ok (.astore_n 3, 1) := by decide +kernel
theorem dL_fail_13 : decode cL_fail 13 = .ok (.iconst 1, 1) := by decide +kernel
theorem dL_fail_14 : decode cL_fail 14 = .ok (.ireturn, 1) := by decide +kernel
theorem dL_fail_15 : decode cL_fail 15 = .ok (.astore_n 3, 1) := by decide +kernel
theorem dL_fail_16 : decode cL_fail 16 = .ok (.iconst 2, 1) := by decide +kernel
theorem dL_fail_17 : decode cL_fail 17 = .ok (.ireturn, 1) := by decide +kernel
theorem dL_fail_18 : decode cL_fail 18 = .ok (.iconst 0, 1) := by decide +kernel
theorem dL_fail_19 : decode cL_fail 19 = .ok (.ireturn, 1) := by decide +kernel
set_option maxRecDepth 20000 in
theorem ggL_leave_X2_leave : GoodIn wsL_leave wsX2_leave := goodIn_ca (goodIn_ca (goodIn_r _ [7, 8, 9, 6, 10, 11, 12, 13, 14, 15, 16, 17, 18, 19, 20, 21, 22, 23, 24, 25, 26, 27, 28, 29, 30, 31, 32, 33, 34, 35, 36, 37, 38, 39, 40, 41, 42, 43, 44, 45, 46, 47, 48, 49, 50, 51, 52, 53, 54, 55, 56, 57, 58, 59, 60, 61, 62, 63, 64, 65, 66, 67, 68, 69, 70, 71, 72, 73, 74, 75, 76, 77, 78, 79, 80, 81, 82, 83, 84, 85, 86, 87] (by decide +kernel) (by decide +kernel)) (goodIn_sub (fun _ h => List.mem_cons_of_mem _ (List.mem_append_left _ (List.mem_append_right _ h))) (by decide +kernel))) (goodIn_sub (fun _ h => List.mem_cons_of_mem _ (List.mem_append_right _ h)) (by decide +kernel))
set_option maxRecDepth 20000 in
theorem gL_leave_X2_leave : GoodIn wsL_leave (wsV RL 24 RX2 yX2_leave wsX2_leave) := goodIn_app (goodIn_of _ (by decide +kernel)) ggL_leave_X2_leave
theorem dL_leave_0 : decode cL_leave 0 = .ok (.aload_n 2, 1) := by decide +kernel
theorem dL_leave_1 : decode cL_leave 1 = .ok (.iconst 0, 1) := by decide +kernel
theorem dL_leave_2 : decode cL_leave 2 = .ok (.aload_n 0, 1) := by decide +kernel
theorem dL_leave_3 : decode cL_leave 3 = .ok (.iload_n 1, 1) := by decide +kernel
theorem dL_leave_4 : decode cL_leave 4 = .ok (.invokevirtual 24, 3) := by decide +kernel
theorem dL_leave_7 : decode cL_leave 7 = .ok (.i2l, 1) := by decide +kernel
theorem dL_leave_8 : decode cL_leave 8 = .ok (.lastore, 1) := by decide +kernel
theorem dL_leave_9 : decode cL_leave 9 = .ok (.goto 9, 3) := by decide +kernel
theorem dL_leave_12 : decode cL_leave 12 = .ok (.astore_n 3, 1) := by decide +kernel
theorem dL_leave_13 : decode cL_leave 13 = .ok (.iconst 1, 1) := by decide +kernel
theorem dL_leave_14 : decode cL_leave 14 = .ok (.ireturn, 1) := by decide +kernel
theorem dL_leave_15 : decode cL_leave 15 = .ok (.astore_n 3, 1) := by decide +kernel
theorem dL_leave_16 : decode cL_leave 16 = .ok (.iconst 2, 1) := by decide +kernel
theorem dL_leave_17 : decode cL_leave 17 = .ok (.ireturn, 1) := by decide +kernel
theorem dL_leave_18 : decode cL_leave 18 = .ok (.iconst 0, 1) := by decide +kernel
theorem dL_leave_19 : decode cL_leave 19 = .ok (.ireturn, 1) := by decide +kernel
set_option maxRecDepth 20000 in
theorem ggL_isLiving_X2_isLiving : GoodIn wsL_isLiving wsX2_isLiving := goodIn_ca (goodIn_r _ [6, 7, 8, 5, 9, 10, 11, 12, 13, 14, 15, 16, 17, 18, 19, 20, 21, 22, 23, 24, 25, 26, 27, 28, 29, 30, 31] (by decide +kernel) (by decide +kernel)) (goodIn_sub (fun _ h => List.mem_cons_of_mem _ (List.mem_append_right _ h)) (by decide +kernel))
set_option maxRecDepth 20000 in
theorem gL_isLiving_X2_isLiving : GoodIn wsL_isLiving (wsV RL 27 RX2 yX2_isLiving wsX2_isLiving) := goodIn_app (goodIn_of _ (by decide +kernel)) ggL_isLiving_X2_isLiving
theorem dL_isLiving_0 : decode cL_isLiving 0 = .ok (.aload_n 2, 1) := by decide +kernel
theorem dL_isLiving_1 : decode cL_isLiving 1 = .ok (.iconst 0, 1) := by decide +kernel
theorem dL_isLiving_2 : decode cL_isLiving 2 = .ok (.aload_n 0, 1) := by decide +kernel
theorem dL_isLiving_3 : decode cL_isLiving 3 = .ok (.iload_n 1, 1) := by decide +kernel
theorem dL_isLiving_4 : decode cL_isLiving 4 = .ok (.invokevirtual 27, 3) := by decide +kernel
theorem dL_isLiving_7 : decode cL_isLiving 7 = .ok (.ifCond .eq 7, 3) := by decide +kernel
theorem dL_isLiving_10 : decode cL_isLiving 10 = .ok (.lconst 1, 1) := by decide +kernel
theorem dL_isLiving_11 : decode cL_isLiving 11 = .ok (.goto 4, 3) := by decide +kernel
theorem dL_isLiving_14 : decode cL_isLiving 14 = .ok (.lconst 0, 1) := by decide +kernel
theorem dL_isLiving_15 : decode cL_isLiving 15 = .ok (.lastore, 1) := by decide +kernel
theorem dL_isLiving_16 : decode cL_isLiving 16 = .ok (.goto 6, 3) := by decide +kernel
theorem dL_isLiving_19 : decode cL_isLiving 19 = .ok (.astore_n 3, 1) := by decide +kernel
theorem dL_isLiving_20 : decode cL_isLiving 20 = .ok (.iconst 1, 1) := by decide +kernel
theorem dL_isLiving_21 : decode cL_isLiving 21 = .ok (.ireturn, 1) := by decide +kernel
theorem dL_isLiving_22 : decode cL_isLiving 22 = .ok (.iconst 0, 1) := by decide +kernel
theorem dL_isLiving_23 : decode cL_isLiving 23 = .ok (.ireturn, 1) := by decide +kernel
set_option maxRecDepth 20000 in
theorem ggL_successor_X2_successor : GoodIn wsL_successor wsX2_successor := goodIn_ca (goodIn_ca (goodIn_r _ [7, 8, 9, 10, 6, 11, 12, 13, 14, 15, 16, 17, 18, 19, 20, 21, 22, 23, 24, 25, 26, 27, 28, 29, 30, 31, 32, 33, 34, 35, 36, 37, 38, 39, 40, 41, 42, 43, 44, 45, 46, 47, 48] (by decide +kernel) (by decide +kernel)) (goodIn_sub (fun _ h => List.mem_cons_of_mem _ (List.mem_append_left _ (List.mem_append_right _ h))) (by decide +kernel))) (goodIn_sub (fun _ h => List.mem_cons_of_mem _ (List.mem_append_right _ h)) (by decide +kernel))
set_option maxRecDepth 20000 in
theorem gL_successor_X2_successor : GoodIn wsL_successor (wsV RL 31 RX2 yX2_successor wsX2_successor) := goodIn_app (goodIn_of _ (by decide +kernel)) ggL_successor_X2_successor
theorem dL_successor_0 : decode cL_successor 0 = .ok (.aload_n 3, 1) := by decide +kernel
theorem dL_successor_1 : decode cL_successor 1 = .ok (.iconst 0, 1) := by decide +kernel
theorem dL_successor_2 : decode cL_successor 2 = .ok (.aload_n 0, 1) := by decide +kernel
theorem dL_successor_3 : decode cL_successor 3 = .ok (.iload_n 1, 1) := by decide +kernel
theorem dL_successor_4 : decode cL_successor 4 = .ok (.iload_n 2, 1) := by decide +kernel
theorem dL_successor_5 : decode cL_successor 5 = .ok (.invokevirtual 31, 3) := by decide +kernel
theorem dL_successor_8 : decode cL_successor 8 = .ok (.i2l, 1) := by decide +kernel
theorem dL_successor_9 : decode cL_successor 9 = .ok (.lastore, 1) := by decide +kernel
theorem dL_successor_10 : decode cL_successor 10 = .ok (.goto 11, 3) := by decide +kernel
theorem dL_successor_13 : decode cL_successor 13 = .ok (.astore 4, 2) := by decide +kernel
theorem dL_successor_15 : decode cL_successor 15 = .ok (.iconst 1, 1) := by decide +kernel
theorem dL_successor_16 : decode cL_successor 16 = .ok (.ireturn, 1) := by decide +kernel
theorem dL_successor_17 : decode cL_successor 17 = .ok (.astore 4, 2) := by decide +kernel
theorem dL_successor_19 : decode cL_successor 19 = .ok (.iconst 2, 1) := by decide +kernel
theorem dL_successor_20 : decode cL_successor 20 = .ok (.ireturn, 1) := by decide +kernel
theorem dL_successor_21 : decode cL_successor 21 = .ok (.iconst 0, 1) := by decide +kernel
theorem dL_successor_22 : decode cL_successor 22 = .ok (.ireturn, 1) := by decide +kernel
set_option maxRecDepth 20000 in
theorem ggL_liveSuccessor_X2_liveSuccessor : GoodIn wsL_liveSuccessor wsX2_liveSuccessor := goodIn_ca (goodIn_ca (goodIn_r _ [7, 8, 9, 6, 10, 11, 12, 13, 14, 15, 16, 17, 18, 19, 20, 21, 22, 23, 24, 25, 26, 27, 28, 29, 30, 31, 32, 33, 34, 35, 36, 37, 38, 39, 40, 41, 42, 43, 44, 45, 46, 47, 48, 49, 50, 51, 52] (by decide +kernel) (by decide +kernel)) (goodIn_sub (fun _ h => List.mem_cons_of_mem _ (List.mem_append_left _ (List.mem_append_right _ h))) (by decide +kernel))) (goodIn_sub (fun _ h => List.mem_cons_of_mem _ (List.mem_append_right _ h)) (by decide +kernel))
set_option maxRecDepth 20000 in
theorem gL_liveSuccessor_X2_liveSuccessor : GoodIn wsL_liveSuccessor (wsV RL 34 RX2 yX2_liveSuccessor wsX2_liveSuccessor) := goodIn_app (goodIn_of _ (by decide +kernel)) ggL_liveSuccessor_X2_liveSuccessor
theorem dL_liveSuccessor_0 : decode cL_liveSuccessor 0 = .ok (.aload_n 2, 1) := by decide +kernel
theorem dL_liveSuccessor_1 : decode cL_liveSuccessor 1 = .ok (.iconst 0, 1) := by decide +kernel
theorem dL_liveSuccessor_2 : decode cL_liveSuccessor 2 = .ok (.aload_n 0, 1) := by decide +kernel
theorem dL_liveSuccessor_3 : decode cL_liveSuccessor 3 = .ok (.iload_n 1, 1) := by decide +kernel
theorem dL_liveSuccessor_4 : decode cL_liveSuccessor 4 = .ok (.invokevirtual 34, 3) := by decide +kernel
theorem dL_liveSuccessor_7 : decode cL_liveSuccessor 7 = .ok (.i2l, 1) := by decide +kernel
theorem dL_liveSuccessor_8 : decode cL_liveSuccessor 8 = .ok (.lastore, 1) := by decide +kernel
theorem dL_liveSuccessor_9 : decode cL_liveSuccessor 9 = .ok (.goto 9, 3) := by decide +kernel
theorem dL_liveSuccessor_12 : decode cL_liveSuccessor 12 = .ok (.astore_n 3, 1) := by decide +kernel
theorem dL_liveSuccessor_13 : decode cL_liveSuccessor 13 = .ok (.iconst 1, 1) := by decide +kernel
theorem dL_liveSuccessor_14 : decode cL_liveSuccessor 14 = .ok (.ireturn, 1) := by decide +kernel
theorem dL_liveSuccessor_15 : decode cL_liveSuccessor 15 = .ok (.astore_n 3, 1) := by decide +kernel
theorem dL_liveSuccessor_16 : decode cL_liveSuccessor 16 = .ok (.iconst 2, 1) := by decide +kernel
theorem dL_liveSuccessor_17 : decode cL_liveSuccessor 17 = .ok (.ireturn, 1) := by decide +kernel
theorem dL_liveSuccessor_18 : decode cL_liveSuccessor 18 = .ok (.iconst 0, 1) := by decide +kernel
theorem dL_liveSuccessor_19 : decode cL_liveSuccessor 19 = .ok (.ireturn, 1) := by decide +kernel
set_option maxRecDepth 20000 in
theorem ggL_predecessor_X2_predecessor : GoodIn wsL_predecessor wsX2_predecessor := goodIn_ca (goodIn_ca (goodIn_r _ [7, 8, 9, 10, 6, 11, 12, 13, 14, 15, 16, 17, 18, 19, 20, 21, 22, 23, 24, 25, 26, 27, 28, 29, 30, 31, 32, 33, 34, 35, 36, 37, 38, 39, 40, 41, 42, 43, 44, 45, 46, 47, 48] (by decide +kernel) (by decide +kernel)) (goodIn_sub (fun _ h => List.mem_cons_of_mem _ (List.mem_append_left _ (List.mem_append_right _ h))) (by decide +kernel))) (goodIn_sub (fun _ h => List.mem_cons_of_mem _ (List.mem_append_right _ h)) (by decide +kernel))
set_option maxRecDepth 20000 in
theorem gL_predecessor_X2_predecessor : GoodIn wsL_predecessor (wsV RL 37 RX2 yX2_predecessor wsX2_predecessor) := goodIn_app (goodIn_of _ (by decide +kernel)) ggL_predecessor_X2_predecessor
theorem dL_predecessor_0 : decode cL_predecessor 0 = .ok (.aload_n 2, 1) := by decide +kernel
theorem dL_predecessor_1 : decode cL_predecessor 1 = .ok (.iconst 0, 1) := by decide +kernel
theorem dL_predecessor_2 : decode cL_predecessor 2 = .ok (.aload_n 0, 1) := by decide +kernel
theorem dL_predecessor_3 : decode cL_predecessor 3 = .ok (.iload_n 1, 1) := by decide +kernel
theorem dL_predecessor_4 : decode cL_predecessor 4 = .ok (.invokevirtual 37, 3) := by decide +kernel
theorem dL_predecessor_7 : decode cL_predecessor 7 = .ok (.i2l, 1) := by decide +kernel
theorem dL_predecessor_8 : decode cL_predecessor 8 = .ok (.lastore, 1) := by decide +kernel
theorem dL_predecessor_9 : decode cL_predecessor 9 = .ok (.goto 9, 3) := by decide +kernel
theorem dL_predecessor_12 : decode cL_predecessor 12 = .ok (.astore_n 3, 1) := by decide +kernel
theorem dL_predecessor_13 : decode cL_predecessor 13 = .ok (.iconst 1, 1) := by decide +kernel
theorem dL_predecessor_14 : decode cL_predecessor 14 = .ok (.ireturn, 1) := by decide +kernel
theorem dL_predecessor_15 : decode cL_predecessor 15 = .ok (.astore_n 3, 1) := by decide +kernel
theorem dL_predecessor_16 : decode cL_predecessor 16 = .ok (.iconst 2, 1) := by decide +kernel
theorem dL_predecessor_17 : decode cL_predecessor 17 = .ok (.ireturn, 1) := by decide +kernel
theorem dL_predecessor_18 : decode cL_predecessor 18 = .ok (.iconst 0, 1) := by decide +kernel
theorem dL_predecessor_19 : decode cL_predecessor 19 = .ok (.ireturn, 1) := by decide +kernel
set_option maxRecDepth 20000 in
theorem ggL_finger_X2_finger : GoodIn wsL_finger wsX2_finger := goodIn_ca (goodIn_ca (goodIn_r _ [7, 8, 9, 10, 6, 11, 12, 13, 14, 15, 16, 17, 18, 19, 20, 21, 22, 23, 24, 25, 26, 27, 28, 29, 30, 31, 32, 33, 34, 35, 36, 37, 38, 39, 40, 41, 42, 43, 44, 45, 46, 47, 48] (by decide +kernel) (by decide +kernel)) (goodIn_sub (fun _ h => List.mem_cons_of_mem _ (List.mem_append_left _ (List.mem_append_right _ h))) (by decide +kernel))) (goodIn_sub (fun _ h => List.mem_cons_of_mem _ (List.mem_append_right _ h)) (by decide +kernel))
set_option maxRecDepth 20000 in
theorem gL_finger_X2_finger : GoodIn wsL_finger (wsV RL 40 RX2 yX2_finger wsX2_finger) := goodIn_app (goodIn_of _ (by decide +kernel)) ggL_finger_X2_finger
theorem dL_finger_0 : decode cL_finger 0 = .ok (.aload_n 3, 1) := by decide +kernel
theorem dL_finger_1 : decode cL_finger 1 = .ok (.iconst 0, 1) := by decide +kernel
theorem dL_finger_2 : decode cL_finger 2 = .ok (.aload_n 0, 1) := by decide +kernel
theorem dL_finger_3 : decode cL_finger 3 = .ok (.iload_n 1, 1) := by decide +kernel
theorem dL_finger_4 : decode cL_finger 4 = .ok (.iload_n 2, 1) := by decide +kernel
theorem dL_finger_5 : decode cL_finger 5 = .ok (.invokevirtual 40, 3) := by decide +kernel
theorem dL_finger_8 : decode cL_finger 8 = .ok (.i2l, 1) := by decide +kernel
theorem dL_finger_9 : decode cL_finger 9 = .ok (.lastore, 1) := by decide +kernel
theorem dL_finger_10 : decode cL_finger 10 = .ok (.goto 11, 3) := by decide +kernel
theorem dL_finger_13 : decode cL_finger 13 = .ok (.astore 4, 2) := by decide +kernel
theorem dL_finger_15 : decode cL_finger 15 = .ok (.iconst 1, 1) := by decide +kernel
theorem dL_finger_16 : decode cL_finger 16 = .ok (.ireturn, 1) := by decide +kernel
theorem dL_finger_17 : decode cL_finger 17 = .ok (.astore 4, 2) := by decide +kernel
theorem dL_finger_19 : decode cL_finger 19 = .ok (.iconst 2, 1) := by decide +kernel
theorem dL_finger_20 : decode cL_finger 20 = .ok (.ireturn, 1) := by decide +kernel
theorem dL_finger_21 : decode cL_finger 21 = .ok (.iconst 0, 1) := by decide +kernel
theorem dL_finger_22 : decode cL_finger 22 = .ok (.ireturn, 1) := by decide +kernel
set_option maxRecDepth 20000 in
theorem ggL_check_X2_check : GoodIn wsL_check wsX2_check := goodIn_ca (goodIn_ca (goodIn_r _ [7, 8, 9, 10, 6, 11, 12, 13, 14, 15, 16, 17, 18, 19, 20, 21, 22, 23, 24, 25, 26, 27, 28, 29, 30, 31, 32, 33, 34, 35, 36, 37, 38, 39, 40, 41, 42, 43, 44, 45, 46, 47, 48, 49, 50, 51, 52, 53, 54, 55, 56] (by decide +kernel) (by decide +kernel)) (goodIn_sub (fun _ h => List.mem_cons_of_mem _ (List.mem_append_left _ (List.mem_append_right _ h))) (by decide +kernel))) (goodIn_sub (fun _ h => List.mem_cons_of_mem _ (List.mem_append_right _ h)) (by decide +kernel))
set_option maxRecDepth 20000 in
theorem gL_check_X2_check : GoodIn wsL_check (wsV RL 43 RX2 yX2_check wsX2_check) := goodIn_app (goodIn_of _ (by decide +kernel)) ggL_check_X2_check
theorem dL_check_0 : decode cL_check 0 = .ok (.aload_n 2, 1) := by decide +kernel
theorem dL_check_1 : decode cL_check 1 = .ok (.iconst 0, 1) := by decide +kernel
theorem dL_check_2 : decode cL_check 2 = .ok (.aload_n 0, 1) := by decide +kernel
theorem dL_check_3 : decode cL_check 3 = .ok (.iload_n 1, 1) := by decide +kernel
theorem dL_check_4 : decode cL_check 4 = .ok (.invokevirtual 43, 3) := by decide +kernel
theorem dL_check_7 : decode cL_check 7 = .ok (.ifCond .eq 7, 3) := by decide +kernel
theorem dL_check_10 : decode cL_check 10 = .ok (.lconst 1, 1) := by decide +kernel
theorem dL_check_11 : decode cL_check 11 = .ok (.goto 4, 3) := by decide +kernel
theorem dL_check_14 : decode cL_check 14 = .ok (.lconst 0, 1) := by decide +kernel
theorem dL_check_15 : decode cL_check 15 = .ok (.lastore, 1) := by decide +kernel
theorem dL_check_16 : decode cL_check 16 = .ok (.goto 9, 3) := by decide +kernel
theorem dL_check_19 : decode cL_check 19 = .ok (.astore_n 3, 1) := by decide +kernel
theorem dL_check_20 : decode cL_check 20 = .ok (.iconst 1, 1) := by decide +kernel
theorem dL_check_21 : decode cL_check 21 = .ok (.ireturn, 1) := by decide +kernel
theorem dL_check_22 : decode cL_check 22 = .ok (.astore_n 3, 1) := by decide +kernel
theorem dL_check_23 : decode cL_check 23 = .ok (.iconst 2, 1) := by decide +kernel
theorem dL_check_24 : decode cL_check 24 = .ok (.ireturn, 1) := by decide +kernel
theorem dL_check_25 : decode cL_check 25 = .ok (.iconst 0, 1) := by decide +kernel
theorem dL_check_26 : decode cL_check 26 = .ok (.ireturn, 1) := by decide +kernel
set_option maxRecDepth 20000 in
theorem ggL_stabilize_X2_stabilize : GoodIn wsL_stabilize wsX2_stabilize := goodIn_ca (goodIn_ca (goodIn_r _ [7, 8, 9, 10, 6, 11, 12, 13, 14, 15, 16, 17, 18, 19, 20, 21, 22, 23, 24, 25, 26, 27, 28, 29, 30, 31, 32, 33, 34, 35, 36, 37, 38, 39, 40, 41, 42, 43, 44, 45, 46, 47, 48, 49, 50, 51, 52, 53, 54, 55, 56, 57, 58, 59, 60, 61, 62, 63, 64, 65, 66, 67, 68, 69, 70, 71, 72, 73, 74, 75, 76, 77] (by decide +kernel) (by decide +kernel)) (goodIn_sub (fun _ h => List.mem_cons_of_mem _ (List.mem_append_left _ (List.mem_append_right _ h))) (by decide +kernel))) (goodIn_sub (fun _ h => List.mem_cons_of_mem _ (List.mem_append_right _ h)) (by decide +kernel))
set_option maxRecDepth 20000 in
theorem gL_stabilize_X2_stabilize : GoodIn wsL_stabilize (wsV RL 46 RX2 yX2_stabilize wsX2_stabilize) := goodIn_app (goodIn_of _ (by decide +kernel)) ggL_stabilize_X2_stabilize
theorem dL_stabilize_0 : decode cL_stabilize 0 = .ok (.aload_n 2, 1) := by decide +kernel
theorem dL_stabilize_1 : decode cL_stabilize 1 = .ok (.iconst 0, 1) := by decide +kernel
theorem dL_stabilize_2 : decode cL_stabilize 2 = .ok (.aload_n 0, 1) := by decide +kernel
theorem dL_stabilize_3 : decode cL_stabilize 3 = .ok (.iload_n 1, 1) := by decide +kernel
theorem dL_stabilize_4 : decode cL_stabilize 4 = .ok (.invokevirtual 46, 3) := by decide +kernel
theorem dL_stabilize_7 : decode cL_stabilize 7 = .ok (.i2l, 1) := by decide +kernel
theorem dL_stabilize_8 : decode cL_stabilize 8 = .ok (.lastore, 1) := by decide +kernel
theorem dL_stabilize_9 : decode cL_stabilize 9 = .ok (.goto 9, 3) := by decide +kernel
theorem dL_stabilize_12 : decode cL_stabilize 12 = .ok (.astore_n 3, 1) := by decide +kernel
theorem dL_stabilize_13 : decode cL_stabilize 13 = .ok (.iconst 1, 1) := by decide +kernel
theorem dL_stabilize_14 : decode cL_stabilize 14 = .ok (.ireturn, 1) := by decide +kernel
theorem dL_stabilize_15 : decode cL_stabilize 15 = .ok (.astore_n 3, 1) := by decide +kernel
theorem dL_stabilize_16 : decode cL_stabilize 16 = .ok (.iconst 2, 1) := by decide +kernel
theorem dL_stabilize_17 : decode cL_stabilize 17 = .ok (.ireturn, 1) := by decide +kernel
theorem dL_stabilize_18 : decode cL_stabilize 18 = .ok (.iconst 0, 1) := by decide +kernel
theorem dL_stabilize_19 : decode cL_stabilize 19 = .ok (.ireturn, 1) := by decide +kernel
set_option maxRecDepth 20000 in
theorem ggL_fix_X2_fix : GoodIn wsL_fix wsX2_fix := goodIn_ca (goodIn_ca (goodIn_r _ [7, 8, 9, 6, 10, 11, 12, 13, 14, 15, 16, 17, 18, 19, 20, 21, 22, 23, 24, 25, 26, 27, 28, 29, 30, 31, 32, 33, 34, 35, 36, 37, 38, 39, 40, 41, 42, 43, 44, 45, 46, 47, 48, 49, 50, 51, 52, 53, 54, 55, 56, 57, 58, 59, 60, 61, 62, 63, 64, 65, 66, 67, 68, 69, 70, 71, 72, 73, 74, 75, 76, 77, 78, 79, 80, 81, 82, 83, 84] (by decide +kernel) (by decide +kernel)) (goodIn_sub (fun _ h => List.mem_cons_of_mem _ (List.mem_append_left _ (List.mem_append_right _ h))) (by decide +kernel))) (goodIn_sub (fun _ h => List.mem_cons_of_mem _ (List.mem_append_right _ h)) (by decide +kernel))
set_option maxRecDepth 20000 in
theorem gL_fix_X2_fix : GoodIn wsL_fix (wsV RL 49 RX2 yX2_fix wsX2_fix) := goodIn_app (goodIn_of _ (by decide +kernel)) ggL_fix_X2_fix
theorem dL_fix_0 : decode cL_fix 0 = .ok (.aload_n 2, 1) := by decide +kernel
theorem dL_fix_1 : decode cL_fix 1 = .ok (.iconst 0, 1) := by decide +kernel
theorem dL_fix_2 : decode cL_fix 2 = .ok (.aload_n 0, 1) := by decide +kernel
theorem dL_fix_3 : decode cL_fix 3 = .ok (.iload_n 1, 1) := by decide +kernel
theorem dL_fix_4 : decode cL_fix 4 = .ok (.invokevirtual 49, 3) := by decide +kernel
theorem dL_fix_7 : decode cL_fix 7 = .ok (.i2l, 1) := by decide +kernel
theorem dL_fix_8 : decode cL_fix 8 = .ok (.lastore, 1) := by decide +kernel
theorem dL_fix_9 : decode cL_fix 9 = .ok (.goto 9, 3) := by decide +kernel
theorem dL_fix_12 : decode cL_fix 12 = .ok (.astore_n 3, 1) := by decide +kernel
theorem dL_fix_13 : decode cL_fix 13 = .ok (.iconst 1, 1) := by decide +kernel
theorem dL_fix_14 : decode cL_fix 14 = .ok (.ireturn, 1) := by decide +kernel
theorem dL_fix_15 : decode cL_fix 15 = .ok (.astore_n 3, 1) := by decide +kernel
theorem dL_fix_16 : decode cL_fix 16 = .ok (.iconst 2, 1) := by decide +kernel
theorem dL_fix_17 : decode cL_fix 17 = .ok (.ireturn, 1) := by decide +kernel
theorem dL_fix_18 : decode cL_fix 18 = .ok (.iconst 0, 1) := by decide +kernel
theorem dL_fix_19 : decode cL_fix 19 = .ok (.ireturn, 1) := by decide +kernel
set_option maxRecDepth 20000 in
theorem ggL_replicate_X2_replicate : GoodIn wsL_replicate wsX2_replicate := goodIn_ca (goodIn_ca (goodIn_r _ [7, 8, 9, 6, 10, 11, 12, 13, 14, 15, 16, 17, 18, 19, 20, 21, 22, 23, 24, 25, 26, 27, 28, 29, 30, 31, 32, 33, 34, 35, 36, 37, 38, 39, 40, 41, 42, 43, 44, 45, 46, 47, 48, 49, 50, 51, 52, 53, 54, 55, 56, 57, 58, 59, 60, 61, 62, 63, 64, 65, 66, 67, 68, 69, 70, 71, 72, 73, 74, 75, 76, 77, 78, 79, 80, 81, 82, 83, 84, 85, 86, 87, 88, 89, 90, 91, 92, 93, 94, 95, 96, 97] (by decide +kernel) (by decide +kernel)) (goodIn_sub (fun _ h => List.mem_cons_of_mem _ (List.mem_append_left _ (List.mem_append_right _ h))) (by decide +kernel))) (goodIn_sub (fun _ h => List.mem_cons_of_mem _ (List.mem_append_right _ h)) (by decide +kernel))
set_option maxRecDepth 20000 in
theorem gL_replicate_X2_replicate : GoodIn wsL_replicate (wsV RL 52 RX2 yX2_replicate wsX2_replicate) := goodIn_app (goodIn_of _ (by decide +kernel)) ggL_replicate_X2_replicate
theorem dL_replicate_0 : decode cL_replicate 0 = .ok (.aload_n 2, 1) := by decide +kernel
theorem dL_replicate_1 : decode cL_replicate 1 = .ok (.iconst 0, 1) := by decide +kernel
theorem dL_replicate_2 : decode cL_replicate 2 = .ok (.aload_n 0, 1) := by decide +kernel
theorem dL_replicate_3 : decode cL_replicate 3 = .ok (.iload_n 1, 1) := by decide +kernel
theorem dL_replicate_4 : decode cL_replicate 4 = .ok (.invokevirtual 52, 3) := by decide +kernel
theorem dL_replicate_7 : decode cL_replicate 7 = .ok (.i2l, 1) := by decide +kernel
theorem dL_replicate_8 : decode cL_replicate 8 = .ok (.lastore, 1) := by decide +kernel
theorem dL_replicate_9 : decode cL_replicate 9 = .ok (.goto 9, 3) := by decide +kernel
theorem dL_replicate_12 : decode cL_replicate 12 = .ok (.astore_n 3, 1) := by decide +kernel
theorem dL_replicate_13 : decode cL_replicate 13 = .ok (.iconst 1, 1) := by decide +kernel
theorem dL_replicate_14 : decode cL_replicate 14 = .ok (.ireturn, 1) := by decide +kernel
theorem dL_replicate_15 : decode cL_replicate 15 = .ok (.astore_n 3, 1) := by decide +kernel
theorem dL_replicate_16 : decode cL_replicate 16 = .ok (.iconst 2, 1) := by decide +kernel
theorem dL_replicate_17 : decode cL_replicate 17 = .ok (.ireturn, 1) := by decide +kernel
theorem dL_replicate_18 : decode cL_replicate 18 = .ok (.iconst 0, 1) := by decide +kernel
theorem dL_replicate_19 : decode cL_replicate 19 = .ok (.ireturn, 1) := by decide +kernel
set_option maxRecDepth 20000 in
theorem ggL_goRounds_X2_goRounds : GoodIn wsL_goRounds wsX2_goRounds := goodIn_ca (goodIn_r _ [6, 7, 8, 5, 9, 10, 11, 12, 13, 14, 15, 16, 17, 18, 19, 20, 21, 22, 23, 24, 25, 26, 27, 28, 29, 30, 31, 32, 33, 34, 35, 36, 37, 38, 39, 40, 41, 42, 43, 44, 45, 46, 47, 48, 49, 50, 51, 52, 53, 54, 55, 56, 57, 58, 59, 60, 61, 62, 63, 64, 65, 66, 67, 68, 69, 70, 71, 72, 73, 74, 75, 76, 77, 78, 79, 80, 81, 82, 83, 84, 85, 86, 87, 88, 89, 90, 91, 92, 93, 94, 95, 96, 97, 98, 99, 100, 101, 102, 103, 104, 105, 106, 107, 108, 109, 110, 111, 112, 113, 114, 115, 116, 117, 118, 119, 120, 121, 122, 123, 124, 125, 126, 127, 128, 129, 130, 131, 132, 133, 134, 135, 136, 137, 138] (by decide +kernel) (by decide +kernel)) (goodIn_sub (fun _ h => List.mem_cons_of_mem _ (List.mem_append_right _ h)) (by decide +kernel))
set_option maxRecDepth 20000 in
theorem gL_goRounds_X2_goRounds : GoodIn wsL_goRounds (wsV RL 55 RX2 yX2_goRounds wsX2_goRounds) := goodIn_app (goodIn_of _ (by decide +kernel)) ggL_goRounds_X2_goRounds
theorem dL_goRounds_0 : decode cL_goRounds 0 = .ok (.aload_n 2, 1) := by decide +kernel
theorem dL_goRounds_1 : decode cL_goRounds 1 = .ok (.iconst 0, 1) := by decide +kernel
theorem dL_goRounds_2 : decode cL_goRounds 2 = .ok (.aload_n 0, 1) := by decide +kernel
theorem dL_goRounds_3 : decode cL_goRounds 3 = .ok (.iload_n 1, 1) := by decide +kernel
theorem dL_goRounds_4 : decode cL_goRounds 4 = .ok (.invokevirtual 55, 3) := by decide +kernel
theorem dL_goRounds_7 : decode cL_goRounds 7 = .ok (.i2l, 1) := by decide +kernel
theorem dL_goRounds_8 : decode cL_goRounds 8 = .ok (.lastore, 1) := by decide +kernel
theorem dL_goRounds_9 : decode cL_goRounds 9 = .ok (.goto 6, 3) := by decide +kernel
theorem dL_goRounds_12 : decode cL_goRounds 12 = .ok (.astore_n 3, 1) := by decide +kernel
theorem dL_goRounds_13 : decode cL_goRounds 13 = .ok (.iconst 1, 1) := by decide +kernel
theorem dL_goRounds_14 : decode cL_goRounds 14 = .ok (.ireturn, 1) := by decide +kernel
theorem dL_goRounds_15 : decode cL_goRounds 15 = .ok (.iconst 0, 1) := by decide +kernel
theorem dL_goRounds_16 : decode cL_goRounds 16 = .ok (.ireturn, 1) := by decide +kernel
set_option maxRecDepth 20000 in
theorem ggL_lookup_X2_lookup : GoodIn wsL_lookup wsX2_lookup := goodIn_ca (goodIn_ca (goodIn_r _ [7, 8, 9, 6, 10, 11, 12, 13, 14, 15, 16, 17, 18, 19, 20, 21, 22, 23, 24, 25, 26, 27, 28, 29, 30, 31, 32, 33, 34, 35, 36, 37, 38, 39, 40, 41, 42, 43, 44, 45, 46, 47, 48, 49, 50, 51, 52, 53, 54, 55, 56, 57, 58, 59, 60, 61, 62, 63, 64, 65, 66, 67, 68, 69, 70] (by decide +kernel) (by decide +kernel)) (goodIn_sub (fun _ h => List.mem_cons_of_mem _ (List.mem_append_left _ (List.mem_append_right _ h))) (by decide +kernel))) (goodIn_sub (fun _ h => List.mem_cons_of_mem _ (List.mem_append_right _ h)) (by decide +kernel))
set_option maxRecDepth 20000 in
theorem gL_lookup_X2_lookup : GoodIn wsL_lookup (wsV RL 58 RX2 yX2_lookup wsX2_lookup) := goodIn_app (goodIn_of _ (by decide +kernel)) ggL_lookup_X2_lookup
theorem dL_lookup_0 : decode cL_lookup 0 = .ok (.aload_n 3, 1) := by decide +kernel
theorem dL_lookup_1 : decode cL_lookup 1 = .ok (.iconst 0, 1) := by decide +kernel
theorem dL_lookup_2 : decode cL_lookup 2 = .ok (.aload_n 0, 1) := by decide +kernel
theorem dL_lookup_3 : decode cL_lookup 3 = .ok (.iload_n 1, 1) := by decide +kernel
theorem dL_lookup_4 : decode cL_lookup 4 = .ok (.iload_n 2, 1) := by decide +kernel
theorem dL_lookup_5 : decode cL_lookup 5 = .ok (.invokevirtual 58, 3) := by decide +kernel
theorem dL_lookup_8 : decode cL_lookup 8 = .ok (.i2l, 1) := by decide +kernel
theorem dL_lookup_9 : decode cL_lookup 9 = .ok (.lastore, 1) := by decide +kernel
theorem dL_lookup_10 : decode cL_lookup 10 = .ok (.goto 11, 3) := by decide +kernel
theorem dL_lookup_13 : decode cL_lookup 13 = .ok (.astore 4, 2) := by decide +kernel
theorem dL_lookup_15 : decode cL_lookup 15 = .ok (.iconst 1, 1) := by decide +kernel
theorem dL_lookup_16 : decode cL_lookup 16 = .ok (.ireturn, 1) := by decide +kernel
theorem dL_lookup_17 : decode cL_lookup 17 = .ok (.astore 4, 2) := by decide +kernel
theorem dL_lookup_19 : decode cL_lookup 19 = .ok (.iconst 2, 1) := by decide +kernel
theorem dL_lookup_20 : decode cL_lookup 20 = .ok (.ireturn, 1) := by decide +kernel
theorem dL_lookup_21 : decode cL_lookup 21 = .ok (.iconst 0, 1) := by decide +kernel
theorem dL_lookup_22 : decode cL_lookup 22 = .ok (.ireturn, 1) := by decide +kernel
set_option maxRecDepth 20000 in
theorem ggL_hops_X2_hops : GoodIn wsL_hops wsX2_hops := goodIn_ca (goodIn_ca (goodIn_r _ [7, 8, 9, 10, 6, 11, 12, 13, 14, 15, 16, 17, 18, 19, 20, 21, 22, 23, 24, 25, 26, 27, 28, 29, 30, 31, 32, 33, 34, 35, 36, 37, 38, 39, 40, 41, 42, 43, 44, 45, 46, 47, 48, 49, 50, 51, 52, 53, 54, 55, 56, 57, 58, 59, 60, 61, 62, 63, 64, 65, 66, 67, 68, 69, 70] (by decide +kernel) (by decide +kernel)) (goodIn_sub (fun _ h => List.mem_cons_of_mem _ (List.mem_append_left _ (List.mem_append_right _ h))) (by decide +kernel))) (goodIn_sub (fun _ h => List.mem_cons_of_mem _ (List.mem_append_right _ h)) (by decide +kernel))
set_option maxRecDepth 20000 in
theorem gL_hops_X2_hops : GoodIn wsL_hops (wsV RL 61 RX2 yX2_hops wsX2_hops) := goodIn_app (goodIn_of _ (by decide +kernel)) ggL_hops_X2_hops
theorem dL_hops_0 : decode cL_hops 0 = .ok (.aload_n 3, 1) := by decide +kernel
theorem dL_hops_1 : decode cL_hops 1 = .ok (.iconst 0, 1) := by decide +kernel
theorem dL_hops_2 : decode cL_hops 2 = .ok (.aload_n 0, 1) := by decide +kernel
theorem dL_hops_3 : decode cL_hops 3 = .ok (.iload_n 1, 1) := by decide +kernel
theorem dL_hops_4 : decode cL_hops 4 = .ok (.iload_n 2, 1) := by decide +kernel
theorem dL_hops_5 : decode cL_hops 5 = .ok (.invokevirtual 61, 3) := by decide +kernel
theorem dL_hops_8 : decode cL_hops 8 = .ok (.i2l, 1) := by decide +kernel
theorem dL_hops_9 : decode cL_hops 9 = .ok (.lastore, 1) := by decide +kernel
theorem dL_hops_10 : decode cL_hops 10 = .ok (.goto 11, 3) := by decide +kernel
theorem dL_hops_13 : decode cL_hops 13 = .ok (.astore 4, 2) := by decide +kernel
theorem dL_hops_15 : decode cL_hops 15 = .ok (.iconst 1, 1) := by decide +kernel
theorem dL_hops_16 : decode cL_hops 16 = .ok (.ireturn, 1) := by decide +kernel
theorem dL_hops_17 : decode cL_hops 17 = .ok (.astore 4, 2) := by decide +kernel
theorem dL_hops_19 : decode cL_hops 19 = .ok (.iconst 2, 1) := by decide +kernel
theorem dL_hops_20 : decode cL_hops 20 = .ok (.ireturn, 1) := by decide +kernel
theorem dL_hops_21 : decode cL_hops 21 = .ok (.iconst 0, 1) := by decide +kernel
theorem dL_hops_22 : decode cL_hops 22 = .ok (.ireturn, 1) := by decide +kernel
set_option maxRecDepth 20000 in
theorem ggL_hopAt_X2_hopAt : GoodIn wsL_hopAt wsX2_hopAt := goodIn_ca (goodIn_ca (goodIn_ca (goodIn_r _ [8, 9, 10, 11, 12, 13, 14, 7, 15, 16, 17, 18, 19, 20, 21, 22, 23, 24, 25, 26, 27, 28, 29, 30, 31, 32, 33, 34, 35, 36, 37, 38, 39, 40, 41, 42, 43, 44, 45, 46, 47, 48, 49, 50, 51, 52, 53, 54, 55, 56, 57, 58, 59, 60, 61, 62, 63, 64, 65, 66, 67, 68, 69, 70, 71, 72, 73] (by decide +kernel) (by decide +kernel)) (goodIn_sub (fun _ h => List.mem_cons_of_mem _ (List.mem_append_left _ (List.mem_append_left _ (List.mem_append_right _ h)))) (by decide +kernel))) (goodIn_sub (fun _ h => List.mem_cons_of_mem _ (List.mem_append_left _ (List.mem_append_right _ h))) (by decide +kernel))) (goodIn_sub (fun _ h => List.mem_cons_of_mem _ (List.mem_append_right _ h)) (by decide +kernel))
set_option maxRecDepth 20000 in
theorem gL_hopAt_X2_hopAt : GoodIn wsL_hopAt (wsV RL 64 RX2 yX2_hopAt wsX2_hopAt) := goodIn_app (goodIn_of _ (by decide +kernel)) ggL_hopAt_X2_hopAt
theorem dL_hopAt_0 : decode cL_hopAt 0 = .ok (.aload 4, 2) := by decide +kernel
theorem dL_hopAt_2 : decode cL_hopAt 2 = .ok (.iconst 0, 1) := by decide +kernel
theorem dL_hopAt_3 : decode cL_hopAt 3 = .ok (.aload_n 0, 1) := by decide +kernel
theorem dL_hopAt_4 : decode cL_hopAt 4 = .ok (.iload_n 1, 1) := by decide +kernel
theorem dL_hopAt_5 : decode cL_hopAt 5 = .ok (.iload_n 2, 1) := by decide +kernel
theorem dL_hopAt_6 : decode cL_hopAt 6 = .ok (.iload_n 3, 1) := by decide +kernel
theorem dL_hopAt_7 : decode cL_hopAt 7 = .ok (.invokevirtual 64, 3) := by decide +kernel
theorem dL_hopAt_10 : decode cL_hopAt 10 = .ok (.i2l, 1) := by decide +kernel
theorem dL_hopAt_11 : decode cL_hopAt 11 = .ok (.lastore, 1) := by decide +kernel
theorem dL_hopAt_12 : decode cL_hopAt 12 = .ok (.goto 15, 3) := by decide +kernel
theorem dL_hopAt_15 : decode cL_hopAt 15 = .ok (.astore 5, 2) := by decide +kernel
theorem dL_hopAt_17 : decode cL_hopAt 17 = .ok (.iconst 1, 1) := by decide +kernel
theorem dL_hopAt_18 : decode cL_hopAt 18 = .ok (.ireturn, 1) := by decide +kernel
theorem dL_hopAt_19 : decode cL_hopAt 19 = .ok (.astore 5, 2) := by decide +kernel
theorem dL_hopAt_21 : decode cL_hopAt 21 = .ok (.iconst 2, 1) := by decide +kernel
theorem dL_hopAt_22 : decode cL_hopAt 22 = .ok (.ireturn, 1) := by decide +kernel
theorem dL_hopAt_23 : decode cL_hopAt 23 = .ok (.astore 5, 2) := by decide +kernel
theorem dL_hopAt_25 : decode cL_hopAt 25 = .ok (.iconst 3, 1) := by decide +kernel
theorem dL_hopAt_26 : decode cL_hopAt 26 = .ok (.ireturn, 1) := by decide +kernel
theorem dL_hopAt_27 : decode cL_hopAt 27 = .ok (.iconst 0, 1) := by decide +kernel
theorem dL_hopAt_28 : decode cL_hopAt 28 = .ok (.ireturn, 1) := by decide +kernel
set_option maxRecDepth 20000 in
theorem ggL_put_X2_put : GoodIn wsL_put wsX2_put := goodIn_ca (goodIn_ca (goodIn_r _ [7, 8, 9, 10, 11, 12, 6, 13, 14, 15, 16, 17, 18, 19, 20, 21, 22, 23, 24, 25, 26, 27, 28, 29, 30, 31, 32, 33, 34, 35, 36, 37, 38, 39, 40, 41, 42, 43, 44, 45, 46, 47, 48, 49, 50, 51, 52, 53, 54, 55, 56, 57, 58, 59, 60, 61, 62, 63, 64, 65, 66, 67, 68, 69, 70, 71, 72, 73, 74, 75, 76, 77, 78, 79, 80, 81, 82, 83, 84, 85, 86, 87, 88, 89] (by decide +kernel) (by decide +kernel)) (goodIn_sub (fun _ h => List.mem_cons_of_mem _ (List.mem_append_left _ (List.mem_append_right _ h))) (by decide +kernel))) (goodIn_sub (fun _ h => List.mem_cons_of_mem _ (List.mem_append_right _ h)) (by decide +kernel))
set_option maxRecDepth 20000 in
theorem gL_put_X2_put : GoodIn wsL_put (wsV RL 70 RX2 yX2_put wsX2_put) := goodIn_app (goodIn_of _ (by decide +kernel)) ggL_put_X2_put
theorem dL_put_0 : decode cL_put 0 = .ok (.aload 4, 2) := by decide +kernel
theorem dL_put_2 : decode cL_put 2 = .ok (.iconst 0, 1) := by decide +kernel
theorem dL_put_3 : decode cL_put 3 = .ok (.aload_n 0, 1) := by decide +kernel
theorem dL_put_4 : decode cL_put 4 = .ok (.iload_n 1, 1) := by decide +kernel
theorem dL_put_5 : decode cL_put 5 = .ok (.iload_n 2, 1) := by decide +kernel
theorem dL_put_6 : decode cL_put 6 = .ok (.iload_n 3, 1) := by decide +kernel
theorem dL_put_7 : decode cL_put 7 = .ok (.invokevirtual 70, 3) := by decide +kernel
theorem dL_put_10 : decode cL_put 10 = .ok (.i2l, 1) := by decide +kernel
theorem dL_put_11 : decode cL_put 11 = .ok (.lastore, 1) := by decide +kernel
theorem dL_put_12 : decode cL_put 12 = .ok (.goto 11, 3) := by decide +kernel
theorem dL_put_15 : decode cL_put 15 = .ok (.astore 5, 2) := by decide +kernel
theorem dL_put_17 : decode cL_put 17 = .ok (.iconst 1, 1) := by decide +kernel
theorem dL_put_18 : decode cL_put 18 = .ok (.ireturn, 1) := by decide +kernel
theorem dL_put_19 : decode cL_put 19 = .ok (.astore 5, 2) := by decide +kernel
theorem dL_put_21 : decode cL_put 21 = .ok (.iconst 2, 1) := by decide +kernel
theorem dL_put_22 : decode cL_put 22 = .ok (.ireturn, 1) := by decide +kernel
theorem dL_put_23 : decode cL_put 23 = .ok (.iconst 0, 1) := by decide +kernel
theorem dL_put_24 : decode cL_put 24 = .ok (.ireturn, 1) := by decide +kernel
set_option maxRecDepth 20000 in
theorem ggL_get_X2_get : GoodIn wsL_get wsX2_get := goodIn_ca (goodIn_ca (goodIn_r _ [7, 8, 9, 10, 6, 11, 12, 13, 14, 15, 16, 17, 18, 19, 20, 21, 22, 23, 24, 25, 26, 27, 28, 29, 30, 31, 32, 33, 34, 35, 36, 37, 38, 39, 40, 41, 42, 43, 44, 45, 46, 47, 48, 49, 50, 51, 52, 53, 54, 55, 56, 57, 58, 59, 60, 61, 62, 63, 64, 65, 66, 67, 68, 69, 70, 71] (by decide +kernel) (by decide +kernel)) (goodIn_sub (fun _ h => List.mem_cons_of_mem _ (List.mem_append_left _ (List.mem_append_right _ h))) (by decide +kernel))) (goodIn_sub (fun _ h => List.mem_cons_of_mem _ (List.mem_append_right _ h)) (by decide +kernel))
set_option maxRecDepth 20000 in
theorem gL_get_X2_get : GoodIn wsL_get (wsV RL 73 RX2 yX2_get wsX2_get) := goodIn_app (goodIn_of _ (by decide +kernel)) ggL_get_X2_get
theorem dL_get_0 : decode cL_get 0 = .ok (.aload_n 3, 1) := by decide +kernel
theorem dL_get_1 : decode cL_get 1 = .ok (.iconst 0, 1) := by decide +kernel
theorem dL_get_2 : decode cL_get 2 = .ok (.aload_n 0, 1) := by decide +kernel
theorem dL_get_3 : decode cL_get 3 = .ok (.iload_n 1, 1) := by decide +kernel
theorem dL_get_4 : decode cL_get 4 = .ok (.iload_n 2, 1) := by decide +kernel
theorem dL_get_5 : decode cL_get 5 = .ok (.invokevirtual 73, 3) := by decide +kernel
theorem dL_get_8 : decode cL_get 8 = .ok (.i2l, 1) := by decide +kernel
theorem dL_get_9 : decode cL_get 9 = .ok (.lastore, 1) := by decide +kernel
theorem dL_get_10 : decode cL_get 10 = .ok (.goto 11, 3) := by decide +kernel
theorem dL_get_13 : decode cL_get 13 = .ok (.astore 4, 2) := by decide +kernel
theorem dL_get_15 : decode cL_get 15 = .ok (.iconst 1, 1) := by decide +kernel
theorem dL_get_16 : decode cL_get 16 = .ok (.ireturn, 1) := by decide +kernel
theorem dL_get_17 : decode cL_get 17 = .ok (.astore 4, 2) := by decide +kernel
theorem dL_get_19 : decode cL_get 19 = .ok (.iconst 2, 1) := by decide +kernel
theorem dL_get_20 : decode cL_get 20 = .ok (.ireturn, 1) := by decide +kernel
theorem dL_get_21 : decode cL_get 21 = .ok (.iconst 0, 1) := by decide +kernel
theorem dL_get_22 : decode cL_get 22 = .ok (.ireturn, 1) := by decide +kernel
set_option maxRecDepth 20000 in
theorem ggL_kept_X2_kept : GoodIn wsL_kept wsX2_kept := goodIn_ca (goodIn_ca (goodIn_r _ [7, 8, 9, 10, 6, 11, 12, 13, 14, 15, 16, 17, 18, 19, 20, 21, 22, 23, 24, 25, 26, 27, 28, 29, 30, 31, 32, 33, 34, 35, 36, 37, 38, 39, 40, 41, 42, 43, 44, 45, 46, 47, 48] (by decide +kernel) (by decide +kernel)) (goodIn_sub (fun _ h => List.mem_cons_of_mem _ (List.mem_append_left _ (List.mem_append_right _ h))) (by decide +kernel))) (goodIn_sub (fun _ h => List.mem_cons_of_mem _ (List.mem_append_right _ h)) (by decide +kernel))
set_option maxRecDepth 20000 in
theorem gL_kept_X2_kept : GoodIn wsL_kept (wsV RL 76 RX2 yX2_kept wsX2_kept) := goodIn_app (goodIn_of _ (by decide +kernel)) ggL_kept_X2_kept
theorem dL_kept_0 : decode cL_kept 0 = .ok (.aload_n 3, 1) := by decide +kernel
theorem dL_kept_1 : decode cL_kept 1 = .ok (.iconst 0, 1) := by decide +kernel
theorem dL_kept_2 : decode cL_kept 2 = .ok (.aload_n 0, 1) := by decide +kernel
theorem dL_kept_3 : decode cL_kept 3 = .ok (.iload_n 1, 1) := by decide +kernel
theorem dL_kept_4 : decode cL_kept 4 = .ok (.iload_n 2, 1) := by decide +kernel
theorem dL_kept_5 : decode cL_kept 5 = .ok (.invokevirtual 76, 3) := by decide +kernel
theorem dL_kept_8 : decode cL_kept 8 = .ok (.i2l, 1) := by decide +kernel
theorem dL_kept_9 : decode cL_kept 9 = .ok (.lastore, 1) := by decide +kernel
theorem dL_kept_10 : decode cL_kept 10 = .ok (.goto 11, 3) := by decide +kernel
theorem dL_kept_13 : decode cL_kept 13 = .ok (.astore 4, 2) := by decide +kernel
theorem dL_kept_15 : decode cL_kept 15 = .ok (.iconst 1, 1) := by decide +kernel
theorem dL_kept_16 : decode cL_kept 16 = .ok (.ireturn, 1) := by decide +kernel
theorem dL_kept_17 : decode cL_kept 17 = .ok (.astore 4, 2) := by decide +kernel
theorem dL_kept_19 : decode cL_kept 19 = .ok (.iconst 2, 1) := by decide +kernel
theorem dL_kept_20 : decode cL_kept 20 = .ok (.ireturn, 1) := by decide +kernel
theorem dL_kept_21 : decode cL_kept 21 = .ok (.iconst 0, 1) := by decide +kernel
theorem dL_kept_22 : decode cL_kept 22 = .ok (.ireturn, 1) := by decide +kernel
set_option maxRecDepth 20000 in
theorem ggL_keepers_X2_keepers : GoodIn wsL_keepers wsX2_keepers := goodIn_ca (goodIn_r _ [6, 7, 8, 9, 5, 10, 11, 12, 13, 14, 15, 16, 17, 18, 19, 20, 21, 22, 23, 24, 25, 26, 27, 28, 29, 30, 31, 32, 33, 34, 35, 36, 37, 38, 39, 40, 41] (by decide +kernel) (by decide +kernel)) (goodIn_sub (fun _ h => List.mem_cons_of_mem _ (List.mem_append_right _ h)) (by decide +kernel))
set_option maxRecDepth 20000 in
theorem gL_keepers_X2_keepers : GoodIn wsL_keepers (wsV RL 79 RX2 yX2_keepers wsX2_keepers) := goodIn_app (goodIn_of _ (by decide +kernel)) ggL_keepers_X2_keepers
theorem dL_keepers_0 : decode cL_keepers 0 = .ok (.aload_n 2, 1) := by decide +kernel
theorem dL_keepers_1 : decode cL_keepers 1 = .ok (.iconst 0, 1) := by decide +kernel
theorem dL_keepers_2 : decode cL_keepers 2 = .ok (.aload_n 0, 1) := by decide +kernel
theorem dL_keepers_3 : decode cL_keepers 3 = .ok (.iload_n 1, 1) := by decide +kernel
theorem dL_keepers_4 : decode cL_keepers 4 = .ok (.invokevirtual 79, 3) := by decide +kernel
theorem dL_keepers_7 : decode cL_keepers 7 = .ok (.i2l, 1) := by decide +kernel
theorem dL_keepers_8 : decode cL_keepers 8 = .ok (.lastore, 1) := by decide +kernel
theorem dL_keepers_9 : decode cL_keepers 9 = .ok (.goto 6, 3) := by decide +kernel
theorem dL_keepers_12 : decode cL_keepers 12 = .ok (.astore_n 3, 1) := by decide +kernel
theorem dL_keepers_13 : decode cL_keepers 13 = .ok (.iconst 1, 1) := by decide +kernel
theorem dL_keepers_14 : decode cL_keepers 14 = .ok (.ireturn, 1) := by decide +kernel
theorem dL_keepers_15 : decode cL_keepers 15 = .ok (.iconst 0, 1) := by decide +kernel
theorem dL_keepers_16 : decode cL_keepers 16 = .ok (.ireturn, 1) := by decide +kernel
set_option maxRecDepth 20000 in
theorem ggL_owner_X2_owner : GoodIn wsL_owner wsX2_owner := goodIn_ca (goodIn_r _ [6, 7, 8, 5, 9, 10, 11, 12, 13, 14, 15, 16, 17, 18, 19, 20, 21, 22, 23, 24, 25, 26, 27, 28, 29, 30, 31, 32, 33, 34, 35, 36, 37, 38, 39] (by decide +kernel) (by decide +kernel)) (goodIn_sub (fun _ h => List.mem_cons_of_mem _ (List.mem_append_right _ h)) (by decide +kernel))
set_option maxRecDepth 20000 in
theorem gL_owner_X2_owner : GoodIn wsL_owner (wsV RL 82 RX2 yX2_owner wsX2_owner) := goodIn_app (goodIn_of _ (by decide +kernel)) ggL_owner_X2_owner
theorem dL_owner_0 : decode cL_owner 0 = .ok (.aload_n 2, 1) := by decide +kernel
theorem dL_owner_1 : decode cL_owner 1 = .ok (.iconst 0, 1) := by decide +kernel
theorem dL_owner_2 : decode cL_owner 2 = .ok (.aload_n 0, 1) := by decide +kernel
theorem dL_owner_3 : decode cL_owner 3 = .ok (.iload_n 1, 1) := by decide +kernel
theorem dL_owner_4 : decode cL_owner 4 = .ok (.invokevirtual 82, 3) := by decide +kernel
theorem dL_owner_7 : decode cL_owner 7 = .ok (.i2l, 1) := by decide +kernel
theorem dL_owner_8 : decode cL_owner 8 = .ok (.lastore, 1) := by decide +kernel
theorem dL_owner_9 : decode cL_owner 9 = .ok (.goto 6, 3) := by decide +kernel
theorem dL_owner_12 : decode cL_owner 12 = .ok (.astore_n 3, 1) := by decide +kernel
theorem dL_owner_13 : decode cL_owner 13 = .ok (.iconst 1, 1) := by decide +kernel
theorem dL_owner_14 : decode cL_owner 14 = .ok (.ireturn, 1) := by decide +kernel
theorem dL_owner_15 : decode cL_owner 15 = .ok (.iconst 0, 1) := by decide +kernel
theorem dL_owner_16 : decode cL_owner 16 = .ok (.ireturn, 1) := by decide +kernel
set_option maxRecDepth 20000 in
theorem ggL_roundsToRight_X2_roundsToRight : GoodIn wsL_roundsToRight wsX2_roundsToRight := goodIn_ca (goodIn_r _ [6, 7, 8, 5, 9, 10, 11, 12, 13, 14, 15, 16, 17, 18, 19, 20, 21, 22, 23, 24, 25, 26, 27, 28, 29, 30, 31, 32, 33, 34, 35, 36, 37, 38, 39, 40, 41, 42, 43, 44, 45, 46, 47, 48, 49, 50, 51, 52, 53, 54, 55, 56, 57, 58, 59, 60, 61, 62, 63, 64, 65, 66, 67, 68, 69, 70, 71, 72, 73, 74, 75, 76, 77, 78, 79, 80, 81, 82, 83, 84, 85, 86, 87, 88, 89, 90, 91, 92, 93, 94, 95, 96, 97, 98, 99, 100, 101, 102, 103, 104, 105, 106, 107, 108, 109, 110, 111, 112, 113, 114, 115, 116, 117, 118, 119, 120, 121, 122, 123, 124, 125, 126, 127, 128, 129, 130, 131, 132, 133, 134, 135, 136, 137, 138, 139, 140, 141, 142, 143, 144, 145, 146, 147, 148, 149, 150, 151, 152, 153, 154, 155, 156, 157, 158, 159, 160, 161] (by decide +kernel) (by decide +kernel)) (goodIn_sub (fun _ h => List.mem_cons_of_mem _ (List.mem_append_right _ h)) (by decide +kernel))
set_option maxRecDepth 20000 in
theorem gL_roundsToRight_X2_roundsToRight : GoodIn wsL_roundsToRight (wsV RL 85 RX2 yX2_roundsToRight wsX2_roundsToRight) := goodIn_app (goodIn_of _ (by decide +kernel)) ggL_roundsToRight_X2_roundsToRight
theorem dL_roundsToRight_0 : decode cL_roundsToRight 0 = .ok (.aload_n 2, 1) := by decide +kernel
theorem dL_roundsToRight_1 : decode cL_roundsToRight 1 = .ok (.iconst 0, 1) := by decide +kernel
theorem dL_roundsToRight_2 : decode cL_roundsToRight 2 = .ok (.aload_n 0, 1) := by decide +kernel
theorem dL_roundsToRight_3 : decode cL_roundsToRight 3 = .ok (.iload_n 1, 1) := by decide +kernel
theorem dL_roundsToRight_4 : decode cL_roundsToRight 4 = .ok (.invokevirtual 85, 3) := by decide +kernel
theorem dL_roundsToRight_7 : decode cL_roundsToRight 7 = .ok (.i2l, 1) := by decide +kernel
theorem dL_roundsToRight_8 : decode cL_roundsToRight 8 = .ok (.lastore, 1) := by decide +kernel
theorem dL_roundsToRight_9 : decode cL_roundsToRight 9 = .ok (.goto 6, 3) := by decide +kernel
theorem dL_roundsToRight_12 : decode cL_roundsToRight 12 = .ok (.astore_n 3, 1) := by decide +kernel
theorem dL_roundsToRight_13 : decode cL_roundsToRight 13 = .ok (.iconst 1, 1) := by decide +kernel
theorem dL_roundsToRight_14 : decode cL_roundsToRight 14 = .ok (.ireturn, 1) := by decide +kernel
theorem dL_roundsToRight_15 : decode cL_roundsToRight 15 = .ok (.iconst 0, 1) := by decide +kernel
theorem dL_roundsToRight_16 : decode cL_roundsToRight 16 = .ok (.ireturn, 1) := by decide +kernel
