set_option maxRecDepth 20000 in
theorem ggL_calls_X2_create : GoodIn wsL_calls wsX2_create := goodIn_ca (goodIn_ca (goodIn_r _ [6, 7, 8, 9, 10, 5, 11, 12, 13, 14, 15, 16, 17, 18, 19, 20, 21, 22, 23, 24, 25, 26, 27, 28, 29, 30, 31, 32, 33, 34, 35, 36, 37, 38, 39, 40, 41, 42, 43, 44, 45, 46, 47, 48, 49, 50, 51, 52, 53, 54, 171, 172, 173, 174, 175, 176, 177, 178, 179, 180, 181, 182, 183, 184] (by decide +kernel) (by decide +kernel)) (goodIn_sub (fun _ h => List.mem_cons_of_mem _ (List.mem_append_left _ (List.mem_append_right _ h))) (by decide +kernel))) (goodIn_sub (fun _ h => List.mem_cons_of_mem _ (List.mem_append_right _ h)) (by decide +kernel))
set_option maxRecDepth 20000 in
theorem gL_calls_X2_create : GoodIn wsL_calls (wsV RL 10 RX2 yX2_create wsX2_create) := goodIn_app (goodIn_of _ (by decide +kernel)) ggL_calls_X2_create
set_option maxRecDepth 20000 in
theorem ggL_calls_X2_join : GoodIn wsL_calls wsX2_join := goodIn_ca (goodIn_ca (goodIn_r _ [58, 7, 8, 38, 9, 10, 5, 11, 12, 13, 14, 15, 16, 21, 22, 23, 24, 25, 59, 60, 61, 62, 63, 64, 65, 66, 67, 68, 69, 70, 71, 72, 73, 74, 75, 42, 76, 44, 45, 77, 78, 79, 80, 81, 82, 83, 84, 31, 85, 86, 87, 26, 27, 28, 29, 30, 32, 33, 34, 35, 36, 37, 39, 40, 41, 43, 46, 47, 48, 49, 50, 51, 52, 53, 54, 171, 172, 173, 174, 175, 176, 177, 178, 179, 180, 181, 182, 183, 184] (by decide +kernel) (by decide +kernel)) (goodIn_sub (fun _ h => List.mem_cons_of_mem _ (List.mem_append_left _ (List.mem_append_right _ h))) (by decide +kernel))) (goodIn_sub (fun _ h => List.mem_cons_of_mem _ (List.mem_append_right _ h)) (by decide +kernel))
set_option maxRecDepth 20000 in
theorem gL_calls_X2_join : GoodIn wsL_calls (wsV RL 16 RX2 yX2_join wsX2_join) := goodIn_app (goodIn_of _ (by decide +kernel)) ggL_calls_X2_join
set_option maxRecDepth 20000 in
theorem ggL_calls_X2_fail : GoodIn wsL_calls wsX2_fail := goodIn_ca (goodIn_ca (goodIn_r _ [91, 9, 10, 5, 11, 12, 13, 14, 15, 16, 59, 60, 61, 62, 7, 8, 21, 22, 23, 24, 25, 92, 93, 94, 95, 51, 52, 53, 54, 17, 18, 19, 20, 171, 172, 173, 174, 175, 176, 177, 178, 179, 180, 181, 182] (by decide +kernel) (by decide +kernel)) (goodIn_sub (fun _ h => List.mem_cons_of_mem _ (List.mem_append_right _ h)) (by decide +kernel))) (goodIn_sub (fun _ h => List.mem_cons_of_mem _ (List.mem_append_left _ (List.mem_append_right _ h))) (by decide +kernel))
set_option maxRecDepth 20000 in
theorem gL_calls_X2_fail : GoodIn wsL_calls (wsV RL 20 RX2 yX2_fail wsX2_fail) := goodIn_app (goodIn_of _ (by decide +kernel)) ggL_calls_X2_fail
set_option maxRecDepth 20000 in
theorem ggL_calls_X2_leave : GoodIn wsL_calls wsX2_leave := goodIn_ca (goodIn_ca (goodIn_r _ [99, 9, 10, 5, 11, 12, 13, 14, 15, 16, 59, 60, 61, 62, 7, 8, 21, 22, 23, 24, 25, 69, 70, 71, 72, 38, 73, 74, 75, 42, 76, 44, 45, 100, 101, 102, 103, 30, 104, 105, 106, 107, 33, 32, 39, 40, 41, 43, 108, 109, 110, 111, 34, 35, 36, 37, 92, 93, 94, 95, 51, 52, 53, 54, 17, 18, 19, 20, 171, 172, 173, 174, 175, 176, 177, 178, 179, 180, 181, 182, 183, 184] (by decide +kernel) (by decide +kernel)) (goodIn_sub (fun _ h => List.mem_cons_of_mem _ (List.mem_append_right _ h)) (by decide +kernel))) (goodIn_sub (fun _ h => List.mem_cons_of_mem _ (List.mem_append_left _ (List.mem_append_right _ h))) (by decide +kernel))
set_option maxRecDepth 20000 in
theorem gL_calls_X2_leave : GoodIn wsL_calls (wsV RL 23 RX2 yX2_leave wsX2_leave) := goodIn_app (goodIn_of _ (by decide +kernel)) ggL_calls_X2_leave
set_option maxRecDepth 20000 in
theorem ggL_calls_X2_check : GoodIn wsL_calls wsX2_check := goodIn_ca (goodIn_ca (goodIn_r _ [115, 30, 9, 10, 5, 11, 12, 13, 14, 15, 16, 59, 60, 61, 62, 7, 8, 21, 22, 23, 24, 25, 116, 117, 118, 119, 73, 74, 75, 42, 76, 44, 45, 39, 40, 41, 43, 171, 172, 173, 174, 175, 176, 177, 178, 179, 180, 181, 182, 183, 184] (by decide +kernel) (by decide +kernel)) (goodIn_sub (fun _ h => List.mem_cons_of_mem _ (List.mem_append_right _ h)) (by decide +kernel))) (goodIn_sub (fun _ h => List.mem_cons_of_mem _ (List.mem_append_left _ (List.mem_append_right _ h))) (by decide +kernel))
set_option maxRecDepth 20000 in
theorem gL_calls_X2_check : GoodIn wsL_calls (wsV RL 26 RX2 yX2_check wsX2_check) := goodIn_app (goodIn_of _ (by decide +kernel)) ggL_calls_X2_check
set_option maxRecDepth 20000 in
theorem ggL_calls_X2_stabilize : GoodIn wsL_calls wsX2_stabilize := goodIn_ca (goodIn_ca (goodIn_r _ [123, 38, 9, 10, 5, 11, 12, 13, 14, 15, 16, 59, 60, 61, 62, 7, 8, 21, 22, 23, 24, 25, 124, 125, 126, 127, 30, 69, 70, 71, 72, 73, 74, 75, 42, 76, 44, 45, 85, 86, 79, 87, 108, 109, 110, 111, 34, 35, 36, 37, 39, 40, 41, 43, 128, 129, 130, 131, 171, 172, 173, 174, 175, 176, 177, 178, 179, 180, 181, 182, 183, 184] (by decide +kernel) (by decide +kernel)) (goodIn_sub (fun _ h => List.mem_cons_of_mem _ (List.mem_append_right _ h)) (by decide +kernel))) (goodIn_sub (fun _ h => List.mem_cons_of_mem _ (List.mem_append_left _ (List.mem_append_right _ h))) (by decide +kernel))
set_option maxRecDepth 20000 in
theorem gL_calls_X2_stabilize : GoodIn wsL_calls (wsV RL 30 RX2 yX2_stabilize wsX2_stabilize) := goodIn_app (goodIn_of _ (by decide +kernel)) ggL_calls_X2_stabilize
set_option maxRecDepth 20000 in
theorem ggL_calls_X2_fix : GoodIn wsL_calls wsX2_fix := goodIn_ca (goodIn_ca (goodIn_r _ [135, 9, 10, 5, 11, 12, 13, 14, 15, 16, 59, 60, 61, 62, 7, 8, 21, 22, 23, 24, 25, 136, 137, 138, 139, 31, 140, 141, 79, 142, 143, 144, 145, 63, 64, 65, 66, 67, 68, 69, 70, 71, 72, 38, 73, 74, 75, 42, 76, 44, 45, 77, 78, 80, 81, 82, 83, 84, 85, 86, 87, 39, 40, 41, 43, 171, 172, 173, 174, 175, 176, 177, 178, 179, 180, 181, 182, 183, 184] (by decide +kernel) (by decide +kernel)) (goodIn_sub (fun _ h => List.mem_cons_of_mem _ (List.mem_append_right _ h)) (by decide +kernel))) (goodIn_sub (fun _ h => List.mem_cons_of_mem _ (List.mem_append_left _ (List.mem_append_right _ h))) (by decide +kernel))
set_option maxRecDepth 20000 in
theorem gL_calls_X2_fix : GoodIn wsL_calls (wsV RL 33 RX2 yX2_fix wsX2_fix) := goodIn_app (goodIn_of _ (by decide +kernel)) ggL_calls_X2_fix
set_option maxRecDepth 20000 in
theorem ggL_calls_X2_replicate : GoodIn wsL_calls wsX2_replicate := goodIn_ca (goodIn_ca (goodIn_r _ [149, 9, 10, 5, 11, 12, 13, 14, 15, 16, 59, 60, 61, 62, 7, 8, 21, 22, 23, 24, 25, 150, 151, 152, 153, 32, 73, 74, 75, 42, 76, 44, 45, 154, 155, 156, 157, 30, 77, 78, 79, 80, 63, 64, 65, 66, 67, 68, 69, 70, 71, 72, 38, 81, 82, 83, 84, 31, 85, 86, 87, 104, 105, 106, 107, 33, 39, 40, 41, 43, 158, 159, 160, 161, 162, 163, 164, 165, 171, 172, 173, 174, 175, 176, 177, 178, 179, 180, 181, 182, 183, 184] (by decide +kernel) (by decide +kernel)) (goodIn_sub (fun _ h => List.mem_cons_of_mem _ (List.mem_append_right _ h)) (by decide +kernel))) (goodIn_sub (fun _ h => List.mem_cons_of_mem _ (List.mem_append_left _ (List.mem_append_right _ h))) (by decide +kernel))
set_option maxRecDepth 20000 in
theorem gL_calls_X2_replicate : GoodIn wsL_calls (wsV RL 36 RX2 yX2_replicate wsX2_replicate) := goodIn_app (goodIn_of _ (by decide +kernel)) ggL_calls_X2_replicate
set_option maxRecDepth 20000 in
theorem ggL_calls_X2_put : GoodIn wsL_calls wsX2_put := goodIn_ca (goodIn_ca (goodIn_r _ [169, 170, 32, 33, 9, 10, 5, 11, 12, 13, 14, 15, 16, 59, 60, 61, 62, 7, 8, 21, 22, 23, 24, 25, 63, 64, 65, 66, 67, 68, 69, 70, 71, 72, 38, 73, 74, 75, 42, 76, 44, 45, 77, 78, 79, 80, 81, 82, 83, 84, 31, 85, 86, 87, 39, 40, 41, 43, 158, 159, 160, 161, 162, 163, 164, 165, 104, 105, 106, 107, 171, 172, 173, 174, 175, 176, 177, 178, 179, 180, 181, 182, 183, 184] (by decide +kernel) (by decide +kernel)) (goodIn_sub (fun _ h => List.mem_cons_of_mem _ (List.mem_append_right _ h)) (by decide +kernel))) (goodIn_sub (fun _ h => List.mem_cons_of_mem _ (List.mem_append_left _ (List.mem_append_right _ h))) (by decide +kernel))
set_option maxRecDepth 20000 in
theorem gL_calls_X2_put : GoodIn wsL_calls (wsV RL 39 RX2 yX2_put wsX2_put) := goodIn_app (goodIn_of _ (by decide +kernel)) ggL_calls_X2_put
set_option maxRecDepth 20000 in
theorem ggL_next_L_lives : GoodIn wsL_next wsL_lives := goodIn_r _ [4] (by decide +kernel) (by decide +kernel)
set_option maxRecDepth 20000 in
theorem gL_next_L_lives : GoodIn wsL_next (va_wsS RL 45 yL_lives wsL_lives) := goodIn_app (goodIn_of _ (by decide +kernel)) ggL_next_L_lives
set_option maxRecDepth 20000 in
theorem ggL_walk_L_next : GoodIn wsL_walk wsL_next := goodIn_r _ [4, 5, 6, 3, 7] (by decide +kernel) (by decide +kernel)
set_option maxRecDepth 20000 in
theorem gL_walk_L_next : GoodIn wsL_walk (va_wsS RL 51 yL_next wsL_next) := goodIn_app (goodIn_of _ (by decide +kernel)) ggL_walk_L_next
set_option maxRecDepth 20000 in
theorem ggL_walk_L_isIn : GoodIn wsL_walk wsL_isIn := goodIn_r _ [10] (by decide +kernel) (by decide +kernel)
set_option maxRecDepth 20000 in
theorem gL_walk_L_isIn : GoodIn wsL_walk (va_wsS RL 55 yL_isIn wsL_isIn) := goodIn_app (goodIn_of _ (by decide +kernel)) ggL_walk_L_isIn
set_option maxRecDepth 20000 in
theorem ggL_walk_L_lives : GoodIn wsL_walk wsL_lives := goodIn_r _ [7] (by decide +kernel) (by decide +kernel)
set_option maxRecDepth 20000 in
theorem gL_walk_L_lives : GoodIn wsL_walk (va_wsS RL 45 yL_lives wsL_lives) := goodIn_app (goodIn_of _ (by decide +kernel)) ggL_walk_L_lives
set_option maxRecDepth 20000 in
theorem ggL_found_L_walk : GoodIn wsL_found wsL_walk := goodIn_r _ [4, 5, 6, 3, 7, 8, 9, 10, 11, 12, 13] (by decide +kernel) (by decide +kernel)
set_option maxRecDepth 20000 in
theorem gL_found_L_walk : GoodIn wsL_found (va_wsS RL 59 yL_walk wsL_walk) := goodIn_app (goodIn_of _ (by decide +kernel)) ggL_found_L_walk
set_option maxRecDepth 20000 in
theorem ggL_spread_L_lives : GoodIn wsL_spread wsL_lives := goodIn_r _ [4] (by decide +kernel) (by decide +kernel)
set_option maxRecDepth 20000 in
theorem gL_spread_L_lives : GoodIn wsL_spread (va_wsS RL 45 yL_lives wsL_lives) := goodIn_app (goodIn_of _ (by decide +kernel)) ggL_spread_L_lives
set_option maxRecDepth 20000 in
theorem ggL_spread_L_give : GoodIn wsL_spread wsL_give := goodIn_r _ [7] (by decide +kernel) (by decide +kernel)
set_option maxRecDepth 20000 in
theorem gL_spread_L_give : GoodIn wsL_spread (va_wsS RL 63 yL_give wsL_give) := goodIn_app (goodIn_of _ (by decide +kernel)) ggL_spread_L_give
set_option maxRecDepth 20000 in
theorem ggL_leaves_L_next : GoodIn wsL_leaves wsL_next := goodIn_r _ [4, 5, 6, 3, 7] (by decide +kernel) (by decide +kernel)
set_option maxRecDepth 20000 in
theorem gL_leaves_L_next : GoodIn wsL_leaves (va_wsS RL 51 yL_next wsL_next) := goodIn_app (goodIn_of _ (by decide +kernel)) ggL_leaves_L_next
set_option maxRecDepth 20000 in
theorem ggL_leaves_L_give : GoodIn wsL_leaves wsL_give := goodIn_r _ [10] (by decide +kernel) (by decide +kernel)
set_option maxRecDepth 20000 in
theorem gL_leaves_L_give : GoodIn wsL_leaves (va_wsS RL 63 yL_give wsL_give) := goodIn_app (goodIn_of _ (by decide +kernel)) ggL_leaves_L_give
set_option maxRecDepth 20000 in
theorem ggL_leaves_L_lives : GoodIn wsL_leaves wsL_lives := goodIn_r _ [7] (by decide +kernel) (by decide +kernel)
set_option maxRecDepth 20000 in
theorem gL_leaves_L_lives : GoodIn wsL_leaves (va_wsS RL 45 yL_lives wsL_lives) := goodIn_app (goodIn_of _ (by decide +kernel)) ggL_leaves_L_lives
set_option maxRecDepth 20000 in
theorem ggL_leaves_L_adopt : GoodIn wsL_leaves wsL_adopt := goodIn_r _ [13] (by decide +kernel) (by decide +kernel)
set_option maxRecDepth 20000 in
theorem gL_leaves_L_adopt : GoodIn wsL_leaves (va_wsS RL 67 yL_adopt wsL_adopt) := goodIn_app (goodIn_of _ (by decide +kernel)) ggL_leaves_L_adopt
set_option maxRecDepth 20000 in
theorem ggL_leaves_L_count : GoodIn wsL_leaves wsL_count := goodIn_r _ [16] (by decide +kernel) (by decide +kernel)
set_option maxRecDepth 20000 in
theorem gL_leaves_L_count : GoodIn wsL_leaves (va_wsS RL 71 yL_count wsL_count) := goodIn_app (goodIn_of _ (by decide +kernel)) ggL_leaves_L_count
set_option maxRecDepth 20000 in
theorem ggL_step_L_lives : GoodIn wsL_step wsL_lives := goodIn_r _ [4] (by decide +kernel) (by decide +kernel)
set_option maxRecDepth 20000 in
theorem gL_step_L_lives : GoodIn wsL_step (va_wsS RL 45 yL_lives wsL_lives) := goodIn_app (goodIn_of _ (by decide +kernel)) ggL_step_L_lives
set_option maxRecDepth 20000 in
theorem ggL_step_L_next : GoodIn wsL_step wsL_next := goodIn_r _ [7, 1, 2, 3, 4] (by decide +kernel) (by decide +kernel)
set_option maxRecDepth 20000 in
theorem gL_step_L_next : GoodIn wsL_step (va_wsS RL 51 yL_next wsL_next) := goodIn_app (goodIn_of _ (by decide +kernel)) ggL_step_L_next
set_option maxRecDepth 20000 in
theorem ggL_step_L_isIn : GoodIn wsL_step wsL_isIn := goodIn_r _ [10] (by decide +kernel) (by decide +kernel)
set_option maxRecDepth 20000 in
theorem gL_step_L_isIn : GoodIn wsL_step (va_wsS RL 55 yL_isIn wsL_isIn) := goodIn_app (goodIn_of _ (by decide +kernel)) ggL_step_L_isIn
set_option maxRecDepth 20000 in
theorem ggL_step_L_adopt : GoodIn wsL_step wsL_adopt := goodIn_r _ [13] (by decide +kernel) (by decide +kernel)
set_option maxRecDepth 20000 in
theorem gL_step_L_adopt : GoodIn wsL_step (va_wsS RL 67 yL_adopt wsL_adopt) := goodIn_app (goodIn_of _ (by decide +kernel)) ggL_step_L_adopt
set_option maxRecDepth 20000 in
theorem ggL_step_L_found : GoodIn wsL_step wsL_found := goodIn_r _ [16, 17, 18, 3, 19, 5, 6, 7, 1, 2, 4, 8, 9, 10] (by decide +kernel) (by decide +kernel)
set_option maxRecDepth 20000 in
theorem gL_step_L_found : GoodIn wsL_step (va_wsS RL 75 yL_found wsL_found) := goodIn_app (goodIn_of _ (by decide +kernel)) ggL_step_L_found
set_option maxRecDepth 20000 in
theorem ggL_step_L_spread : GoodIn wsL_step wsL_spread := goodIn_r _ [22, 1, 2, 3, 4, 23, 24, 25] (by decide +kernel) (by decide +kernel)
