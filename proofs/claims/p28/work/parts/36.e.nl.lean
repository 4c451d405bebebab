set_option maxRecDepth 20000 in
theorem gL_step_L_spread : GoodIn wsL_step (va_wsS RL 78 yL_spread wsL_spread) := goodIn_app (goodIn_of _ (by decide +kernel)) ggL_step_L_spread
set_option maxRecDepth 20000 in
theorem ggL_step_L_give : GoodIn wsL_step wsL_give := goodIn_r _ [25] (by decide +kernel) (by decide +kernel)
set_option maxRecDepth 20000 in
theorem gL_step_L_give : GoodIn wsL_step (va_wsS RL 63 yL_give wsL_give) := goodIn_app (goodIn_of _ (by decide +kernel)) ggL_step_L_give
set_option maxRecDepth 20000 in
theorem ggL_owner_L_lives : GoodIn wsL_owner wsL_lives := goodIn_r _ [4] (by decide +kernel) (by decide +kernel)
set_option maxRecDepth 20000 in
theorem gL_owner_L_lives : GoodIn wsL_owner (va_wsS RL 45 yL_lives wsL_lives) := goodIn_app (goodIn_of _ (by decide +kernel)) ggL_owner_L_lives
set_option maxRecDepth 20000 in
theorem ggL_wrong_L_lives : GoodIn wsL_wrong wsL_lives := goodIn_r _ [4] (by decide +kernel) (by decide +kernel)
set_option maxRecDepth 20000 in
theorem gL_wrong_L_lives : GoodIn wsL_wrong (va_wsS RL 45 yL_lives wsL_lives) := goodIn_app (goodIn_of _ (by decide +kernel)) ggL_wrong_L_lives
set_option maxRecDepth 20000 in
theorem ggL_wrong_L_next : GoodIn wsL_wrong wsL_next := goodIn_r _ [7, 1, 2, 3, 4] (by decide +kernel) (by decide +kernel)
set_option maxRecDepth 20000 in
theorem gL_wrong_L_next : GoodIn wsL_wrong (va_wsS RL 51 yL_next wsL_next) := goodIn_app (goodIn_of _ (by decide +kernel)) ggL_wrong_L_next
set_option maxRecDepth 20000 in
theorem ggL_wrong_L_owner : GoodIn wsL_wrong wsL_owner := goodIn_r _ [10, 1, 2, 3, 4] (by decide +kernel) (by decide +kernel)
set_option maxRecDepth 20000 in
theorem gL_wrong_L_owner : GoodIn wsL_wrong (va_wsS RL 81 yL_owner wsL_owner) := goodIn_app (goodIn_of _ (by decide +kernel)) ggL_wrong_L_owner
set_option maxRecDepth 20000 in
theorem ggL_isSo_X2_living : GoodIn wsL_isSo wsX2_living := goodIn_r _ [5, 6, 7, 8, 4, 9, 10, 11, 12, 13, 14, 120, 121, 122, 123, 124, 125, 126, 127, 128, 129, 130, 131] (by decide +kernel) (by decide +kernel)
set_option maxRecDepth 20000 in
theorem gL_isSo_X2_living : GoodIn wsL_isSo (wsV RL 85 RX2 yX2_living wsX2_living) := goodIn_app (goodIn_of _ (by decide +kernel)) ggL_isSo_X2_living
set_option maxRecDepth 20000 in
theorem ggL_isSo_L_count : GoodIn wsL_isSo wsL_count := goodIn_r _ [18] (by decide +kernel) (by decide +kernel)
set_option maxRecDepth 20000 in
theorem gL_isSo_L_count : GoodIn wsL_isSo (va_wsS RL 71 yL_count wsL_count) := goodIn_app (goodIn_of _ (by decide +kernel)) ggL_isSo_L_count
set_option maxRecDepth 20000 in
theorem ggL_isSo_X2_wrongPointers : GoodIn wsL_isSo wsX2_wrongPointers := goodIn_r _ [22, 23, 24, 25, 4, 26, 10, 11, 12, 13, 14, 27, 28, 29, 30, 31, 32, 33, 34, 35, 36, 37, 38, 39, 40, 41, 42, 43, 44, 45, 46, 47, 48, 49, 50, 51, 52, 53, 54, 55, 56, 57, 58, 59, 60, 120, 121, 122, 123, 124, 125, 126, 127, 128, 129, 130, 131, 132, 133] (by decide +kernel) (by decide +kernel)
set_option maxRecDepth 20000 in
theorem gL_isSo_X2_wrongPointers : GoodIn wsL_isSo (wsV RL 89 RX2 yX2_wrongPointers wsX2_wrongPointers) := goodIn_app (goodIn_of _ (by decide +kernel)) ggL_isSo_X2_wrongPointers
set_option maxRecDepth 20000 in
theorem ggL_isSo_L_wrong : GoodIn wsL_isSo wsL_wrong := goodIn_r _ [63, 64, 65, 17, 66, 67, 68, 69, 70, 71, 72] (by decide +kernel) (by decide +kernel)
set_option maxRecDepth 20000 in
theorem gL_isSo_L_wrong : GoodIn wsL_isSo (va_wsS RL 92 yL_wrong wsL_wrong) := goodIn_app (goodIn_of _ (by decide +kernel)) ggL_isSo_L_wrong
set_option maxRecDepth 20000 in
theorem ggL_isSo_X2_isLiving : GoodIn wsL_isSo wsX2_isLiving := goodIn_ca (goodIn_r _ [76, 77, 78, 4, 79, 80, 81, 82, 83, 84, 10, 11, 12, 13, 14, 120, 121, 122, 123, 124, 125, 126, 127, 128, 129, 130, 131] (by decide +kernel) (by decide +kernel)) (goodIn_sub (fun _ h => List.mem_cons_of_mem _ (List.mem_append_left _ (List.mem_append_right _ h))) (by decide +kernel))
set_option maxRecDepth 20000 in
theorem gL_isSo_X2_isLiving : GoodIn wsL_isSo (wsV RL 96 RX2 yX2_isLiving wsX2_isLiving) := goodIn_app (goodIn_of _ (by decide +kernel)) ggL_isSo_X2_isLiving
set_option maxRecDepth 20000 in
theorem ggL_isSo_X2_finger : GoodIn wsL_isSo wsX2_finger := goodIn_ca (goodIn_ca (goodIn_r _ [88, 32, 77, 78, 4, 79, 80, 81, 82, 83, 84, 89, 90, 91, 92, 93, 94, 10, 11, 12, 13, 14, 38, 39, 40, 41, 42, 43, 44, 120, 121, 122, 123, 124, 125, 126, 127, 128, 129, 130, 131, 132, 133] (by decide +kernel) (by decide +kernel)) (goodIn_sub (fun _ h => List.mem_cons_of_mem _ (List.mem_append_left _ (List.mem_append_right _ h))) (by decide +kernel))) (goodIn_sub (fun _ h => List.mem_cons_of_mem _ (List.mem_append_right _ h)) (by decide +kernel))
set_option maxRecDepth 20000 in
theorem gL_isSo_X2_finger : GoodIn wsL_isSo (wsV RL 99 RX2 yX2_finger wsX2_finger) := goodIn_app (goodIn_of _ (by decide +kernel)) ggL_isSo_X2_finger
set_option maxRecDepth 20000 in
theorem ggL_isSo_X2_kept : GoodIn wsL_isSo wsX2_kept := goodIn_ca (goodIn_ca (goodIn_r _ [98, 99, 77, 78, 4, 79, 80, 81, 82, 83, 84, 89, 90, 91, 92, 93, 94, 10, 11, 12, 13, 14, 38, 39, 40, 41, 42, 43, 44, 120, 121, 122, 123, 124, 125, 126, 127, 128, 129, 130, 131, 132, 133] (by decide +kernel) (by decide +kernel)) (goodIn_sub (fun _ h => List.mem_cons_of_mem _ (List.mem_append_left _ (List.mem_append_right _ h))) (by decide +kernel))) (goodIn_sub (fun _ h => List.mem_cons_of_mem _ (List.mem_append_right _ h)) (by decide +kernel))
set_option maxRecDepth 20000 in
theorem gL_isSo_X2_kept : GoodIn wsL_isSo (wsV RL 102 RX2 yX2_kept wsX2_kept) := goodIn_app (goodIn_of _ (by decide +kernel)) ggL_isSo_X2_kept
set_option maxRecDepth 20000 in
theorem ggL_isSo_X2_successor : GoodIn wsL_isSo wsX2_successor := goodIn_ca (goodIn_ca (goodIn_r _ [103, 37, 77, 78, 4, 79, 80, 81, 82, 83, 84, 89, 90, 91, 92, 93, 94, 10, 11, 12, 13, 14, 38, 39, 40, 41, 42, 43, 44, 120, 121, 122, 123, 124, 125, 126, 127, 128, 129, 130, 131, 132, 133] (by decide +kernel) (by decide +kernel)) (goodIn_sub (fun _ h => List.mem_cons_of_mem _ (List.mem_append_left _ (List.mem_append_right _ h))) (by decide +kernel))) (goodIn_sub (fun _ h => List.mem_cons_of_mem _ (List.mem_append_right _ h)) (by decide +kernel))
set_option maxRecDepth 20000 in
theorem gL_isSo_X2_successor : GoodIn wsL_isSo (wsV RL 105 RX2 yX2_successor wsX2_successor) := goodIn_app (goodIn_of _ (by decide +kernel)) ggL_isSo_X2_successor
set_option maxRecDepth 20000 in
theorem ggL_isSo_X2_predecessor : GoodIn wsL_isSo wsX2_predecessor := goodIn_ca (goodIn_ca (goodIn_r _ [107, 31, 77, 78, 4, 79, 80, 81, 82, 83, 84, 89, 90, 91, 92, 93, 94, 10, 11, 12, 13, 14, 38, 39, 40, 41, 42, 43, 44, 120, 121, 122, 123, 124, 125, 126, 127, 128, 129, 130, 131, 132, 133] (by decide +kernel) (by decide +kernel)) (goodIn_sub (fun _ h => List.mem_cons_of_mem _ (List.mem_append_left _ (List.mem_append_right _ h))) (by decide +kernel))) (goodIn_sub (fun _ h => List.mem_cons_of_mem _ (List.mem_append_right _ h)) (by decide +kernel))
set_option maxRecDepth 20000 in
theorem gL_isSo_X2_predecessor : GoodIn wsL_isSo (wsV RL 108 RX2 yX2_predecessor wsX2_predecessor) := goodIn_app (goodIn_of _ (by decide +kernel)) ggL_isSo_X2_predecessor
set_option maxRecDepth 20000 in
theorem ggL_isSo_X2_liveSuccessor : GoodIn wsL_isSo wsX2_liveSuccessor := goodIn_ca (goodIn_ca (goodIn_r _ [111, 77, 78, 4, 79, 80, 81, 82, 83, 84, 89, 90, 91, 92, 93, 94, 10, 11, 12, 13, 14, 33, 34, 35, 36, 37, 38, 39, 40, 41, 42, 43, 44, 120, 121, 122, 123, 124, 125, 126, 127, 128, 129, 130, 131, 132, 133] (by decide +kernel) (by decide +kernel)) (goodIn_sub (fun _ h => List.mem_cons_of_mem _ (List.mem_append_left _ (List.mem_append_right _ h))) (by decide +kernel))) (goodIn_sub (fun _ h => List.mem_cons_of_mem _ (List.mem_append_right _ h)) (by decide +kernel))
set_option maxRecDepth 20000 in
theorem gL_isSo_X2_liveSuccessor : GoodIn wsL_isSo (wsV RL 111 RX2 yX2_liveSuccessor wsX2_liveSuccessor) := goodIn_app (goodIn_of _ (by decide +kernel)) ggL_isSo_X2_liveSuccessor
set_option maxRecDepth 20000 in
theorem ggL_isSo_L_next : GoodIn wsL_isSo wsL_next := goodIn_r _ [69, 64, 65, 17, 66] (by decide +kernel) (by decide +kernel)
set_option maxRecDepth 20000 in
theorem gL_isSo_L_next : GoodIn wsL_isSo (va_wsS RL 51 yL_next wsL_next) := goodIn_app (goodIn_of _ (by decide +kernel)) ggL_isSo_L_next
set_option maxRecDepth 20000 in
theorem ggL_isSo_X2_keepers : GoodIn wsL_isSo wsX2_keepers := goodIn_ca (goodIn_r _ [115, 99, 77, 78, 4, 79, 80, 81, 82, 83, 84, 10, 11, 12, 13, 14, 38, 39, 40, 41, 42, 43, 44, 120, 121, 122, 123, 124, 125, 126, 127, 128, 129, 130, 131, 132, 133] (by decide +kernel) (by decide +kernel)) (goodIn_sub (fun _ h => List.mem_cons_of_mem _ (List.mem_append_left _ (List.mem_append_right _ h))) (by decide +kernel))
set_option maxRecDepth 20000 in
theorem gL_isSo_X2_keepers : GoodIn wsL_isSo (wsV RL 114 RX2 yX2_keepers wsX2_keepers) := goodIn_app (goodIn_of _ (by decide +kernel)) ggL_isSo_X2_keepers
set_option maxRecDepth 20000 in
theorem ggL_isSo_X2_owner : GoodIn wsL_isSo wsX2_owner := goodIn_ca (goodIn_r _ [119, 77, 78, 4, 79, 80, 81, 82, 83, 84, 49, 50, 51, 52, 45, 46, 47, 48, 10, 11, 12, 13, 14, 120, 121, 122, 123, 124, 125, 126, 127, 128, 129, 130, 131] (by decide +kernel) (by decide +kernel)) (goodIn_sub (fun _ h => List.mem_cons_of_mem _ (List.mem_append_left _ (List.mem_append_right _ h))) (by decide +kernel))
set_option maxRecDepth 20000 in
theorem gL_isSo_X2_owner : GoodIn wsL_isSo (wsV RL 117 RX2 yX2_owner wsX2_owner) := goodIn_app (goodIn_of _ (by decide +kernel)) ggL_isSo_X2_owner
set_option maxRecDepth 20000 in
theorem ggL_isSo_L_owner : GoodIn wsL_isSo wsL_owner := goodIn_r _ [72, 64, 65, 17, 66] (by decide +kernel) (by decide +kernel)
set_option maxRecDepth 20000 in
theorem gL_isSo_L_owner : GoodIn wsL_isSo (va_wsS RL 81 yL_owner wsL_owner) := goodIn_app (goodIn_of _ (by decide +kernel)) ggL_isSo_L_owner
set_option maxRecDepth 20000 in
theorem ggL_looks_L_walk : GoodIn wsL_looks wsL_walk := goodIn_r _ [4, 5, 6, 3, 7, 8, 9, 10, 11, 12, 13] (by decide +kernel) (by decide +kernel)
set_option maxRecDepth 20000 in
theorem gL_looks_L_walk : GoodIn wsL_looks (va_wsS RL 59 yL_walk wsL_walk) := goodIn_app (goodIn_of _ (by decide +kernel)) ggL_looks_L_walk
set_option maxRecDepth 20000 in
theorem ggL_looks_X2_lookup : GoodIn wsL_looks wsX2_lookup := goodIn_ca (goodIn_ca (goodIn_r _ [18, 19, 20, 17, 21, 22, 23, 24, 25, 26, 27, 28, 29, 30, 31, 32, 33, 34, 35, 36, 37, 38, 39, 40, 41, 42, 43, 44, 45, 46, 47, 48, 49, 50, 51, 52, 53, 54, 55, 56, 57, 58, 59, 60, 61, 62, 63, 64, 65, 66, 67, 83, 84, 85, 86, 87, 88, 89, 90, 91, 92, 93, 94, 95, 96] (by decide +kernel) (by decide +kernel)) (goodIn_sub (fun _ h => List.mem_cons_of_mem _ (List.mem_append_left _ (List.mem_append_left _ (List.mem_append_right _ h)))) (by decide +kernel))) (goodIn_sub (fun _ h => List.mem_cons_of_mem _ (List.mem_append_left _ (List.mem_append_right _ h))) (by decide +kernel))
set_option maxRecDepth 20000 in
theorem gL_looks_X2_lookup : GoodIn wsL_looks (wsV RL 119 RX2 yX2_lookup wsX2_lookup) := goodIn_app (goodIn_of _ (by decide +kernel)) ggL_looks_X2_lookup
set_option maxRecDepth 20000 in
theorem ggL_looks_X2_hops : GoodIn wsL_looks wsX2_hops := goodIn_ca (goodIn_ca (goodIn_r _ [71, 43, 19, 20, 17, 21, 22, 23, 24, 25, 26, 27, 28, 29, 30, 31, 32, 33, 34, 35, 36, 37, 38, 39, 40, 41, 42, 44, 45, 46, 47, 48, 49, 50, 51, 52, 53, 54, 55, 56, 57, 58, 59, 60, 61, 62, 63, 64, 65, 66, 67, 83, 84, 85, 86, 87, 88, 89, 90, 91, 92, 93, 94, 95, 96] (by decide +kernel) (by decide +kernel)) (goodIn_sub (fun _ h => List.mem_cons_of_mem _ (List.mem_append_left _ (List.mem_append_left _ (List.mem_append_right _ h)))) (by decide +kernel))) (goodIn_sub (fun _ h => List.mem_cons_of_mem _ (List.mem_append_left _ (List.mem_append_right _ h))) (by decide +kernel))
set_option maxRecDepth 20000 in
theorem gL_looks_X2_hops : GoodIn wsL_looks (wsV RL 122 RX2 yX2_hops wsX2_hops) := goodIn_app (goodIn_of _ (by decide +kernel)) ggL_looks_X2_hops
set_option maxRecDepth 20000 in
theorem ggL_looks_X2_get : GoodIn wsL_looks wsX2_get := goodIn_ca (goodIn_ca (goodIn_r _ [75, 76, 19, 20, 17, 21, 22, 23, 24, 25, 26, 27, 28, 29, 30, 31, 32, 33, 34, 35, 36, 37, 38, 39, 40, 41, 42, 43, 44, 45, 46, 47, 48, 49, 50, 51, 52, 53, 54, 55, 56, 57, 58, 59, 60, 61, 62, 63, 64, 65, 66, 67, 83, 84, 85, 86, 87, 88, 89, 90, 91, 92, 93, 94, 95, 96] (by decide +kernel) (by decide +kernel)) (goodIn_sub (fun _ h => List.mem_cons_of_mem _ (List.mem_append_left _ (List.mem_append_left _ (List.mem_append_right _ h)))) (by decide +kernel))) (goodIn_sub (fun _ h => List.mem_cons_of_mem _ (List.mem_append_left _ (List.mem_append_right _ h))) (by decide +kernel))
set_option maxRecDepth 20000 in
theorem gL_looks_X2_get : GoodIn wsL_looks (wsV RL 125 RX2 yX2_get wsX2_get) := goodIn_app (goodIn_of _ (by decide +kernel)) ggL_looks_X2_get
set_option maxRecDepth 20000 in
theorem ggL_looks_X2_hopAt : GoodIn wsL_looks wsX2_hopAt := goodIn_ca (goodIn_ca (goodIn_ca (goodIn_r _ [80, 81, 82, 43, 42, 19, 20, 17, 21, 22, 23, 24, 25, 26, 27, 28, 29, 30, 31, 32, 33, 34, 35, 36, 37, 38, 39, 40, 41, 44, 45, 46, 47, 48, 49, 50, 51, 52, 53, 54, 55, 56, 57, 58, 59, 60, 61, 62, 63, 64, 65, 66, 67, 83, 84, 85, 86, 87, 88, 89, 90, 91, 92, 93, 94, 95, 96] (by decide +kernel) (by decide +kernel)) (goodIn_sub (fun _ h => List.mem_cons_of_mem _ (List.mem_append_right _ h)) (by decide +kernel))) (goodIn_sub (fun _ h => List.mem_cons_of_mem _ (List.mem_append_left _ (List.mem_append_left _ (List.mem_append_right _ h)))) (by decide +kernel))) (goodIn_sub (fun _ h => List.mem_cons_of_mem _ (List.mem_append_left _ (List.mem_append_right _ h))) (by decide +kernel))
set_option maxRecDepth 20000 in
theorem gL_looks_X2_hopAt : GoodIn wsL_looks (wsV RL 128 RX2 yX2_hopAt wsX2_hopAt) := goodIn_app (goodIn_of _ (by decide +kernel)) ggL_looks_X2_hopAt
set_option maxRecDepth 20000 in
theorem ggL_looks_L_next : GoodIn wsL_looks wsL_next := goodIn_r _ [7, 8, 9, 3, 10] (by decide +kernel) (by decide +kernel)
set_option maxRecDepth 20000 in
theorem gL_looks_L_next : GoodIn wsL_looks (va_wsS RL 51 yL_next wsL_next) := goodIn_app (goodIn_of _ (by decide +kernel)) ggL_looks_L_next
