set_option maxRecDepth 20000 in
theorem ggL_law_X2_init : GoodIn wsL_law wsX2_init := goodIn_r _ [9, 10, 11, 12, 13, 14, 15, 16, 17, 18, 19, 20, 21, 22, 23, 24, 25, 26, 27, 28, 29, 30, 31, 32, 33, 34, 35, 36, 37, 38, 39, 40, 41, 42, 43, 44, 45, 46, 599, 600, 601, 602, 603, 604, 605, 606, 607, 608, 609, 610, 624, 625] (by decide +kernel) (by decide +kernel)
set_option maxRecDepth 20000 in
theorem gL_law_X2_init : GoodIn wsL_law (wsX2_init) := ggL_law_X2_init
set_option maxRecDepth 20000 in
theorem ggL_law_X3_init : GoodIn wsL_law wsX3_init := goodIn_r _ [49, 50, 11, 12, 13, 51, 24, 52, 53, 54, 55, 56, 57, 58, 59, 60, 611, 612, 613, 614, 615, 616, 617, 618, 619, 620, 621, 622, 623] (by decide +kernel) (by decide +kernel)
set_option maxRecDepth 20000 in
theorem gL_law_X3_init : GoodIn wsL_law (wsX3_init) := ggL_law_X3_init
set_option maxRecDepth 20000 in
theorem ggL_law_L_create : GoodIn wsL_law wsL_create := goodIn_ca (goodIn_ca (goodIn_r _ [64, 65, 66, 67, 68, 69, 2, 70, 71, 72, 73, 74, 75, 76, 77, 78, 79, 80, 81, 82, 83, 84, 85, 86, 87, 88, 14, 89, 90, 91, 92, 19, 20, 21, 22, 93, 94, 95, 96, 18, 97, 98, 99, 17, 100, 41, 42, 101, 102, 103, 104, 105, 106, 107, 108, 109, 599, 600, 601, 602, 603, 604, 605, 606, 607, 608, 609, 610, 624, 625] (by decide +kernel) (by decide +kernel)) (goodIn_sub (fun _ h => List.mem_append_left _ (List.mem_append_left _ (List.mem_append_right _ h))) (by decide +kernel))) (goodIn_sub (fun _ h => List.mem_append_left _ (List.mem_append_right _ h)) (by decide +kernel))
set_option maxRecDepth 20000 in
theorem gL_law_L_create : GoodIn wsL_law (va_wsS RL 92 yL_create wsL_create) := goodIn_app (goodIn_of _ (by decide +kernel)) ggL_law_L_create
set_option maxRecDepth 20000 in
theorem ggL_law_X3_create : GoodIn wsL_law wsX3_create := goodIn_r _ [113, 114, 115, 116, 5, 117, 118, 119, 120, 121, 122, 123, 124, 125, 51, 126, 127, 128, 129, 52, 53, 54, 56, 611, 612, 613, 614, 615, 616, 617, 618, 619, 620, 621, 622, 623] (by decide +kernel) (by decide +kernel)
set_option maxRecDepth 20000 in
theorem gL_law_X3_create : GoodIn wsL_law (wsV RL 97 RX3 yX3_create wsX3_create) := goodIn_app (goodIn_of _ (by decide +kernel)) ggL_law_X3_create
set_option maxRecDepth 20000 in
theorem ggL_law_X3_thrown : GoodIn wsL_law wsX3_thrown := goodIn_r _ [133, 114, 611, 612, 613, 614, 615, 616, 617, 618, 619, 620, 621, 622, 623] (by decide +kernel) (by decide +kernel)
set_option maxRecDepth 20000 in
theorem gL_law_X3_thrown : GoodIn wsL_law (wsV RL 98 RX3 yX3_thrown wsX3_thrown) := goodIn_app (goodIn_of _ (by decide +kernel)) ggL_law_X3_thrown
set_option maxRecDepth 20000 in
theorem ggL_law_L_join : GoodIn wsL_law wsL_join := goodIn_ca (goodIn_ca (goodIn_r _ [136, 65, 66, 137, 138, 139, 2, 140, 71, 72, 18, 73, 74, 75, 76, 77, 78, 79, 80, 85, 86, 87, 88, 14, 141, 142, 143, 144, 145, 146, 147, 148, 25, 26, 149, 150, 151, 152, 153, 154, 155, 17, 156, 41, 42, 157, 158, 159, 160, 161, 162, 163, 164, 20, 165, 166, 167, 89, 90, 91, 92, 19, 21, 22, 93, 94, 95, 96, 97, 98, 99, 100, 101, 102, 103, 104, 105, 106, 107, 108, 109, 599, 600, 601, 602, 603, 604, 605, 606, 607, 608, 609, 610, 624, 625] (by decide +kernel) (by decide +kernel)) (goodIn_sub (fun _ h => List.mem_append_left _ (List.mem_append_left _ (List.mem_append_right _ h))) (by decide +kernel))) (goodIn_sub (fun _ h => List.mem_append_left _ (List.mem_append_right _ h)) (by decide +kernel))
set_option maxRecDepth 20000 in
theorem gL_law_L_join : GoodIn wsL_law (va_wsS RL 102 yL_join wsL_join) := goodIn_app (goodIn_of _ (by decide +kernel)) ggL_law_L_join
set_option maxRecDepth 20000 in
theorem ggL_law_X3_join : GoodIn wsL_law wsX3_join := goodIn_r _ [171, 114, 51, 52, 115, 116, 5, 117, 118, 119, 120, 121, 172, 173, 174, 175, 176, 57, 177, 178, 179, 180, 181, 182, 183, 184, 185, 186, 187, 188, 189, 190, 54, 191, 192, 193, 126, 127, 128, 129, 53, 56, 611, 612, 613, 614, 615, 616, 617, 618, 619, 620, 621, 622, 623] (by decide +kernel) (by decide +kernel)
set_option maxRecDepth 20000 in
theorem gL_law_X3_join : GoodIn wsL_law (wsV RL 105 RX3 yX3_join wsX3_join) := goodIn_app (goodIn_of _ (by decide +kernel)) ggL_law_X3_join
set_option maxRecDepth 20000 in
theorem ggL_law_L_fail : GoodIn wsL_law wsL_fail := goodIn_ca (goodIn_ca (goodIn_r _ [196, 65, 66, 197, 198, 199, 2, 200, 73, 74, 75, 76, 77, 78, 79, 80, 141, 142, 143, 144, 71, 72, 85, 86, 87, 88, 14, 201, 202, 203, 204, 106, 107, 108, 109, 81, 82, 83, 84, 599, 600, 601, 602, 603, 604, 605, 606, 607, 608, 609, 610] (by decide +kernel) (by decide +kernel)) (goodIn_sub (fun _ h => List.mem_append_left _ (List.mem_append_right _ h)) (by decide +kernel))) (goodIn_sub (fun _ h => List.mem_append_left _ (List.mem_append_left _ (List.mem_append_right _ h))) (by decide +kernel))
set_option maxRecDepth 20000 in
theorem gL_law_L_fail : GoodIn wsL_law (va_wsS RL 106 yL_fail wsL_fail) := goodIn_app (goodIn_of _ (by decide +kernel)) ggL_law_L_fail
set_option maxRecDepth 20000 in
theorem ggL_law_X3_fail : GoodIn wsL_law wsX3_fail := goodIn_r _ [208, 114, 51, 209, 210, 211, 5, 212, 115, 116, 117, 122, 123, 124, 125, 611, 612, 613, 614, 615, 616, 617, 618, 619, 620, 621, 622, 623] (by decide +kernel) (by decide +kernel)
set_option maxRecDepth 20000 in
theorem gL_law_X3_fail : GoodIn wsL_law (wsV RL 108 RX3 yX3_fail wsX3_fail) := goodIn_app (goodIn_of _ (by decide +kernel)) ggL_law_X3_fail
set_option maxRecDepth 20000 in
theorem ggL_law_L_leave : GoodIn wsL_law wsL_leave := goodIn_ca (goodIn_ca (goodIn_r _ [215, 65, 66, 216, 217, 218, 2, 219, 73, 74, 75, 76, 77, 78, 79, 80, 141, 142, 143, 144, 71, 72, 85, 86, 87, 88, 14, 149, 150, 151, 152, 18, 153, 154, 155, 17, 156, 41, 42, 220, 221, 222, 223, 19, 224, 225, 226, 227, 22, 21, 97, 98, 99, 100, 228, 229, 230, 231, 93, 94, 95, 96, 201, 202, 203, 204, 106, 107, 108, 109, 81, 82, 83, 84, 599, 600, 601, 602, 603, 604, 605, 606, 607, 608, 609, 610, 624, 625] (by decide +kernel) (by decide +kernel)) (goodIn_sub (fun _ h => List.mem_append_left _ (List.mem_append_right _ h)) (by decide +kernel))) (goodIn_sub (fun _ h => List.mem_append_left _ (List.mem_append_left _ (List.mem_append_right _ h))) (by decide +kernel))
set_option maxRecDepth 20000 in
theorem gL_law_L_leave : GoodIn wsL_law (va_wsS RL 109 yL_leave wsL_leave) := goodIn_app (goodIn_of _ (by decide +kernel)) ggL_law_L_leave
set_option maxRecDepth 20000 in
theorem ggL_law_X3_leave : GoodIn wsL_law wsX3_leave := goodIn_r _ [235, 114, 53, 51, 209, 210, 211, 5, 212, 115, 116, 117, 177, 178, 179, 180, 52, 236, 237, 238, 239, 56, 55, 240, 241, 242, 243, 122, 123, 124, 125, 611, 612, 613, 614, 615, 616, 617, 618, 619, 620, 621, 622, 623] (by decide +kernel) (by decide +kernel)
set_option maxRecDepth 20000 in
theorem gL_law_X3_leave : GoodIn wsL_law (wsV RL 111 RX3 yX3_leave wsX3_leave) := goodIn_app (goodIn_of _ (by decide +kernel)) ggL_law_X3_leave
set_option maxRecDepth 20000 in
theorem ggL_law_X2_living : GoodIn wsL_law wsX2_living := goodIn_r _ [247, 81, 82, 83, 2, 84, 85, 86, 87, 88, 14, 599, 600, 601, 602, 603, 604, 605, 606, 607, 608, 609, 610] (by decide +kernel) (by decide +kernel)
set_option maxRecDepth 20000 in
theorem gL_law_X2_living : GoodIn wsL_law (wsV RL 112 RX2 yX2_living wsX2_living) := goodIn_app (goodIn_of _ (by decide +kernel)) ggL_law_X2_living
set_option maxRecDepth 20000 in
theorem ggL_law_X3_living : GoodIn wsL_law wsX3_living := goodIn_r _ [251, 114, 122, 123, 124, 5, 125, 51, 611, 612, 613, 614, 615, 616, 617, 618, 619, 620, 621, 622, 623] (by decide +kernel) (by decide +kernel)
set_option maxRecDepth 20000 in
theorem gL_law_X3_living : GoodIn wsL_law (wsV RL 115 RX3 yX3_living wsX3_living) := goodIn_app (goodIn_of _ (by decide +kernel)) ggL_law_X3_living
set_option maxRecDepth 20000 in
theorem ggL_law_L_isLiving : GoodIn wsL_law wsL_isLiving := goodIn_ca (goodIn_r _ [254, 65, 255, 256, 257, 2, 258, 73, 74, 75, 76, 77, 78, 79, 80, 85, 86, 87, 88, 14, 599, 600, 601, 602, 603, 604, 605, 606, 607, 608, 609, 610] (by decide +kernel) (by decide +kernel)) (goodIn_sub (fun _ h => List.mem_append_left _ (List.mem_append_right _ h)) (by decide +kernel))
set_option maxRecDepth 20000 in
theorem gL_law_L_isLiving : GoodIn wsL_law (va_wsS RL 116 yL_isLiving wsL_isLiving) := goodIn_app (goodIn_of _ (by decide +kernel)) ggL_law_L_isLiving
