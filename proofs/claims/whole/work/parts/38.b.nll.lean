set_option maxRecDepth 20000 in
theorem ggL_law_X3_isLiving : GoodIn wsL_law wsX3_isLiving := goodIn_r _ [262, 114, 51, 115, 116, 5, 117, 611, 612, 613, 614, 615, 616, 617, 618, 619, 620, 621, 622, 623] (by decide +kernel) (by decide +kernel)
set_option maxRecDepth 20000 in
theorem gL_law_X3_isLiving : GoodIn wsL_law (wsV RL 118 RX3 yX3_isLiving wsX3_isLiving) := goodIn_app (goodIn_of _ (by decide +kernel)) ggL_law_X3_isLiving
set_option maxRecDepth 20000 in
theorem ggL_law_L_successor : GoodIn wsL_law wsL_successor := goodIn_ca (goodIn_ca (goodIn_r _ [265, 65, 66, 266, 267, 268, 2, 269, 18, 73, 74, 75, 76, 77, 78, 79, 80, 141, 142, 143, 144, 71, 72, 85, 86, 87, 88, 14, 153, 154, 155, 17, 156, 41, 42, 599, 600, 601, 602, 603, 604, 605, 606, 607, 608, 609, 610, 624, 625] (by decide +kernel) (by decide +kernel)) (goodIn_sub (fun _ h => List.mem_append_left _ (List.mem_append_right _ h)) (by decide +kernel))) (goodIn_sub (fun _ h => List.mem_append_left _ (List.mem_append_left _ (List.mem_append_right _ h))) (by decide +kernel))
set_option maxRecDepth 20000 in
theorem gL_law_L_successor : GoodIn wsL_law (va_wsS RL 119 yL_successor wsL_successor) := goodIn_app (goodIn_of _ (by decide +kernel)) ggL_law_L_successor
set_option maxRecDepth 20000 in
theorem ggL_law_X3_successor : GoodIn wsL_law wsX3_successor := goodIn_r _ [273, 114, 52, 115, 116, 5, 117, 209, 210, 211, 212, 51, 611, 612, 613, 614, 615, 616, 617, 618, 619, 620, 621, 622, 623] (by decide +kernel) (by decide +kernel)
set_option maxRecDepth 20000 in
theorem gL_law_X3_successor : GoodIn wsL_law (wsV RL 121 RX3 yX3_successor wsX3_successor) := goodIn_app (goodIn_of _ (by decide +kernel)) ggL_law_X3_successor
set_option maxRecDepth 20000 in
theorem ggL_law_L_liveSuccessor : GoodIn wsL_law wsL_liveSuccessor := goodIn_ca (goodIn_ca (goodIn_r _ [276, 65, 66, 277, 278, 279, 2, 280, 73, 74, 75, 76, 77, 78, 79, 80, 141, 142, 143, 144, 71, 72, 85, 86, 87, 88, 14, 149, 150, 151, 152, 18, 153, 154, 155, 17, 156, 41, 42, 599, 600, 601, 602, 603, 604, 605, 606, 607, 608, 609, 610, 624, 625] (by decide +kernel) (by decide +kernel)) (goodIn_sub (fun _ h => List.mem_append_left _ (List.mem_append_right _ h)) (by decide +kernel))) (goodIn_sub (fun _ h => List.mem_append_left _ (List.mem_append_left _ (List.mem_append_right _ h))) (by decide +kernel))
set_option maxRecDepth 20000 in
theorem gL_law_L_liveSuccessor : GoodIn wsL_law (va_wsS RL 122 yL_liveSuccessor wsL_liveSuccessor) := goodIn_app (goodIn_of _ (by decide +kernel)) ggL_law_L_liveSuccessor
set_option maxRecDepth 20000 in
theorem ggL_law_X3_liveSuccessor : GoodIn wsL_law wsX3_liveSuccessor := goodIn_r _ [284, 114, 209, 210, 211, 5, 212, 51, 115, 116, 117, 177, 178, 179, 180, 52, 611, 612, 613, 614, 615, 616, 617, 618, 619, 620, 621, 622, 623] (by decide +kernel) (by decide +kernel)
set_option maxRecDepth 20000 in
theorem gL_law_X3_liveSuccessor : GoodIn wsL_law (wsV RL 124 RX3 yX3_liveSuccessor wsX3_liveSuccessor) := goodIn_app (goodIn_of _ (by decide +kernel)) ggL_law_X3_liveSuccessor
set_option maxRecDepth 20000 in
theorem ggL_law_L_predecessor : GoodIn wsL_law wsL_predecessor := goodIn_ca (goodIn_ca (goodIn_r _ [287, 65, 66, 288, 289, 290, 2, 291, 19, 73, 74, 75, 76, 77, 78, 79, 80, 141, 142, 143, 144, 71, 72, 85, 86, 87, 88, 14, 153, 154, 155, 17, 156, 41, 42, 599, 600, 601, 602, 603, 604, 605, 606, 607, 608, 609, 610, 624, 625] (by decide +kernel) (by decide +kernel)) (goodIn_sub (fun _ h => List.mem_append_left _ (List.mem_append_right _ h)) (by decide +kernel))) (goodIn_sub (fun _ h => List.mem_append_left _ (List.mem_append_left _ (List.mem_append_right _ h))) (by decide +kernel))
set_option maxRecDepth 20000 in
theorem gL_law_L_predecessor : GoodIn wsL_law (va_wsS RL 125 yL_predecessor wsL_predecessor) := goodIn_app (goodIn_of _ (by decide +kernel)) ggL_law_L_predecessor
set_option maxRecDepth 20000 in
theorem ggL_law_X3_predecessor : GoodIn wsL_law wsX3_predecessor := goodIn_r _ [295, 114, 53, 209, 210, 211, 5, 212, 51, 115, 116, 117, 611, 612, 613, 614, 615, 616, 617, 618, 619, 620, 621, 622, 623] (by decide +kernel) (by decide +kernel)
set_option maxRecDepth 20000 in
theorem gL_law_X3_predecessor : GoodIn wsL_law (wsV RL 127 RX3 yX3_predecessor wsX3_predecessor) := goodIn_app (goodIn_of _ (by decide +kernel)) ggL_law_X3_predecessor
set_option maxRecDepth 20000 in
theorem ggL_law_L_finger : GoodIn wsL_law wsL_finger := goodIn_ca (goodIn_ca (goodIn_r _ [298, 65, 66, 299, 300, 301, 2, 302, 20, 73, 74, 75, 76, 77, 78, 79, 80, 141, 142, 143, 144, 71, 72, 85, 86, 87, 88, 14, 153, 154, 155, 17, 156, 41, 42, 599, 600, 601, 602, 603, 604, 605, 606, 607, 608, 609, 610, 624, 625] (by decide +kernel) (by decide +kernel)) (goodIn_sub (fun _ h => List.mem_append_left _ (List.mem_append_right _ h)) (by decide +kernel))) (goodIn_sub (fun _ h => List.mem_append_left _ (List.mem_append_left _ (List.mem_append_right _ h))) (by decide +kernel))
set_option maxRecDepth 20000 in
theorem gL_law_L_finger : GoodIn wsL_law (va_wsS RL 128 yL_finger wsL_finger) := goodIn_app (goodIn_of _ (by decide +kernel)) ggL_law_L_finger
set_option maxRecDepth 20000 in
theorem ggL_law_X3_finger : GoodIn wsL_law wsX3_finger := goodIn_r _ [306, 114, 54, 115, 116, 5, 117, 209, 210, 211, 212, 51, 611, 612, 613, 614, 615, 616, 617, 618, 619, 620, 621, 622, 623] (by decide +kernel) (by decide +kernel)
set_option maxRecDepth 20000 in
theorem gL_law_X3_finger : GoodIn wsL_law (wsV RL 130 RX3 yX3_finger wsX3_finger) := goodIn_app (goodIn_of _ (by decide +kernel)) ggL_law_X3_finger
set_option maxRecDepth 20000 in
theorem ggL_law_L_check : GoodIn wsL_law wsL_check := goodIn_ca (goodIn_ca (goodIn_r _ [309, 65, 66, 310, 311, 312, 2, 313, 19, 73, 74, 75, 76, 77, 78, 79, 80, 141, 142, 143, 144, 71, 72, 85, 86, 87, 88, 14, 314, 315, 316, 317, 153, 154, 155, 17, 156, 41, 42, 97, 98, 99, 100, 599, 600, 601, 602, 603, 604, 605, 606, 607, 608, 609, 610, 624, 625] (by decide +kernel) (by decide +kernel)) (goodIn_sub (fun _ h => List.mem_append_left _ (List.mem_append_right _ h)) (by decide +kernel))) (goodIn_sub (fun _ h => List.mem_append_left _ (List.mem_append_left _ (List.mem_append_right _ h))) (by decide +kernel))
set_option maxRecDepth 20000 in
theorem gL_law_L_check : GoodIn wsL_law (va_wsS RL 131 yL_check wsL_check) := goodIn_app (goodIn_of _ (by decide +kernel)) ggL_law_L_check
set_option maxRecDepth 20000 in
theorem ggL_law_X3_check : GoodIn wsL_law wsX3_check := goodIn_r _ [321, 114, 53, 209, 210, 211, 5, 212, 51, 115, 116, 117, 322, 323, 324, 325, 611, 612, 613, 614, 615, 616, 617, 618, 619, 620, 621, 622, 623] (by decide +kernel) (by decide +kernel)
set_option maxRecDepth 20000 in
theorem gL_law_X3_check : GoodIn wsL_law (wsV RL 133 RX3 yX3_check wsX3_check) := goodIn_app (goodIn_of _ (by decide +kernel)) ggL_law_X3_check
set_option maxRecDepth 20000 in
theorem ggL_law_L_stabilize : GoodIn wsL_law wsL_stabilize := goodIn_ca (goodIn_ca (goodIn_r _ [328, 65, 66, 329, 330, 331, 2, 332, 18, 73, 74, 75, 76, 77, 78, 79, 80, 141, 142, 143, 144, 71, 72, 85, 86, 87, 88, 14, 333, 334, 335, 336, 19, 149, 150, 151, 152, 153, 154, 155, 17, 156, 41, 42, 165, 166, 159, 167, 228, 229, 230, 231, 93, 94, 95, 96, 97, 98, 99, 100, 337, 338, 339, 340, 599, 600, 601, 602, 603, 604, 605, 606, 607, 608, 609, 610, 624, 625] (by decide +kernel) (by decide +kernel)) (goodIn_sub (fun _ h => List.mem_append_left _ (List.mem_append_right _ h)) (by decide +kernel))) (goodIn_sub (fun _ h => List.mem_append_left _ (List.mem_append_left _ (List.mem_append_right _ h))) (by decide +kernel))
set_option maxRecDepth 20000 in
theorem gL_law_L_stabilize : GoodIn wsL_law (va_wsS RL 134 yL_stabilize wsL_stabilize) := goodIn_app (goodIn_of _ (by decide +kernel)) ggL_law_L_stabilize
set_option maxRecDepth 20000 in
theorem ggL_law_X3_stabilize : GoodIn wsL_law wsX3_stabilize := goodIn_r _ [344, 114, 52, 209, 210, 211, 5, 212, 51, 115, 116, 117, 345, 346, 347, 348, 53, 177, 178, 179, 180, 191, 192, 193, 181, 182, 183, 184, 185, 186, 240, 241, 242, 243, 611, 612, 613, 614, 615, 616, 617, 618, 619, 620, 621, 622, 623] (by decide +kernel) (by decide +kernel)
set_option maxRecDepth 20000 in
theorem gL_law_X3_stabilize : GoodIn wsL_law (wsV RL 136 RX3 yX3_stabilize wsX3_stabilize) := goodIn_app (goodIn_of _ (by decide +kernel)) ggL_law_X3_stabilize
set_option maxRecDepth 20000 in
theorem ggL_law_L_fix : GoodIn wsL_law wsL_fix := goodIn_ca (goodIn_ca (goodIn_r _ [351, 65, 66, 352, 353, 354, 2, 355, 73, 74, 75, 76, 77, 78, 79, 80, 141, 142, 143, 144, 71, 72, 85, 86, 87, 88, 14, 356, 357, 358, 359, 20, 360, 361, 159, 362, 363, 364, 365, 145, 146, 147, 148, 25, 26, 149, 150, 151, 152, 18, 153, 154, 155, 17, 156, 41, 42, 157, 158, 160, 161, 162, 163, 164, 165, 166, 167, 97, 98, 99, 100, 599, 600, 601, 602, 603, 604, 605, 606, 607, 608, 609, 610, 624, 625] (by decide +kernel) (by decide +kernel)) (goodIn_sub (fun _ h => List.mem_append_left _ (List.mem_append_right _ h)) (by decide +kernel))) (goodIn_sub (fun _ h => List.mem_append_left _ (List.mem_append_left _ (List.mem_append_right _ h))) (by decide +kernel))
set_option maxRecDepth 20000 in
theorem gL_law_L_fix : GoodIn wsL_law (va_wsS RL 137 yL_fix wsL_fix) := goodIn_app (goodIn_of _ (by decide +kernel)) ggL_law_L_fix
