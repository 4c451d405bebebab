set_option maxRecDepth 20000 in
theorem ggL_law_X3_fix : GoodIn wsL_law wsX3_fix := goodIn_r _ [369, 114, 209, 210, 211, 5, 212, 51, 115, 116, 117, 370, 371, 372, 373, 54, 172, 173, 174, 175, 176, 57, 177, 178, 179, 180, 52, 181, 182, 183, 184, 185, 186, 187, 188, 189, 190, 191, 192, 193, 611, 612, 613, 614, 615, 616, 617, 618, 619, 620, 621, 622, 623] (by decide +kernel) (by decide +kernel)
set_option maxRecDepth 20000 in
theorem gL_law_X3_fix : GoodIn wsL_law (wsV RL 139 RX3 yX3_fix wsX3_fix) := goodIn_app (goodIn_of _ (by decide +kernel)) ggL_law_X3_fix
set_option maxRecDepth 20000 in
theorem ggL_law_L_replicate : GoodIn wsL_law wsL_replicate := goodIn_ca (goodIn_ca (goodIn_r _ [376, 65, 66, 377, 378, 379, 2, 380, 73, 74, 75, 76, 77, 78, 79, 80, 141, 142, 143, 144, 71, 72, 85, 86, 87, 88, 14, 381, 382, 383, 384, 21, 153, 154, 155, 17, 156, 41, 42, 385, 386, 387, 388, 19, 157, 158, 159, 160, 145, 146, 147, 148, 25, 26, 149, 150, 151, 152, 18, 161, 162, 163, 164, 20, 165, 166, 167, 224, 225, 226, 227, 22, 97, 98, 99, 100, 389, 390, 391, 392, 393, 394, 395, 396, 599, 600, 601, 602, 603, 604, 605, 606, 607, 608, 609, 610, 624, 625] (by decide +kernel) (by decide +kernel)) (goodIn_sub (fun _ h => List.mem_append_left _ (List.mem_append_right _ h)) (by decide +kernel))) (goodIn_sub (fun _ h => List.mem_append_left _ (List.mem_append_left _ (List.mem_append_right _ h))) (by decide +kernel))
set_option maxRecDepth 20000 in
theorem gL_law_L_replicate : GoodIn wsL_law (va_wsS RL 140 yL_replicate wsL_replicate) := goodIn_app (goodIn_of _ (by decide +kernel)) ggL_law_L_replicate
set_option maxRecDepth 20000 in
theorem ggL_law_X3_replicate : GoodIn wsL_law wsX3_replicate := goodIn_r _ [400, 114, 209, 210, 211, 5, 212, 51, 115, 116, 117, 401, 402, 403, 404, 56, 53, 181, 182, 183, 184, 185, 186, 172, 173, 174, 175, 176, 57, 177, 178, 179, 180, 52, 187, 188, 189, 190, 54, 191, 192, 193, 405, 406, 407, 408, 236, 237, 238, 239, 55, 611, 612, 613, 614, 615, 616, 617, 618, 619, 620, 621, 622, 623] (by decide +kernel) (by decide +kernel)
set_option maxRecDepth 20000 in
theorem gL_law_X3_replicate : GoodIn wsL_law (wsV RL 142 RX3 yX3_replicate wsX3_replicate) := goodIn_app (goodIn_of _ (by decide +kernel)) ggL_law_X3_replicate
set_option maxRecDepth 20000 in
theorem ggL_law_L_goRounds : GoodIn wsL_law wsL_goRounds := goodIn_ca (goodIn_r _ [411, 65, 412, 413, 414, 2, 415, 76, 77, 78, 79, 80, 416, 417, 418, 419, 85, 86, 87, 88, 14, 314, 315, 316, 317, 19, 153, 154, 155, 17, 156, 41, 42, 97, 98, 99, 100, 333, 334, 335, 336, 149, 150, 151, 152, 18, 165, 166, 159, 167, 228, 229, 230, 231, 93, 94, 95, 96, 337, 338, 339, 340, 356, 357, 358, 359, 20, 360, 361, 362, 363, 364, 365, 145, 146, 147, 148, 25, 26, 157, 158, 160, 161, 162, 163, 164, 381, 382, 383, 384, 21, 385, 386, 387, 388, 224, 225, 226, 227, 22, 389, 390, 391, 392, 393, 394, 395, 396, 420, 421, 422, 423, 424, 425, 426, 427, 428, 429, 430, 431, 432, 433, 434, 435, 436, 599, 600, 601, 602, 603, 604, 605, 606, 607, 608, 609, 610, 624, 625] (by decide +kernel) (by decide +kernel)) (goodIn_sub (fun _ h => List.mem_append_left _ (List.mem_append_right _ h)) (by decide +kernel))
set_option maxRecDepth 20000 in
theorem gL_law_L_goRounds : GoodIn wsL_law (va_wsS RL 143 yL_goRounds wsL_goRounds) := goodIn_app (goodIn_of _ (by decide +kernel)) ggL_law_L_goRounds
set_option maxRecDepth 20000 in
theorem ggL_law_X3_goRounds : GoodIn wsL_law wsX3_goRounds := goodIn_r _ [440, 114, 118, 119, 120, 5, 121, 441, 442, 443, 444, 51, 322, 323, 324, 325, 53, 345, 346, 347, 348, 177, 178, 179, 180, 52, 191, 192, 193, 181, 182, 183, 184, 185, 186, 240, 241, 242, 243, 370, 371, 372, 373, 54, 172, 173, 174, 175, 176, 57, 187, 188, 189, 190, 401, 402, 403, 404, 56, 405, 406, 407, 408, 236, 237, 238, 239, 55, 445, 446, 447, 448, 449, 450, 451, 452, 453, 454, 455, 456, 457, 458, 459, 460, 611, 612, 613, 614, 615, 616, 617, 618, 619, 620, 621, 622, 623] (by decide +kernel) (by decide +kernel)
set_option maxRecDepth 20000 in
theorem gL_law_X3_goRounds : GoodIn wsL_law (wsV RL 145 RX3 yX3_goRounds wsX3_goRounds) := goodIn_app (goodIn_of _ (by decide +kernel)) ggL_law_X3_goRounds
set_option maxRecDepth 20000 in
theorem ggL_law_L_lookup : GoodIn wsL_law wsL_lookup := goodIn_ca (goodIn_ca (goodIn_r _ [463, 65, 66, 464, 465, 466, 2, 467, 73, 74, 75, 76, 77, 78, 79, 80, 141, 142, 143, 144, 71, 72, 85, 86, 87, 88, 14, 145, 146, 147, 148, 25, 26, 149, 150, 151, 152, 18, 153, 154, 155, 17, 156, 41, 42, 157, 158, 159, 160, 161, 162, 163, 164, 20, 165, 166, 167, 599, 600, 601, 602, 603, 604, 605, 606, 607, 608, 609, 610, 624, 625] (by decide +kernel) (by decide +kernel)) (goodIn_sub (fun _ h => List.mem_append_left _ (List.mem_append_right _ h)) (by decide +kernel))) (goodIn_sub (fun _ h => List.mem_append_left _ (List.mem_append_left _ (List.mem_append_right _ h))) (by decide +kernel))
set_option maxRecDepth 20000 in
theorem gL_law_L_lookup : GoodIn wsL_law (va_wsS RL 146 yL_lookup wsL_lookup) := goodIn_app (goodIn_of _ (by decide +kernel)) ggL_law_L_lookup
set_option maxRecDepth 20000 in
theorem ggL_law_X3_lookup : GoodIn wsL_law wsX3_lookup := goodIn_r _ [471, 114, 472, 473, 474, 5, 475, 115, 116, 117, 209, 210, 211, 212, 51, 172, 173, 174, 175, 176, 57, 177, 178, 179, 180, 52, 181, 182, 183, 184, 185, 186, 187, 188, 189, 190, 54, 191, 192, 193, 611, 612, 613, 614, 615, 616, 617, 618, 619, 620, 621, 622, 623] (by decide +kernel) (by decide +kernel)
set_option maxRecDepth 20000 in
theorem gL_law_X3_lookup : GoodIn wsL_law (wsV RL 148 RX3 yX3_lookup wsX3_lookup) := goodIn_app (goodIn_of _ (by decide +kernel)) ggL_law_X3_lookup
set_option maxRecDepth 20000 in
theorem ggL_law_L_hops : GoodIn wsL_law wsL_hops := goodIn_ca (goodIn_ca (goodIn_r _ [478, 65, 66, 479, 480, 481, 2, 482, 26, 73, 74, 75, 76, 77, 78, 79, 80, 141, 142, 143, 144, 71, 72, 85, 86, 87, 88, 14, 145, 146, 147, 148, 25, 149, 150, 151, 152, 18, 153, 154, 155, 17, 156, 41, 42, 157, 158, 159, 160, 161, 162, 163, 164, 20, 165, 166, 167, 599, 600, 601, 602, 603, 604, 605, 606, 607, 608, 609, 610, 624, 625] (by decide +kernel) (by decide +kernel)) (goodIn_sub (fun _ h => List.mem_append_left _ (List.mem_append_right _ h)) (by decide +kernel))) (goodIn_sub (fun _ h => List.mem_append_left _ (List.mem_append_left _ (List.mem_append_right _ h))) (by decide +kernel))
set_option maxRecDepth 20000 in
theorem gL_law_L_hops : GoodIn wsL_law (va_wsS RL 149 yL_hops wsL_hops) := goodIn_app (goodIn_of _ (by decide +kernel)) ggL_law_L_hops
set_option maxRecDepth 20000 in
theorem ggL_law_X3_hops : GoodIn wsL_law wsX3_hops := goodIn_r _ [486, 114, 176, 472, 473, 474, 5, 475, 115, 116, 117, 209, 210, 211, 212, 51, 172, 173, 174, 175, 57, 177, 178, 179, 180, 52, 181, 182, 183, 184, 185, 186, 187, 188, 189, 190, 54, 191, 192, 193, 611, 612, 613, 614, 615, 616, 617, 618, 619, 620, 621, 622, 623] (by decide +kernel) (by decide +kernel)
set_option maxRecDepth 20000 in
theorem gL_law_X3_hops : GoodIn wsL_law (wsV RL 151 RX3 yX3_hops wsX3_hops) := goodIn_app (goodIn_of _ (by decide +kernel)) ggL_law_X3_hops
set_option maxRecDepth 20000 in
theorem ggL_law_L_hopAt : GoodIn wsL_law wsL_hopAt := goodIn_ca (goodIn_ca (goodIn_ca (goodIn_r _ [489, 65, 66, 490, 491, 492, 493, 2, 494, 495, 496, 26, 25, 73, 74, 75, 76, 77, 78, 79, 80, 141, 142, 143, 144, 71, 72, 85, 86, 87, 88, 14, 145, 146, 147, 148, 149, 150, 151, 152, 18, 153, 154, 155, 17, 156, 41, 42, 157, 158, 159, 160, 161, 162, 163, 164, 20, 165, 166, 167, 599, 600, 601, 602, 603, 604, 605, 606, 607, 608, 609, 610, 624, 625] (by decide +kernel) (by decide +kernel)) (goodIn_sub (fun _ h => List.mem_append_right _ h) (by decide +kernel))) (goodIn_sub (fun _ h => List.mem_append_left _ (List.mem_append_right _ h)) (by decide +kernel))) (goodIn_sub (fun _ h => List.mem_append_left _ (List.mem_append_left _ (List.mem_append_right _ h))) (by decide +kernel))
set_option maxRecDepth 20000 in
theorem gL_law_L_hopAt : GoodIn wsL_law (va_wsS RL 152 yL_hopAt wsL_hopAt) := goodIn_app (goodIn_of _ (by decide +kernel)) ggL_law_L_hopAt
set_option maxRecDepth 20000 in
theorem ggL_law_X3_hopAt : GoodIn wsL_law wsX3_hopAt := goodIn_r _ [500, 114, 176, 57, 472, 473, 474, 5, 475, 115, 116, 117, 209, 210, 211, 212, 51, 172, 173, 174, 175, 177, 178, 179, 180, 52, 181, 182, 183, 184, 185, 186, 187, 188, 189, 190, 54, 191, 192, 193, 118, 119, 120, 121, 611, 612, 613, 614, 615, 616, 617, 618, 619, 620, 621, 622, 623] (by decide +kernel) (by decide +kernel)
set_option maxRecDepth 20000 in
theorem gL_law_X3_hopAt : GoodIn wsL_law (wsV RL 155 RX3 yX3_hopAt wsX3_hopAt) := goodIn_app (goodIn_of _ (by decide +kernel)) ggL_law_X3_hopAt
set_option maxRecDepth 20000 in
theorem ggL_law_L_put : GoodIn wsL_law wsL_put := goodIn_ca (goodIn_ca (goodIn_r _ [503, 65, 66, 504, 505, 506, 2, 507, 23, 21, 22, 73, 74, 75, 76, 77, 78, 79, 80, 141, 142, 143, 144, 71, 72, 85, 86, 87, 88, 14, 145, 146, 147, 148, 25, 26, 149, 150, 151, 152, 18, 153, 154, 155, 17, 156, 41, 42, 157, 158, 159, 160, 161, 162, 163, 164, 20, 165, 166, 167, 97, 98, 99, 100, 389, 390, 391, 392, 393, 394, 395, 396, 224, 225, 226, 227, 599, 600, 601, 602, 603, 604, 605, 606, 607, 608, 609, 610, 624, 625] (by decide +kernel) (by decide +kernel)) (goodIn_sub (fun _ h => List.mem_append_left _ (List.mem_append_right _ h)) (by decide +kernel))) (goodIn_sub (fun _ h => List.mem_append_left _ (List.mem_append_left _ (List.mem_append_right _ h))) (by decide +kernel))
set_option maxRecDepth 20000 in
theorem gL_law_L_put : GoodIn wsL_law (va_wsS RL 156 yL_put wsL_put) := goodIn_app (goodIn_of _ (by decide +kernel)) ggL_law_L_put
set_option maxRecDepth 20000 in
theorem ggL_law_X3_put : GoodIn wsL_law wsX3_put := goodIn_r _ [511, 114, 512, 56, 55, 472, 473, 474, 5, 475, 115, 116, 117, 209, 210, 211, 212, 51, 172, 173, 174, 175, 176, 57, 177, 178, 179, 180, 52, 181, 182, 183, 184, 185, 186, 187, 188, 189, 190, 54, 191, 192, 193, 405, 406, 407, 408, 236, 237, 238, 239, 611, 612, 613, 614, 615, 616, 617, 618, 619, 620, 621, 622, 623] (by decide +kernel) (by decide +kernel)
set_option maxRecDepth 20000 in
theorem gL_law_X3_put : GoodIn wsL_law (wsV RL 158 RX3 yX3_put wsX3_put) := goodIn_app (goodIn_of _ (by decide +kernel)) ggL_law_X3_put
set_option maxRecDepth 20000 in
theorem ggL_law_L_get : GoodIn wsL_law wsL_get := goodIn_ca (goodIn_ca (goodIn_r _ [515, 65, 66, 516, 517, 518, 2, 519, 21, 73, 74, 75, 76, 77, 78, 79, 80, 141, 142, 143, 144, 71, 72, 85, 86, 87, 88, 14, 145, 146, 147, 148, 25, 26, 149, 150, 151, 152, 18, 153, 154, 155, 17, 156, 41, 42, 157, 158, 159, 160, 161, 162, 163, 164, 20, 165, 166, 167, 599, 600, 601, 602, 603, 604, 605, 606, 607, 608, 609, 610, 624, 625] (by decide +kernel) (by decide +kernel)) (goodIn_sub (fun _ h => List.mem_append_left _ (List.mem_append_right _ h)) (by decide +kernel))) (goodIn_sub (fun _ h => List.mem_append_left _ (List.mem_append_left _ (List.mem_append_right _ h))) (by decide +kernel))
set_option maxRecDepth 20000 in
theorem gL_law_L_get : GoodIn wsL_law (va_wsS RL 159 yL_get wsL_get) := goodIn_app (goodIn_of _ (by decide +kernel)) ggL_law_L_get
