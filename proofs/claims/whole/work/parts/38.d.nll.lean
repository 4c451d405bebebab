set_option maxRecDepth 20000 in
theorem ggL_law_X3_get : GoodIn wsL_law wsX3_get := goodIn_r _ [523, 114, 472, 473, 474, 5, 475, 115, 116, 117, 209, 210, 211, 212, 51, 172, 173, 174, 175, 176, 57, 177, 178, 179, 180, 52, 181, 182, 183, 184, 185, 186, 187, 188, 189, 190, 54, 191, 192, 193, 524, 525, 526, 527, 56, 55, 611, 612, 613, 614, 615, 616, 617, 618, 619, 620, 621, 622, 623] (by decide +kernel) (by decide +kernel)
set_option maxRecDepth 20000 in
theorem gL_law_X3_get : GoodIn wsL_law (wsV RL 161 RX3 yX3_get wsX3_get) := goodIn_app (goodIn_of _ (by decide +kernel)) ggL_law_X3_get
set_option maxRecDepth 20000 in
theorem ggL_law_L_kept : GoodIn wsL_law wsL_kept := goodIn_ca (goodIn_ca (goodIn_r _ [530, 65, 66, 531, 532, 533, 2, 534, 21, 73, 74, 75, 76, 77, 78, 79, 80, 141, 142, 143, 144, 71, 72, 85, 86, 87, 88, 14, 153, 154, 155, 17, 156, 41, 42, 599, 600, 601, 602, 603, 604, 605, 606, 607, 608, 609, 610, 624, 625] (by decide +kernel) (by decide +kernel)) (goodIn_sub (fun _ h => List.mem_append_left _ (List.mem_append_right _ h)) (by decide +kernel))) (goodIn_sub (fun _ h => List.mem_append_left _ (List.mem_append_left _ (List.mem_append_right _ h))) (by decide +kernel))
set_option maxRecDepth 20000 in
theorem gL_law_L_kept : GoodIn wsL_law (va_wsS RL 162 yL_kept wsL_kept) := goodIn_app (goodIn_of _ (by decide +kernel)) ggL_law_L_kept
set_option maxRecDepth 20000 in
theorem ggL_law_X3_kept : GoodIn wsL_law wsX3_kept := goodIn_r _ [538, 114, 472, 473, 474, 5, 475, 115, 116, 117, 209, 210, 211, 212, 51, 524, 525, 526, 527, 56, 55, 611, 612, 613, 614, 615, 616, 617, 618, 619, 620, 621, 622, 623] (by decide +kernel) (by decide +kernel)
set_option maxRecDepth 20000 in
theorem gL_law_X3_kept : GoodIn wsL_law (wsV RL 164 RX3 yX3_kept wsX3_kept) := goodIn_app (goodIn_of _ (by decide +kernel)) ggL_law_X3_kept
set_option maxRecDepth 20000 in
theorem ggL_law_L_keepers : GoodIn wsL_law wsL_keepers := goodIn_ca (goodIn_r _ [541, 65, 542, 543, 544, 2, 545, 21, 73, 74, 75, 76, 77, 78, 79, 80, 85, 86, 87, 88, 14, 153, 154, 155, 17, 156, 41, 42, 599, 600, 601, 602, 603, 604, 605, 606, 607, 608, 609, 610, 624, 625] (by decide +kernel) (by decide +kernel)) (goodIn_sub (fun _ h => List.mem_append_left _ (List.mem_append_right _ h)) (by decide +kernel))
set_option maxRecDepth 20000 in
theorem gL_law_L_keepers : GoodIn wsL_law (va_wsS RL 165 yL_keepers wsL_keepers) := goodIn_app (goodIn_of _ (by decide +kernel)) ggL_law_L_keepers
set_option maxRecDepth 20000 in
theorem ggL_law_X3_keepers : GoodIn wsL_law wsX3_keepers := goodIn_r _ [549, 114, 51, 56, 115, 116, 5, 117, 118, 119, 120, 121, 611, 612, 613, 614, 615, 616, 617, 618, 619, 620, 621, 622, 623] (by decide +kernel) (by decide +kernel)
set_option maxRecDepth 20000 in
theorem gL_law_X3_keepers : GoodIn wsL_law (wsV RL 167 RX3 yX3_keepers wsX3_keepers) := goodIn_app (goodIn_of _ (by decide +kernel)) ggL_law_X3_keepers
set_option maxRecDepth 20000 in
theorem ggL_law_L_owner : GoodIn wsL_law wsL_owner := goodIn_ca (goodIn_r _ [552, 65, 553, 554, 555, 2, 556, 73, 74, 75, 76, 77, 78, 79, 80, 429, 430, 431, 432, 428, 364, 159, 365, 85, 86, 87, 88, 14, 599, 600, 601, 602, 603, 604, 605, 606, 607, 608, 609, 610] (by decide +kernel) (by decide +kernel)) (goodIn_sub (fun _ h => List.mem_append_left _ (List.mem_append_right _ h)) (by decide +kernel))
set_option maxRecDepth 20000 in
theorem gL_law_L_owner : GoodIn wsL_law (va_wsS RL 168 yL_owner wsL_owner) := goodIn_app (goodIn_of _ (by decide +kernel)) ggL_law_L_owner
set_option maxRecDepth 20000 in
theorem ggL_law_X3_owner : GoodIn wsL_law wsX3_owner := goodIn_r _ [560, 114, 115, 116, 5, 117, 453, 454, 455, 456, 51, 118, 119, 120, 121, 611, 612, 613, 614, 615, 616, 617, 618, 619, 620, 621, 622, 623] (by decide +kernel) (by decide +kernel)
set_option maxRecDepth 20000 in
theorem gL_law_X3_owner : GoodIn wsL_law (wsV RL 170 RX3 yX3_owner wsX3_owner) := goodIn_app (goodIn_of _ (by decide +kernel)) ggL_law_X3_owner
set_option maxRecDepth 20000 in
theorem ggL_law_X2_wrongPointers : GoodIn wsL_law wsX2_wrongPointers := goodIn_r _ [564, 420, 421, 422, 2, 423, 85, 86, 87, 88, 14, 424, 425, 426, 427, 19, 20, 149, 150, 151, 152, 18, 153, 154, 155, 17, 156, 41, 42, 428, 364, 159, 365, 429, 430, 431, 432, 433, 434, 435, 436, 360, 361, 362, 363, 599, 600, 601, 602, 603, 604, 605, 606, 607, 608, 609, 610, 624, 625] (by decide +kernel) (by decide +kernel)
set_option maxRecDepth 20000 in
theorem gL_law_X2_wrongPointers : GoodIn wsL_law (wsV RL 171 RX2 yX2_wrongPointers wsX2_wrongPointers) := goodIn_app (goodIn_of _ (by decide +kernel)) ggL_law_X2_wrongPointers
set_option maxRecDepth 20000 in
theorem ggL_law_X3_wrongPointers : GoodIn wsL_law wsX3_wrongPointers := goodIn_r _ [568, 114, 445, 446, 447, 5, 448, 51, 449, 450, 451, 452, 53, 54, 177, 178, 179, 180, 52, 453, 454, 455, 456, 457, 458, 459, 460, 611, 612, 613, 614, 615, 616, 617, 618, 619, 620, 621, 622, 623] (by decide +kernel) (by decide +kernel)
set_option maxRecDepth 20000 in
theorem gL_law_X3_wrongPointers : GoodIn wsL_law (wsV RL 174 RX3 yX3_wrongPointers wsX3_wrongPointers) := goodIn_app (goodIn_of _ (by decide +kernel)) ggL_law_X3_wrongPointers
set_option maxRecDepth 20000 in
theorem ggL_law_L_roundsToRight : GoodIn wsL_law wsL_roundsToRight := goodIn_ca (goodIn_r _ [571, 65, 572, 573, 574, 2, 575, 76, 77, 78, 79, 80, 576, 577, 578, 579, 27, 18, 28, 19, 29, 20, 580, 581, 582, 17, 583, 42, 34, 35, 36, 37, 584, 585, 586, 587, 420, 421, 422, 423, 85, 86, 87, 88, 14, 424, 425, 426, 427, 149, 150, 151, 152, 153, 154, 155, 156, 41, 428, 364, 159, 365, 429, 430, 431, 432, 433, 434, 435, 436, 360, 361, 362, 363, 416, 417, 418, 419, 314, 315, 316, 317, 97, 98, 99, 100, 333, 334, 335, 336, 165, 166, 167, 228, 229, 230, 231, 93, 94, 95, 96, 337, 338, 339, 340, 356, 357, 358, 359, 145, 146, 147, 148, 25, 26, 157, 158, 160, 161, 162, 163, 164, 381, 382, 383, 384, 21, 385, 386, 387, 388, 224, 225, 226, 227, 22, 389, 390, 391, 392, 393, 394, 395, 396, 588, 589, 590, 591, 599, 600, 601, 602, 603, 604, 605, 606, 607, 608, 609, 610, 624, 625] (by decide +kernel) (by decide +kernel)) (goodIn_sub (fun _ h => List.mem_append_left _ (List.mem_append_right _ h)) (by decide +kernel))
set_option maxRecDepth 20000 in
theorem gL_law_L_roundsToRight : GoodIn wsL_law (va_wsS RL 175 yL_roundsToRight wsL_roundsToRight) := goodIn_app (goodIn_of _ (by decide +kernel)) ggL_law_L_roundsToRight
set_option maxRecDepth 20000 in
theorem ggL_law_X3_roundsToRight : GoodIn wsL_law wsX3_roundsToRight := goodIn_r _ [595, 114, 52, 58, 53, 59, 54, 60, 118, 119, 120, 5, 121, 596, 597, 598, 445, 446, 447, 448, 51, 449, 450, 451, 452, 177, 178, 179, 180, 453, 454, 455, 456, 457, 458, 459, 460, 441, 442, 443, 444, 322, 323, 324, 325, 345, 346, 347, 348, 191, 192, 193, 181, 182, 183, 184, 185, 186, 240, 241, 242, 243, 370, 371, 372, 373, 172, 173, 174, 175, 176, 57, 187, 188, 189, 190, 401, 402, 403, 404, 56, 405, 406, 407, 408, 236, 237, 238, 239, 55, 611, 612, 613, 614, 615, 616, 617, 618, 619, 620, 621, 622, 623] (by decide +kernel) (by decide +kernel)
set_option maxRecDepth 20000 in
theorem gL_law_X3_roundsToRight : GoodIn wsL_law (wsV RL 177 RX3 yX3_roundsToRight wsX3_roundsToRight) := goodIn_app (goodIn_of _ (by decide +kernel)) ggL_law_X3_roundsToRight
