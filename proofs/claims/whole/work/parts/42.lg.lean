set_option maxRecDepth 20000 in
theorem ggL_law_X4_init : GoodIn wsL_law wsX4_init := goodIn_r _ [9, 10, 11, 12, 13, 14, 15, 16, 17, 18, 19, 20, 21, 22, 23, 24, 25, 26, 27, 28, 29, 30, 31, 32, 33, 34, 35, 36, 37, 38, 39, 40, 41, 42, 43, 44, 45, 46, 47, 48, 49, 50, 51, 52, 53, 54, 55, 56, 57, 58, 59, 60, 61, 62, 63, 64, 65, 66, 67, 68, 604, 605, 567, 568, 569, 570, 571, 572, 573, 574, 575, 576, 577, 578, 606, 607, 608, 609, 610, 611, 612, 613, 614, 615, 616, 617, 618, 619, 620] (by decide +kernel) (by decide +kernel)
set_option maxRecDepth 20000 in
theorem gL_law_X4_init : GoodIn wsL_law (wsX4_init) := ggL_law_X4_init
set_option maxRecDepth 20000 in
theorem ggL_law_X5_init : GoodIn wsL_law wsX5_init := goodIn_r _ [71, 72, 11, 12, 32, 73, 74, 75, 30, 76, 77, 78, 79, 80, 81, 82, 83, 84, 85, 86, 87, 88, 89, 90, 91, 92, 93, 94, 579, 580, 581, 582, 583, 584, 585, 586, 587, 588, 589, 590, 591, 592, 593, 594, 595, 596, 597, 598, 599, 600, 601, 602, 603] (by decide +kernel) (by decide +kernel)
set_option maxRecDepth 20000 in
theorem gL_law_X5_init : GoodIn wsL_law (wsX5_init) := ggL_law_X5_init
set_option maxRecDepth 20000 in
theorem ggL_law_L_fund : GoodIn wsL_law wsL_fund := goodIn_ca (goodIn_ca (goodIn_ca (goodIn_r _ [98, 99, 100, 101, 102, 103, 104, 2, 105, 106, 107, 108, 16, 109, 110, 111, 112, 113, 114, 115, 116, 117, 118, 119, 120, 121, 122, 123, 124, 31, 567, 568, 569, 570, 571, 572, 573, 574, 575, 576, 577, 578, 604, 605] (by decide +kernel) (by decide +kernel)) (goodIn_sub (fun _ h => List.mem_append_left _ (List.mem_append_left _ (List.mem_append_right _ h))) (by decide +kernel))) (goodIn_sub (fun _ h => List.mem_append_left _ (List.mem_append_right _ h)) (by decide +kernel))) (goodIn_sub (fun _ h => List.mem_append_right _ h) (by decide +kernel))
set_option maxRecDepth 20000 in
theorem gL_law_L_fund : GoodIn wsL_law (va_wsS RL 75 yL_fund wsL_fund) := goodIn_app (goodIn_of _ (by decide +kernel)) ggL_law_L_fund
set_option maxRecDepth 20000 in
theorem ggL_law_X5_fund : GoodIn wsL_law wsX5_fund := goodIn_r _ [128, 94, 76, 73, 129, 130, 131, 5, 132, 133, 134, 135, 136, 137, 138, 139, 140, 141, 142, 143, 144, 579, 580, 581, 582, 583, 584, 585, 586, 587, 588, 589, 590, 591, 592, 593, 594, 595, 596, 597, 598, 599, 600, 601, 602, 603] (by decide +kernel) (by decide +kernel)
set_option maxRecDepth 20000 in
theorem gL_law_X5_fund : GoodIn wsL_law (wsV RL 80 RX5 yX5_fund wsX5_fund) := goodIn_app (goodIn_of _ (by decide +kernel)) ggL_law_X5_fund
set_option maxRecDepth 20000 in
theorem ggL_law_X5_thrown : GoodIn wsL_law wsX5_thrown := goodIn_r _ [148, 137, 579, 580, 581, 582, 583, 584, 585, 586, 587, 588, 589, 590, 591, 592, 593, 594, 595, 596, 597, 598, 599, 600, 601, 602, 603] (by decide +kernel) (by decide +kernel)
set_option maxRecDepth 20000 in
theorem gL_law_X5_thrown : GoodIn wsL_law (wsV RL 81 RX5 yX5_thrown wsX5_thrown) := goodIn_app (goodIn_of _ (by decide +kernel)) ggL_law_X5_thrown
set_option maxRecDepth 20000 in
theorem ggL_law_L_setFloor : GoodIn wsL_law wsL_setFloor := goodIn_ca (goodIn_ca (goodIn_r _ [151, 99, 100, 152, 153, 154, 2, 155, 156, 16, 109, 157, 158, 159, 160, 21, 161, 111, 112, 113, 114, 115, 116, 117, 118, 119, 120, 567, 568, 569, 570, 571, 572, 573, 574, 575, 576, 577, 578, 604, 605, 606, 607] (by decide +kernel) (by decide +kernel)) (goodIn_sub (fun _ h => List.mem_append_left _ (List.mem_append_right _ h)) (by decide +kernel))) (goodIn_sub (fun _ h => List.mem_append_right _ h) (by decide +kernel))
set_option maxRecDepth 20000 in
theorem gL_law_L_setFloor : GoodIn wsL_law (va_wsS RL 85 yL_setFloor wsL_setFloor) := goodIn_app (goodIn_of _ (by decide +kernel)) ggL_law_L_setFloor
set_option maxRecDepth 20000 in
theorem ggL_law_X5_setFloor : GoodIn wsL_law wsX5_setFloor := goodIn_r _ [165, 166, 73, 74, 130, 131, 5, 132, 133, 134, 135, 136, 137, 138, 139, 140, 141, 142, 143, 144, 579, 580, 581, 582, 583, 584, 585, 586, 587, 588, 589, 590, 591, 592, 593, 594, 595, 596, 597, 598, 599, 600, 601, 602, 603] (by decide +kernel) (by decide +kernel)
set_option maxRecDepth 20000 in
theorem gL_law_X5_setFloor : GoodIn wsL_law (wsV RL 87 RX5 yX5_setFloor wsX5_setFloor) := goodIn_app (goodIn_of _ (by decide +kernel)) ggL_law_X5_setFloor
set_option maxRecDepth 20000 in
theorem ggL_law_L_setBound : GoodIn wsL_law wsL_setBound := goodIn_ca (goodIn_ca (goodIn_r _ [169, 99, 100, 170, 171, 172, 2, 173, 16, 174, 175, 176, 159, 177, 108, 21, 178, 111, 112, 113, 114, 115, 179, 180, 181, 119, 120, 182, 183, 184, 116, 117, 118, 567, 568, 569, 570, 571, 572, 573, 574, 575, 576, 577, 578, 604, 605, 606, 607] (by decide +kernel) (by decide +kernel)) (goodIn_sub (fun _ h => List.mem_append_left _ (List.mem_append_right _ h)) (by decide +kernel))) (goodIn_sub (fun _ h => List.mem_append_right _ h) (by decide +kernel))
set_option maxRecDepth 20000 in
theorem gL_law_L_setBound : GoodIn wsL_law (va_wsS RL 88 yL_setBound wsL_setBound) := goodIn_app (goodIn_of _ (by decide +kernel)) ggL_law_L_setBound
set_option maxRecDepth 20000 in
theorem ggL_law_X5_setBound : GoodIn wsL_law wsX5_setBound := goodIn_r _ [188, 94, 77, 78, 130, 131, 5, 132, 133, 134, 135, 136, 137, 138, 139, 140, 141, 142, 143, 144, 579, 580, 581, 582, 583, 584, 585, 586, 587, 588, 589, 590, 591, 592, 593, 594, 595, 596, 597, 598, 599, 600, 601, 602, 603] (by decide +kernel) (by decide +kernel)
set_option maxRecDepth 20000 in
theorem gL_law_X5_setBound : GoodIn wsL_law (wsV RL 91 RX5 yX5_setBound wsX5_setBound) := goodIn_app (goodIn_of _ (by decide +kernel)) ggL_law_X5_setBound
set_option maxRecDepth 20000 in
theorem ggL_law_L_givePapers : GoodIn wsL_law wsL_givePapers := goodIn_ca (goodIn_ca (goodIn_ca (goodIn_r _ [191, 99, 100, 101, 192, 193, 194, 2, 195, 106, 107, 33, 196, 111, 112, 113, 114, 115, 116, 117, 118, 119, 120, 121, 122, 123, 124, 31, 567, 568, 569, 570, 571, 572, 573, 574, 575, 576, 577, 578] (by decide +kernel) (by decide +kernel)) (goodIn_sub (fun _ h => List.mem_append_left _ (List.mem_append_left _ (List.mem_append_right _ h))) (by decide +kernel))) (goodIn_sub (fun _ h => List.mem_append_left _ (List.mem_append_right _ h)) (by decide +kernel))) (goodIn_sub (fun _ h => List.mem_append_right _ h) (by decide +kernel))
set_option maxRecDepth 20000 in
theorem gL_law_L_givePapers : GoodIn wsL_law (va_wsS RL 92 yL_givePapers wsL_givePapers) := goodIn_app (goodIn_of _ (by decide +kernel)) ggL_law_L_givePapers
set_option maxRecDepth 20000 in
theorem ggL_law_X5_givePapers : GoodIn wsL_law wsX5_givePapers := goodIn_r _ [200, 76, 75, 201, 130, 131, 5, 132, 133, 134, 135, 136, 137, 138, 139, 140, 141, 142, 143, 144, 579, 580, 581, 582, 583, 584, 585, 586, 587, 588, 589, 590, 591, 592, 593, 594, 595, 596, 597, 598, 599, 600, 601, 602, 603] (by decide +kernel) (by decide +kernel)
set_option maxRecDepth 20000 in
theorem gL_law_X5_givePapers : GoodIn wsL_law (wsV RL 94 RX5 yX5_givePapers wsX5_givePapers) := goodIn_app (goodIn_of _ (by decide +kernel)) ggL_law_X5_givePapers
set_option maxRecDepth 20000 in
theorem ggL_law_L_account : GoodIn wsL_law wsL_account := goodIn_ca (goodIn_r _ [204, 99, 205, 206, 207, 2, 208, 16, 109, 111, 112, 113, 114, 115, 567, 568, 569, 570, 571, 572, 573, 574, 575, 576, 577, 578, 604, 605] (by decide +kernel) (by decide +kernel)) (goodIn_sub (fun _ h => List.mem_append_left _ (List.mem_append_right _ h)) (by decide +kernel))
set_option maxRecDepth 20000 in
theorem gL_law_L_account : GoodIn wsL_law (va_wsS RL 95 yL_account wsL_account) := goodIn_app (goodIn_of _ (by decide +kernel)) ggL_law_L_account
set_option maxRecDepth 20000 in
theorem ggL_law_X5_account : GoodIn wsL_law wsX5_account := goodIn_r _ [212, 73, 130, 131, 5, 132, 133, 134, 135, 136, 137, 579, 580, 581, 582, 583, 584, 585, 586, 587, 588, 589, 590, 591, 592, 593, 594, 595, 596, 597, 598, 599, 600, 601, 602, 603] (by decide +kernel) (by decide +kernel)
set_option maxRecDepth 20000 in
theorem gL_law_X5_account : GoodIn wsL_law (wsV RL 98 RX5 yX5_account wsX5_account) := goodIn_app (goodIn_of _ (by decide +kernel)) ggL_law_X5_account
set_option maxRecDepth 20000 in
theorem ggL_law_L_papers : GoodIn wsL_law wsL_papers := goodIn_ca (goodIn_r _ [215, 99, 216, 217, 218, 2, 219, 33, 111, 112, 113, 114, 115, 567, 568, 569, 570, 571, 572, 573, 574, 575, 576, 577, 578] (by decide +kernel) (by decide +kernel)) (goodIn_sub (fun _ h => List.mem_append_left _ (List.mem_append_right _ h)) (by decide +kernel))
set_option maxRecDepth 20000 in
theorem gL_law_L_papers : GoodIn wsL_law (va_wsS RL 99 yL_papers wsL_papers) := goodIn_app (goodIn_of _ (by decide +kernel)) ggL_law_L_papers
set_option maxRecDepth 20000 in
theorem ggL_law_X5_papers : GoodIn wsL_law wsX5_papers := goodIn_r _ [223, 75, 130, 131, 5, 132, 133, 134, 135, 136, 137, 579, 580, 581, 582, 583, 584, 585, 586, 587, 588, 589, 590, 591, 592, 593, 594, 595, 596, 597, 598, 599, 600, 601, 602, 603] (by decide +kernel) (by decide +kernel)
set_option maxRecDepth 20000 in
theorem gL_law_X5_papers : GoodIn wsL_law (wsV RL 101 RX5 yX5_papers wsX5_papers) := goodIn_app (goodIn_of _ (by decide +kernel)) ggL_law_X5_papers
set_option maxRecDepth 20000 in
theorem ggL_law_L_isOpen : GoodIn wsL_law wsL_isOpen := goodIn_ca (goodIn_r _ [226, 99, 227, 228, 229, 2, 230, 31, 111, 112, 113, 114, 115, 567, 568, 569, 570, 571, 572, 573, 574, 575, 576, 577, 578] (by decide +kernel) (by decide +kernel)) (goodIn_sub (fun _ h => List.mem_append_left _ (List.mem_append_right _ h)) (by decide +kernel))
set_option maxRecDepth 20000 in
theorem gL_law_L_isOpen : GoodIn wsL_law (va_wsS RL 102 yL_isOpen wsL_isOpen) := goodIn_app (goodIn_of _ (by decide +kernel)) ggL_law_L_isOpen
set_option maxRecDepth 20000 in
theorem ggL_law_X5_isOpen : GoodIn wsL_law wsX5_isOpen := goodIn_r _ [234, 76, 130, 131, 5, 132, 133, 134, 135, 136, 137, 579, 580, 581, 582, 583, 584, 585, 586, 587, 588, 589, 590, 591, 592, 593, 594, 595, 596, 597, 598, 599, 600, 601, 602, 603] (by decide +kernel) (by decide +kernel)
set_option maxRecDepth 20000 in
theorem gL_law_X5_isOpen : GoodIn wsL_law (wsV RL 104 RX5 yX5_isOpen wsX5_isOpen) := goodIn_app (goodIn_of _ (by decide +kernel)) ggL_law_X5_isOpen
set_option maxRecDepth 20000 in
theorem ggL_law_L_paid : GoodIn wsL_law wsL_paid := goodIn_ca (goodIn_r _ [237, 99, 238, 239, 240, 2, 241, 16, 174, 111, 112, 113, 114, 115, 182, 183, 184, 567, 568, 569, 570, 571, 572, 573, 574, 575, 576, 577, 578, 604, 605] (by decide +kernel) (by decide +kernel)) (goodIn_sub (fun _ h => List.mem_append_left _ (List.mem_append_right _ h)) (by decide +kernel))
set_option maxRecDepth 20000 in
theorem gL_law_L_paid : GoodIn wsL_law (va_wsS RL 105 yL_paid wsL_paid) := goodIn_app (goodIn_of _ (by decide +kernel)) ggL_law_L_paid
set_option maxRecDepth 20000 in
theorem ggL_law_X5_paid : GoodIn wsL_law wsX5_paid := goodIn_r _ [245, 77, 130, 131, 5, 132, 133, 134, 135, 136, 137, 579, 580, 581, 582, 583, 584, 585, 586, 587, 588, 589, 590, 591, 592, 593, 594, 595, 596, 597, 598, 599, 600, 601, 602, 603] (by decide +kernel) (by decide +kernel)
set_option maxRecDepth 20000 in
theorem gL_law_X5_paid : GoodIn wsL_law (wsV RL 107 RX5 yX5_paid wsX5_paid) := goodIn_app (goodIn_of _ (by decide +kernel)) ggL_law_X5_paid
set_option maxRecDepth 20000 in
theorem ggL_law_L_pay : GoodIn wsL_law wsL_pay := goodIn_ca (goodIn_ca (goodIn_ca (goodIn_r _ [248, 99, 100, 101, 249, 250, 251, 2, 252, 106, 107, 196, 25, 253, 111, 112, 113, 114, 115, 179, 180, 181, 119, 120, 116, 117, 118, 121, 122, 123, 124, 31, 254, 255, 256, 24, 257, 258, 55, 56, 57, 58, 59, 60, 567, 568, 569, 570, 571, 572, 573, 574, 575, 576, 577, 578, 608, 609, 610, 611, 612, 613, 614] (by decide +kernel) (by decide +kernel)) (goodIn_sub (fun _ h => List.mem_append_left _ (List.mem_append_left _ (List.mem_append_right _ h))) (by decide +kernel))) (goodIn_sub (fun _ h => List.mem_append_left _ (List.mem_append_right _ h)) (by decide +kernel))) (goodIn_sub (fun _ h => List.mem_append_right _ h) (by decide +kernel))
set_option maxRecDepth 20000 in
theorem gL_law_L_pay : GoodIn wsL_law (va_wsS RL 108 yL_pay wsL_pay) := goodIn_app (goodIn_of _ (by decide +kernel)) ggL_law_L_pay
set_option maxRecDepth 20000 in
theorem ggL_law_X5_pay : GoodIn wsL_law wsX5_pay := goodIn_r _ [262, 201, 76, 263, 79, 80, 81, 82, 83, 130, 131, 5, 132, 133, 134, 135, 136, 137, 138, 139, 140, 141, 142, 143, 144, 579, 580, 581, 582, 583, 584, 585, 586, 587, 588, 589, 590, 591, 592, 593, 594, 595, 596, 597, 598, 599, 600, 601, 602, 603] (by decide +kernel) (by decide +kernel)
set_option maxRecDepth 20000 in
theorem gL_law_X5_pay : GoodIn wsL_law (wsV RL 111 RX5 yX5_pay wsX5_pay) := goodIn_app (goodIn_of _ (by decide +kernel)) ggL_law_X5_pay
set_option maxRecDepth 20000 in
theorem ggL_law_L_drop : GoodIn wsL_law wsL_drop := goodIn_ca (goodIn_ca (goodIn_r _ [266, 99, 101, 267, 268, 269, 2, 270, 106, 107, 25, 271, 272, 273, 274, 275, 114, 115, 253, 276, 277, 278, 24, 279, 258, 59, 567, 568, 569, 570, 571, 572, 573, 574, 575, 576, 577, 578, 608, 609, 610, 611, 612, 613, 614] (by decide +kernel) (by decide +kernel)) (goodIn_sub (fun _ h => List.mem_append_left _ (List.mem_append_left _ (List.mem_append_right _ h))) (by decide +kernel))) (goodIn_sub (fun _ h => List.mem_append_left _ (List.mem_append_right _ h)) (by decide +kernel))
set_option maxRecDepth 20000 in
theorem gL_law_L_drop : GoodIn wsL_law (va_wsS RL 112 yL_drop wsL_drop) := goodIn_app (goodIn_of _ (by decide +kernel)) ggL_law_L_drop
set_option maxRecDepth 20000 in
theorem ggL_law_X5_drop : GoodIn wsL_law wsX5_drop := goodIn_r _ [283, 83, 284, 285, 286, 5, 287, 263, 133, 134, 135, 136, 137, 141, 142, 143, 144, 288, 289, 290, 291, 579, 580, 581, 582, 583, 584, 585, 586, 587, 588, 589, 590, 591, 592, 593, 594, 595, 596, 597, 598, 599, 600, 601, 602, 603] (by decide +kernel) (by decide +kernel)
set_option maxRecDepth 20000 in
theorem gL_law_X5_drop : GoodIn wsL_law (wsV RL 114 RX5 yX5_drop wsX5_drop) := goodIn_app (goodIn_of _ (by decide +kernel)) ggL_law_X5_drop
set_option maxRecDepth 20000 in
theorem ggL_law_L_setSmall : GoodIn wsL_law wsL_setSmall := goodIn_ca (goodIn_r _ [294, 100, 295, 296, 297, 2, 298, 196, 35, 116, 117, 118, 119, 120, 567, 568, 569, 570, 571, 572, 573, 574, 575, 576, 577, 578] (by decide +kernel) (by decide +kernel)) (goodIn_sub (fun _ h => List.mem_append_right _ h) (by decide +kernel))
set_option maxRecDepth 20000 in
theorem gL_law_L_setSmall : GoodIn wsL_law (va_wsS RL 115 yL_setSmall wsL_setSmall) := goodIn_app (goodIn_of _ (by decide +kernel)) ggL_law_L_setSmall
set_option maxRecDepth 20000 in
theorem ggL_law_X5_setSmall : GoodIn wsL_law wsX5_setSmall := goodIn_r _ [302, 201, 84, 138, 139, 5, 140, 133, 134, 135, 136, 137, 579, 580, 581, 582, 583, 584, 585, 586, 587, 588, 589, 590, 591, 592, 593, 594, 595, 596, 597, 598, 599, 600, 601, 602, 603] (by decide +kernel) (by decide +kernel)
set_option maxRecDepth 20000 in
theorem gL_law_X5_setSmall : GoodIn wsL_law (wsV RL 117 RX5 yX5_setSmall wsX5_setSmall) := goodIn_app (goodIn_of _ (by decide +kernel)) ggL_law_X5_setSmall
set_option maxRecDepth 20000 in
theorem ggL_law_X4_run : GoodIn wsL_law wsX4_run := goodIn_r _ [306, 307, 308, 309, 2, 310, 311, 312, 313, 314, 25, 315, 316, 317, 24, 318, 258, 60, 319, 320, 321, 322, 59, 55, 323, 324, 325, 326, 271, 327, 328, 16, 109, 21, 161, 329, 174, 178, 182, 183, 184, 330, 331, 332, 333, 253, 334, 35, 335, 336, 337, 338, 339, 340, 341, 342, 343, 56, 57, 344, 345, 346, 15, 347, 42, 348, 349, 350, 351, 43, 352, 353, 354, 355, 34, 356, 357, 358, 359, 360, 361, 362, 363, 364, 365, 366, 17, 367, 368, 369, 370, 371, 372, 373, 374, 375, 376, 377, 378, 379, 380, 20, 381, 382, 48, 383, 49, 567, 568, 569, 570, 571, 572, 573, 574, 575, 576, 577, 578, 608, 609, 610, 611, 612, 613, 614, 604, 605, 606, 607] (by decide +kernel) (by decide +kernel)
set_option maxRecDepth 20000 in
theorem gL_law_X4_run : GoodIn wsL_law (wsV RL 118 RX4 yX4_run wsX4_run) := goodIn_app (goodIn_of _ (by decide +kernel)) ggL_law_X4_run
set_option maxRecDepth 20000 in
theorem ggL_law_X5_run : GoodIn wsL_law wsX5_run := goodIn_r _ [387, 137, 388, 389, 390, 5, 391, 81, 84, 392, 393, 394, 395, 263, 83, 79, 82, 396, 397, 398, 399, 80, 73, 74, 77, 78, 400, 401, 402, 403, 404, 405, 406, 407, 408, 409, 410, 411, 85, 412, 413, 414, 415, 416, 417, 418, 419, 420, 421, 422, 423, 579, 580, 581, 582, 583, 584, 585, 586, 587, 588, 589, 590, 591, 592, 593, 594, 595, 596, 597, 598, 599, 600, 601, 602, 603] (by decide +kernel) (by decide +kernel)
set_option maxRecDepth 20000 in
theorem gL_law_X5_run : GoodIn wsL_law (wsV RL 121 RX5 yX5_run wsX5_run) := goodIn_app (goodIn_of _ (by decide +kernel)) ggL_law_X5_run
set_option maxRecDepth 20000 in
theorem ggL_law_L_queued : GoodIn wsL_law wsL_queued := goodIn_ca (goodIn_r _ [426, 99, 427, 428, 429, 2, 430, 114, 115, 25, 111, 112, 113, 315, 316, 317, 24, 318, 258, 60, 319, 320, 321, 322, 59, 55, 567, 568, 569, 570, 571, 572, 573, 574, 575, 576, 577, 578, 608, 609, 610, 611, 612, 613, 614] (by decide +kernel) (by decide +kernel)) (goodIn_sub (fun _ h => List.mem_append_left _ (List.mem_append_right _ h)) (by decide +kernel))
set_option maxRecDepth 20000 in
theorem gL_law_L_queued : GoodIn wsL_law (va_wsS RL 122 yL_queued wsL_queued) := goodIn_app (goodIn_of _ (by decide +kernel)) ggL_law_L_queued
set_option maxRecDepth 20000 in
theorem ggL_law_X5_queued : GoodIn wsL_law wsX5_queued := goodIn_r _ [434, 130, 131, 5, 132, 133, 134, 135, 136, 137, 392, 393, 394, 395, 263, 83, 79, 82, 579, 580, 581, 582, 583, 584, 585, 586, 587, 588, 589, 590, 591, 592, 593, 594, 595, 596, 597, 598, 599, 600, 601, 602, 603] (by decide +kernel) (by decide +kernel)
set_option maxRecDepth 20000 in
theorem gL_law_X5_queued : GoodIn wsL_law (wsV RL 124 RX5 yX5_queued wsX5_queued) := goodIn_app (goodIn_of _ (by decide +kernel)) ggL_law_X5_queued
set_option maxRecDepth 20000 in
theorem ggL_law_L_why : GoodIn wsL_law wsL_why := goodIn_ca (goodIn_r _ [437, 99, 438, 439, 440, 2, 441, 272, 273, 274, 275, 114, 115, 25, 253, 323, 324, 325, 326, 271, 327, 328, 16, 109, 21, 161, 329, 174, 178, 182, 183, 184, 567, 568, 569, 570, 571, 572, 573, 574, 575, 576, 577, 578, 608, 609, 610, 611, 612, 613, 614, 604, 605, 606, 607] (by decide +kernel) (by decide +kernel)) (goodIn_sub (fun _ h => List.mem_append_left _ (List.mem_append_right _ h)) (by decide +kernel))
set_option maxRecDepth 20000 in
theorem gL_law_L_why : GoodIn wsL_law (va_wsS RL 125 yL_why wsL_why) := goodIn_app (goodIn_of _ (by decide +kernel)) ggL_law_L_why
set_option maxRecDepth 20000 in
theorem ggL_law_X5_why : GoodIn wsL_law wsX5_why := goodIn_r _ [445, 284, 285, 286, 5, 287, 263, 133, 134, 135, 136, 137, 396, 397, 398, 399, 79, 80, 83, 73, 81, 74, 77, 78, 579, 580, 581, 582, 583, 584, 585, 586, 587, 588, 589, 590, 591, 592, 593, 594, 595, 596, 597, 598, 599, 600, 601, 602, 603] (by decide +kernel) (by decide +kernel)
set_option maxRecDepth 20000 in
theorem gL_law_X5_why : GoodIn wsL_law (wsV RL 127 RX5 yX5_why wsX5_why) := goodIn_app (goodIn_of _ (by decide +kernel)) ggL_law_X5_why
set_option maxRecDepth 20000 in
theorem ggL_law_L_canAny : GoodIn wsL_law wsL_canAny := goodIn_ca (goodIn_r _ [448, 101, 449, 450, 451, 2, 452, 106, 107, 25, 276, 277, 278, 24, 279, 258, 59, 453, 454, 455, 456, 253, 271, 34, 363, 364, 365, 366, 17, 16, 21, 367, 368, 369, 15, 370, 42, 371, 372, 373, 374, 43, 375, 376, 377, 340, 341, 342, 343, 55, 56, 57, 344, 345, 346, 347, 348, 349, 350, 351, 183, 184, 378, 379, 380, 20, 381, 382, 48, 383, 49, 567, 568, 569, 570, 571, 572, 573, 574, 575, 576, 577, 578, 608, 609, 610, 611, 612, 613, 614, 604, 605, 606, 607] (by decide +kernel) (by decide +kernel)) (goodIn_sub (fun _ h => List.mem_append_left _ (List.mem_append_left _ (List.mem_append_right _ h))) (by decide +kernel))
set_option maxRecDepth 20000 in
theorem gL_law_L_canAny : GoodIn wsL_law (va_wsS RL 128 yL_canAny wsL_canAny) := goodIn_app (goodIn_of _ (by decide +kernel)) ggL_law_L_canAny
set_option maxRecDepth 20000 in
theorem ggL_law_X5_canAny : GoodIn wsL_law wsX5_canAny := goodIn_r _ [460, 288, 289, 290, 5, 291, 263, 83, 133, 134, 135, 136, 137, 461, 462, 463, 464, 404, 405, 406, 407, 81, 73, 79, 80, 77, 420, 421, 422, 423, 74, 78, 579, 580, 581, 582, 583, 584, 585, 586, 587, 588, 589, 590, 591, 592, 593, 594, 595, 596, 597, 598, 599, 600, 601, 602, 603] (by decide +kernel) (by decide +kernel)
set_option maxRecDepth 20000 in
theorem gL_law_X5_canAny : GoodIn wsL_law (wsV RL 131 RX5 yX5_canAny wsX5_canAny) := goodIn_app (goodIn_of _ (by decide +kernel)) ggL_law_X5_canAny
set_option maxRecDepth 20000 in
theorem ggL_law_L_setPrice : GoodIn wsL_law wsL_setPrice := goodIn_ca (goodIn_r _ [467, 100, 468, 469, 470, 2, 471, 36, 37, 116, 117, 118, 119, 120, 567, 568, 569, 570, 571, 572, 573, 574, 575, 576, 577, 578] (by decide +kernel) (by decide +kernel)) (goodIn_sub (fun _ h => List.mem_append_right _ h) (by decide +kernel))
set_option maxRecDepth 20000 in
theorem gL_law_L_setPrice : GoodIn wsL_law (va_wsS RL 132 yL_setPrice wsL_setPrice) := goodIn_app (goodIn_of _ (by decide +kernel)) ggL_law_L_setPrice
set_option maxRecDepth 20000 in
theorem ggL_law_X5_setPrice : GoodIn wsL_law wsX5_setPrice := goodIn_r _ [475, 92, 93, 138, 139, 5, 140, 133, 134, 135, 136, 137, 579, 580, 581, 582, 583, 584, 585, 586, 587, 588, 589, 590, 591, 592, 593, 594, 595, 596, 597, 598, 599, 600, 601, 602, 603] (by decide +kernel) (by decide +kernel)
set_option maxRecDepth 20000 in
theorem gL_law_X5_setPrice : GoodIn wsL_law (wsV RL 135 RX5 yX5_setPrice wsX5_setPrice) := goodIn_app (goodIn_of _ (by decide +kernel)) ggL_law_X5_setPrice
set_option maxRecDepth 20000 in
theorem ggL_law_L_lend : GoodIn wsL_law wsL_lend := goodIn_ca (goodIn_ca (goodIn_ca (goodIn_r _ [478, 99, 100, 101, 479, 480, 481, 2, 482, 196, 16, 33, 29, 111, 112, 113, 114, 115, 179, 180, 181, 119, 120, 116, 117, 118, 121, 122, 123, 124, 106, 107, 31, 483, 484, 485, 486, 487, 109, 21, 161, 488, 489, 490, 491, 36, 37, 492, 345, 346, 15, 347, 42, 493, 494, 495, 28, 496, 497, 65, 66, 67, 68, 567, 568, 569, 570, 571, 572, 573, 574, 575, 576, 577, 578, 615, 616, 617, 618, 619, 620, 604, 605, 606, 607] (by decide +kernel) (by decide +kernel)) (goodIn_sub (fun _ h => List.mem_append_left _ (List.mem_append_right _ h)) (by decide +kernel))) (goodIn_sub (fun _ h => List.mem_append_right _ h) (by decide +kernel))) (goodIn_sub (fun _ h => List.mem_append_left _ (List.mem_append_left _ (List.mem_append_right _ h))) (by decide +kernel))
set_option maxRecDepth 20000 in
theorem gL_law_L_lend : GoodIn wsL_law (va_wsS RL 136 yL_lend wsL_lend) := goodIn_app (goodIn_of _ (by decide +kernel)) ggL_law_L_lend
set_option maxRecDepth 20000 in
theorem ggL_law_X5_lend : GoodIn wsL_law wsX5_lend := goodIn_r _ [501, 201, 92, 93, 502, 76, 503, 75, 73, 74, 86, 87, 88, 89, 90, 91, 130, 131, 5, 132, 133, 134, 135, 136, 137, 138, 139, 140, 141, 142, 143, 144, 579, 580, 581, 582, 583, 584, 585, 586, 587, 588, 589, 590, 591, 592, 593, 594, 595, 596, 597, 598, 599, 600, 601, 602, 603] (by decide +kernel) (by decide +kernel)
set_option maxRecDepth 20000 in
theorem gL_law_X5_lend : GoodIn wsL_law (wsV RL 139 RX5 yX5_lend wsX5_lend) := goodIn_app (goodIn_of _ (by decide +kernel)) ggL_law_X5_lend
set_option maxRecDepth 20000 in
theorem ggL_law_X4_loans : GoodIn wsL_law wsX4_loans := goodIn_r _ [507, 29, 487, 508, 567, 568, 569, 570, 571, 572, 573, 574, 575, 576, 577, 578, 615, 616, 617, 618, 619, 620] (by decide +kernel) (by decide +kernel)
set_option maxRecDepth 20000 in
theorem gL_law_X4_loans : GoodIn wsL_law (wsV RL 140 RX4 yX4_loans wsX4_loans) := goodIn_app (goodIn_of _ (by decide +kernel)) ggL_law_X4_loans
set_option maxRecDepth 20000 in
theorem ggL_law_X5_loans : GoodIn wsL_law wsX5_loans := goodIn_r _ [512, 137, 503, 91, 579, 580, 581, 582, 583, 584, 585, 586, 587, 588, 589, 590, 591, 592, 593, 594, 595, 596, 597, 598, 599, 600, 601, 602, 603] (by decide +kernel) (by decide +kernel)
set_option maxRecDepth 20000 in
theorem gL_law_X5_loans : GoodIn wsL_law (wsV RL 143 RX5 yX5_loans wsX5_loans) := goodIn_app (goodIn_of _ (by decide +kernel)) ggL_law_X5_loans
set_option maxRecDepth 20000 in
theorem ggL_law_X4_morning : GoodIn wsL_law wsX4_morning := goodIn_r _ [516, 16, 29, 508, 487, 517, 518, 519, 520, 15, 521, 43, 522, 523, 524, 2, 525, 31, 109, 526, 21, 161, 527, 528, 529, 530, 531, 33, 532, 492, 345, 346, 347, 42, 533, 534, 535, 536, 25, 537, 538, 539, 24, 540, 258, 55, 56, 59, 541, 542, 543, 544, 36, 157, 158, 159, 160, 545, 567, 568, 569, 570, 571, 572, 573, 574, 575, 576, 577, 578, 615, 616, 617, 618, 619, 620, 604, 605, 606, 607, 608, 609, 610, 611, 612, 613, 614] (by decide +kernel) (by decide +kernel)
set_option maxRecDepth 20000 in
theorem gL_law_X4_morning : GoodIn wsL_law (wsV RL 144 RX4 yX4_morning wsX4_morning) := goodIn_app (goodIn_of _ (by decide +kernel)) ggL_law_X4_morning
set_option maxRecDepth 20000 in
theorem ggL_law_X5_morning : GoodIn wsL_law wsX5_morning := goodIn_r _ [549, 137, 77, 503, 91, 550, 551, 552, 5, 553, 87, 88, 89, 76, 73, 74, 86, 75, 90, 92, 554, 555, 556, 557, 558, 263, 83, 79, 80, 579, 580, 581, 582, 583, 584, 585, 586, 587, 588, 589, 590, 591, 592, 593, 594, 595, 596, 597, 598, 599, 600, 601, 602, 603] (by decide +kernel) (by decide +kernel)
set_option maxRecDepth 20000 in
theorem gL_law_X5_morning : GoodIn wsL_law (wsV RL 147 RX5 yX5_morning wsX5_morning) := goodIn_app (goodIn_of _ (by decide +kernel)) ggL_law_X5_morning
set_option maxRecDepth 20000 in
theorem ggL_law_X4_sold : GoodIn wsL_law wsX4_sold := goodIn_r _ [562, 545, 567, 568, 569, 570, 571, 572, 573, 574, 575, 576, 577, 578] (by decide +kernel) (by decide +kernel)
set_option maxRecDepth 20000 in
theorem gL_law_X4_sold : GoodIn wsL_law (wsV RL 148 RX4 yX4_sold wsX4_sold) := goodIn_app (goodIn_of _ (by decide +kernel)) ggL_law_X4_sold
set_option maxRecDepth 20000 in
theorem ggL_law_X5_sold : GoodIn wsL_law wsX5_sold := goodIn_r _ [566, 137, 554, 579, 580, 581, 582, 583, 584, 585, 586, 587, 588, 589, 590, 591, 592, 593, 594, 595, 596, 597, 598, 599, 600, 601, 602, 603] (by decide +kernel) (by decide +kernel)
set_option maxRecDepth 20000 in
theorem gL_law_X5_sold : GoodIn wsL_law (wsV RL 151 RX5 yX5_sold wsX5_sold) := goodIn_app (goodIn_of _ (by decide +kernel)) ggL_law_X5_sold
