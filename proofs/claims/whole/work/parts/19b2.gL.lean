set_option maxRecDepth 20000 in
theorem ggL_law_X3_patience : GoodIn wsL_law wsX3_patience := goodIn_r _ [234, 74, 156, 157, 158, 5, 159, 117, 572, 573, 574, 575, 576, 577, 578, 579, 580, 581, 582, 583, 584, 585, 586, 587, 588, 589, 590, 591, 592, 593, 594, 595, 596, 597, 598, 599, 600, 601] (by decide +kernel) (by decide +kernel)
set_option maxRecDepth 20000 in
theorem gL_law_X3_patience : GoodIn wsL_law (wsV RL 107 RX3 yX3_patience wsX3_patience) := goodIn_app (goodIn_of _ (by decide +kernel)) ggL_law_X3_patience
set_option maxRecDepth 20000 in
theorem ggL_law_L_bound : GoodIn wsL_law wsL_bound := goodIn_ca (goodIn_r _ [237, 85, 238, 239, 240, 2, 241, 28, 94, 95, 96, 97, 98, 559, 560, 561, 562, 563, 564, 565, 566, 567, 568, 569, 570, 571] (by decide +kernel) (by decide +kernel)) (goodIn_sub (fun _ h => List.mem_append_left _ (List.mem_append_right _ h)) (by decide +kernel))
set_option maxRecDepth 20000 in
theorem gL_law_L_bound : GoodIn wsL_law (va_wsS RL 108 yL_bound wsL_bound) := goodIn_app (goodIn_of _ (by decide +kernel)) ggL_law_L_bound
set_option maxRecDepth 20000 in
theorem ggL_law_X3_bound : GoodIn wsL_law wsX3_bound := goodIn_r _ [245, 75, 156, 157, 158, 5, 159, 117, 572, 573, 574, 575, 576, 577, 578, 579, 580, 581, 582, 583, 584, 585, 586, 587, 588, 589, 590, 591, 592, 593, 594, 595, 596, 597, 598, 599, 600, 601] (by decide +kernel) (by decide +kernel)
set_option maxRecDepth 20000 in
theorem gL_law_X3_bound : GoodIn wsL_law (wsV RL 110 RX3 yX3_bound wsX3_bound) := goodIn_app (goodIn_of _ (by decide +kernel)) ggL_law_X3_bound
set_option maxRecDepth 20000 in
theorem ggL_law_L_tick : GoodIn wsL_law wsL_tick := goodIn_ca (goodIn_r _ [248, 85, 249, 250, 251, 2, 252, 253, 94, 95, 96, 97, 98, 254, 255, 256, 257, 258, 16, 141, 142, 259, 28, 260, 261, 262, 15, 263, 103, 42, 187, 44, 264, 265, 266, 267, 35, 268, 269, 270, 271, 41, 40, 272, 273, 274, 275, 32, 38, 276, 277, 278, 279, 33, 39, 280, 281, 282, 283, 37, 34, 284, 285, 286, 287, 288, 289, 290, 291, 292, 293, 294, 295, 296, 297, 298, 299, 300, 24, 143, 144, 145, 146, 22, 23, 301, 302, 303, 304, 26, 27, 305, 306, 307, 308, 25, 309, 559, 560, 561, 562, 563, 564, 565, 566, 567, 568, 569, 570, 571, 602, 603, 604, 605, 606, 607, 608, 609, 610, 611, 612, 613, 614] (by decide +kernel) (by decide +kernel)) (goodIn_sub (fun _ h => List.mem_append_left _ (List.mem_append_right _ h)) (by decide +kernel))
set_option maxRecDepth 20000 in
theorem gL_law_L_tick : GoodIn wsL_law (va_wsS RL 111 yL_tick wsL_tick) := goodIn_app (goodIn_of _ (by decide +kernel)) ggL_law_L_tick
set_option maxRecDepth 20000 in
theorem ggL_law_X3_tick : GoodIn wsL_law wsX3_tick := goodIn_r _ [313, 314, 315, 151, 156, 157, 158, 5, 159, 117, 316, 317, 318, 319, 108, 76, 320, 321, 322, 323, 63, 324, 325, 326, 327, 68, 67, 328, 329, 330, 331, 75, 71, 332, 73, 69, 70, 74, 333, 334, 335, 336, 64, 337, 338, 339, 340, 62, 341, 342, 343, 344, 60, 65, 61, 66, 160, 161, 162, 163, 345, 346, 347, 348, 349, 72, 572, 573, 574, 575, 576, 577, 578, 579, 580, 581, 582, 583, 584, 585, 586, 587, 588, 589, 590, 591, 592, 593, 594, 595, 596, 597, 598, 599, 600, 601] (by decide +kernel) (by decide +kernel)
set_option maxRecDepth 20000 in
theorem gL_law_X3_tick : GoodIn wsL_law (wsV RL 113 RX3 yX3_tick wsX3_tick) := goodIn_app (goodIn_of _ (by decide +kernel)) ggL_law_X3_tick
set_option maxRecDepth 20000 in
theorem ggL_law_X2_ticks : GoodIn wsL_law wsX2_ticks := goodIn_r _ [353, 258, 559, 560, 561, 562, 563, 564, 565, 566, 567, 568, 569, 570, 571] (by decide +kernel) (by decide +kernel)
set_option maxRecDepth 20000 in
theorem gL_law_X2_ticks : GoodIn wsL_law (wsV RL 114 RX2 yX2_ticks wsX2_ticks) := goodIn_app (goodIn_of _ (by decide +kernel)) ggL_law_X2_ticks
set_option maxRecDepth 20000 in
theorem ggL_law_X3_ticks : GoodIn wsL_law wsX3_ticks := goodIn_r _ [357, 117, 315, 572, 573, 574, 575, 576, 577, 578, 579, 580, 581, 582, 583, 584, 585, 586, 587, 588, 589, 590, 591, 592, 593, 594, 595, 596, 597, 598, 599, 600, 601] (by decide +kernel) (by decide +kernel)
set_option maxRecDepth 20000 in
theorem gL_law_X3_ticks : GoodIn wsL_law (wsV RL 117 RX3 yX3_ticks wsX3_ticks) := goodIn_app (goodIn_of _ (by decide +kernel)) ggL_law_X3_ticks
set_option maxRecDepth 20000 in
theorem ggL_law_X2_cells : GoodIn wsL_law wsX2_cells := goodIn_r _ [361, 16, 93, 559, 560, 561, 562, 563, 564, 565, 566, 567, 568, 569, 570, 571, 602, 603, 604, 605, 606, 607, 608, 609, 610, 611, 612, 613, 614] (by decide +kernel) (by decide +kernel)
set_option maxRecDepth 20000 in
theorem gL_law_X2_cells : GoodIn wsL_law (wsV RL 118 RX2 yX2_cells wsX2_cells) := goodIn_app (goodIn_of _ (by decide +kernel)) ggL_law_X2_cells
set_option maxRecDepth 20000 in
theorem ggL_law_X3_cells : GoodIn wsL_law wsX3_cells := goodIn_r _ [365, 117, 108, 572, 573, 574, 575, 576, 577, 578, 579, 580, 581, 582, 583, 584, 585, 586, 587, 588, 589, 590, 591, 592, 593, 594, 595, 596, 597, 598, 599, 600, 601] (by decide +kernel) (by decide +kernel)
set_option maxRecDepth 20000 in
theorem gL_law_X3_cells : GoodIn wsL_law (wsV RL 121 RX3 yX3_cells wsX3_cells) := goodIn_app (goodIn_of _ (by decide +kernel)) ggL_law_X3_cells
set_option maxRecDepth 20000 in
theorem ggL_law_X2_walkers : GoodIn wsL_law wsX2_walkers := goodIn_r _ [369, 16, 141, 559, 560, 561, 562, 563, 564, 565, 566, 567, 568, 569, 570, 571, 602, 603, 604, 605, 606, 607, 608, 609, 610, 611, 612, 613, 614] (by decide +kernel) (by decide +kernel)
set_option maxRecDepth 20000 in
theorem gL_law_X2_walkers : GoodIn wsL_law (wsV RL 122 RX2 yX2_walkers wsX2_walkers) := goodIn_app (goodIn_of _ (by decide +kernel)) ggL_law_X2_walkers
set_option maxRecDepth 20000 in
theorem ggL_law_X3_walkers : GoodIn wsL_law wsX3_walkers := goodIn_r _ [373, 117, 151, 572, 573, 574, 575, 576, 577, 578, 579, 580, 581, 582, 583, 584, 585, 586, 587, 588, 589, 590, 591, 592, 593, 594, 595, 596, 597, 598, 599, 600, 601] (by decide +kernel) (by decide +kernel)
set_option maxRecDepth 20000 in
theorem gL_law_X3_walkers : GoodIn wsL_law (wsV RL 125 RX3 yX3_walkers wsX3_walkers) := goodIn_app (goodIn_of _ (by decide +kernel)) ggL_law_X3_walkers
set_option maxRecDepth 20000 in
theorem ggL_law_L_signal : GoodIn wsL_law wsL_signal := goodIn_ca (goodIn_r _ [376, 125, 377, 378, 379, 2, 380, 16, 131, 132, 133, 134, 135, 136, 93, 201, 202, 203, 204, 141, 381, 273, 274, 15, 275, 32, 38, 276, 277, 278, 279, 33, 39, 559, 560, 561, 562, 563, 564, 565, 566, 567, 568, 569, 570, 571, 602, 603, 604, 605, 606, 607, 608, 609, 610, 611, 612, 613, 614] (by decide +kernel) (by decide +kernel)) (goodIn_sub (fun _ h => List.mem_append_right _ h) (by decide +kernel))
set_option maxRecDepth 20000 in
theorem gL_law_L_signal : GoodIn wsL_law (va_wsS RL 126 yL_signal wsL_signal) := goodIn_app (goodIn_of _ (by decide +kernel)) ggL_law_L_signal
set_option maxRecDepth 20000 in
theorem ggL_law_X3_signal : GoodIn wsL_law wsX3_signal := goodIn_r _ [385, 152, 153, 154, 5, 155, 108, 209, 210, 211, 212, 151, 156, 157, 158, 159, 117, 341, 342, 343, 344, 60, 65, 61, 66, 572, 573, 574, 575, 576, 577, 578, 579, 580, 581, 582, 583, 584, 585, 586, 587, 588, 589, 590, 591, 592, 593, 594, 595, 596, 597, 598, 599, 600, 601] (by decide +kernel) (by decide +kernel)
set_option maxRecDepth 20000 in
theorem gL_law_X3_signal : GoodIn wsL_law (wsV RL 128 RX3 yX3_signal wsX3_signal) := goodIn_app (goodIn_of _ (by decide +kernel)) ggL_law_X3_signal
set_option maxRecDepth 20000 in
theorem ggL_law_L_quality : GoodIn wsL_law wsL_quality := goodIn_ca (goodIn_r _ [388, 125, 389, 390, 391, 2, 392, 16, 259, 131, 132, 133, 134, 135, 136, 93, 201, 202, 203, 204, 141, 260, 261, 262, 15, 263, 103, 42, 187, 44, 264, 265, 266, 267, 35, 268, 269, 270, 271, 41, 40, 272, 273, 274, 275, 32, 38, 276, 277, 278, 279, 33, 39, 280, 281, 282, 283, 37, 34, 559, 560, 561, 562, 563, 564, 565, 566, 567, 568, 569, 570, 571, 602, 603, 604, 605, 606, 607, 608, 609, 610, 611, 612, 613, 614] (by decide +kernel) (by decide +kernel)) (goodIn_sub (fun _ h => List.mem_append_right _ h) (by decide +kernel))
set_option maxRecDepth 20000 in
theorem gL_law_L_quality : GoodIn wsL_law (va_wsS RL 129 yL_quality wsL_quality) := goodIn_app (goodIn_of _ (by decide +kernel)) ggL_law_L_quality
set_option maxRecDepth 20000 in
theorem ggL_law_X3_quality : GoodIn wsL_law wsX3_quality := goodIn_r _ [396, 152, 153, 154, 5, 155, 108, 209, 210, 211, 212, 151, 156, 157, 158, 159, 117, 316, 317, 318, 319, 76, 320, 321, 322, 323, 63, 324, 325, 326, 327, 68, 67, 337, 338, 339, 340, 64, 62, 341, 342, 343, 344, 60, 65, 61, 66, 572, 573, 574, 575, 576, 577, 578, 579, 580, 581, 582, 583, 584, 585, 586, 587, 588, 589, 590, 591, 592, 593, 594, 595, 596, 597, 598, 599, 600, 601] (by decide +kernel) (by decide +kernel)
set_option maxRecDepth 20000 in
theorem gL_law_X3_quality : GoodIn wsL_law (wsV RL 131 RX3 yX3_quality wsX3_quality) := goodIn_app (goodIn_of _ (by decide +kernel)) ggL_law_X3_quality
set_option maxRecDepth 20000 in
theorem ggL_law_L_load : GoodIn wsL_law wsL_load := goodIn_ca (goodIn_r _ [399, 125, 400, 401, 402, 2, 403, 16, 131, 132, 133, 134, 135, 136, 93, 404, 269, 270, 15, 271, 187, 41, 40, 559, 560, 561, 562, 563, 564, 565, 566, 567, 568, 569, 570, 571, 602, 603, 604, 605, 606, 607, 608, 609, 610, 611, 612, 613, 614] (by decide +kernel) (by decide +kernel)) (goodIn_sub (fun _ h => List.mem_append_right _ h) (by decide +kernel))
set_option maxRecDepth 20000 in
theorem gL_law_L_load : GoodIn wsL_law (va_wsS RL 132 yL_load wsL_load) := goodIn_app (goodIn_of _ (by decide +kernel)) ggL_law_L_load
set_option maxRecDepth 20000 in
theorem ggL_law_X3_load : GoodIn wsL_law wsX3_load := goodIn_r _ [408, 152, 153, 154, 5, 155, 108, 156, 157, 158, 159, 117, 324, 325, 326, 327, 151, 68, 67, 572, 573, 574, 575, 576, 577, 578, 579, 580, 581, 582, 583, 584, 585, 586, 587, 588, 589, 590, 591, 592, 593, 594, 595, 596, 597, 598, 599, 600, 601] (by decide +kernel) (by decide +kernel)
set_option maxRecDepth 20000 in
theorem gL_law_X3_load : GoodIn wsL_law (wsV RL 134 RX3 yX3_load wsX3_load) := goodIn_app (goodIn_of _ (by decide +kernel)) ggL_law_X3_load
set_option maxRecDepth 20000 in
theorem ggL_law_L_use : GoodIn wsL_law wsL_use := goodIn_ca (goodIn_r _ [411, 125, 412, 413, 414, 2, 415, 16, 131, 132, 133, 134, 135, 136, 93, 416, 265, 266, 15, 267, 35, 268, 269, 270, 271, 187, 41, 40, 559, 560, 561, 562, 563, 564, 565, 566, 567, 568, 569, 570, 571, 602, 603, 604, 605, 606, 607, 608, 609, 610, 611, 612, 613, 614] (by decide +kernel) (by decide +kernel)) (goodIn_sub (fun _ h => List.mem_append_right _ h) (by decide +kernel))
set_option maxRecDepth 20000 in
theorem gL_law_L_use : GoodIn wsL_law (va_wsS RL 135 yL_use wsL_use) := goodIn_app (goodIn_of _ (by decide +kernel)) ggL_law_L_use
set_option maxRecDepth 20000 in
theorem ggL_law_X3_use : GoodIn wsL_law wsX3_use := goodIn_r _ [420, 152, 153, 154, 5, 155, 108, 156, 157, 158, 159, 117, 320, 321, 322, 323, 63, 324, 325, 326, 327, 151, 68, 67, 572, 573, 574, 575, 576, 577, 578, 579, 580, 581, 582, 583, 584, 585, 586, 587, 588, 589, 590, 591, 592, 593, 594, 595, 596, 597, 598, 599, 600, 601] (by decide +kernel) (by decide +kernel)
set_option maxRecDepth 20000 in
theorem gL_law_X3_use : GoodIn wsL_law (wsV RL 137 RX3 yX3_use wsX3_use) := goodIn_app (goodIn_of _ (by decide +kernel)) ggL_law_X3_use
set_option maxRecDepth 20000 in
theorem ggL_law_L_servedBy : GoodIn wsL_law wsL_servedBy := goodIn_ca (goodIn_r _ [423, 125, 424, 425, 426, 2, 427, 16, 142, 201, 202, 203, 204, 135, 136, 141, 559, 560, 561, 562, 563, 564, 565, 566, 567, 568, 569, 570, 571, 602, 603, 604, 605, 606, 607, 608, 609, 610, 611, 612, 613, 614] (by decide +kernel) (by decide +kernel)) (goodIn_sub (fun _ h => List.mem_append_right _ h) (by decide +kernel))
set_option maxRecDepth 20000 in
theorem gL_law_L_servedBy : GoodIn wsL_law (va_wsS RL 138 yL_servedBy wsL_servedBy) := goodIn_app (goodIn_of _ (by decide +kernel)) ggL_law_L_servedBy
