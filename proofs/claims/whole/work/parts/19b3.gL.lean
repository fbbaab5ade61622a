set_option maxRecDepth 20000 in
theorem ggL_law_X3_servedBy : GoodIn wsL_law wsX3_servedBy := goodIn_r _ [431, 68, 209, 210, 211, 5, 212, 151, 156, 157, 158, 159, 117, 572, 573, 574, 575, 576, 577, 578, 579, 580, 581, 582, 583, 584, 585, 586, 587, 588, 589, 590, 591, 592, 593, 594, 595, 596, 597, 598, 599, 600, 601] (by decide +kernel) (by decide +kernel)
set_option maxRecDepth 20000 in
theorem gL_law_X3_servedBy : GoodIn wsL_law (wsV RL 140 RX3 yX3_servedBy wsX3_servedBy) := goodIn_app (goodIn_of _ (by decide +kernel)) ggL_law_X3_servedBy
set_option maxRecDepth 20000 in
theorem ggL_law_L_favourite : GoodIn wsL_law wsL_favourite := goodIn_ca (goodIn_r _ [434, 125, 435, 436, 437, 2, 438, 22, 201, 202, 203, 204, 135, 136, 16, 141, 559, 560, 561, 562, 563, 564, 565, 566, 567, 568, 569, 570, 571, 602, 603, 604, 605, 606, 607, 608, 609, 610, 611, 612, 613, 614] (by decide +kernel) (by decide +kernel)) (goodIn_sub (fun _ h => List.mem_append_right _ h) (by decide +kernel))
set_option maxRecDepth 20000 in
theorem gL_law_L_favourite : GoodIn wsL_law (va_wsS RL 141 yL_favourite wsL_favourite) := goodIn_app (goodIn_of _ (by decide +kernel)) ggL_law_L_favourite
set_option maxRecDepth 20000 in
theorem ggL_law_X3_favourite : GoodIn wsL_law wsX3_favourite := goodIn_r _ [442, 69, 209, 210, 211, 5, 212, 151, 156, 157, 158, 159, 117, 572, 573, 574, 575, 576, 577, 578, 579, 580, 581, 582, 583, 584, 585, 586, 587, 588, 589, 590, 591, 592, 593, 594, 595, 596, 597, 598, 599, 600, 601] (by decide +kernel) (by decide +kernel)
set_option maxRecDepth 20000 in
theorem gL_law_X3_favourite : GoodIn wsL_law (wsV RL 143 RX3 yX3_favourite wsX3_favourite) := goodIn_app (goodIn_of _ (by decide +kernel)) ggL_law_X3_favourite
set_option maxRecDepth 20000 in
theorem ggL_law_L_heldFor : GoodIn wsL_law wsL_heldFor := goodIn_ca (goodIn_r _ [445, 125, 446, 447, 448, 2, 449, 23, 201, 202, 203, 204, 135, 136, 16, 141, 559, 560, 561, 562, 563, 564, 565, 566, 567, 568, 569, 570, 571, 602, 603, 604, 605, 606, 607, 608, 609, 610, 611, 612, 613, 614] (by decide +kernel) (by decide +kernel)) (goodIn_sub (fun _ h => List.mem_append_right _ h) (by decide +kernel))
set_option maxRecDepth 20000 in
theorem gL_law_L_heldFor : GoodIn wsL_law (va_wsS RL 144 yL_heldFor wsL_heldFor) := goodIn_app (goodIn_of _ (by decide +kernel)) ggL_law_L_heldFor
set_option maxRecDepth 20000 in
theorem ggL_law_X3_heldFor : GoodIn wsL_law wsX3_heldFor := goodIn_r _ [453, 70, 209, 210, 211, 5, 212, 151, 156, 157, 158, 159, 117, 572, 573, 574, 575, 576, 577, 578, 579, 580, 581, 582, 583, 584, 585, 586, 587, 588, 589, 590, 591, 592, 593, 594, 595, 596, 597, 598, 599, 600, 601] (by decide +kernel) (by decide +kernel)
set_option maxRecDepth 20000 in
theorem gL_law_X3_heldFor : GoodIn wsL_law (wsV RL 146 RX3 yX3_heldFor wsX3_heldFor) := goodIn_app (goodIn_of _ (by decide +kernel)) ggL_law_X3_heldFor
set_option maxRecDepth 20000 in
theorem ggL_law_X2_handovers : GoodIn wsL_law wsX2_handovers := goodIn_r _ [457, 253, 559, 560, 561, 562, 563, 564, 565, 566, 567, 568, 569, 570, 571] (by decide +kernel) (by decide +kernel)
set_option maxRecDepth 20000 in
theorem gL_law_X2_handovers : GoodIn wsL_law (wsV RL 147 RX2 yX2_handovers wsX2_handovers) := goodIn_app (goodIn_of _ (by decide +kernel)) ggL_law_X2_handovers
set_option maxRecDepth 20000 in
theorem ggL_law_X3_handovers : GoodIn wsL_law wsX3_handovers := goodIn_r _ [461, 117, 314, 572, 573, 574, 575, 576, 577, 578, 579, 580, 581, 582, 583, 584, 585, 586, 587, 588, 589, 590, 591, 592, 593, 594, 595, 596, 597, 598, 599, 600, 601] (by decide +kernel) (by decide +kernel)
set_option maxRecDepth 20000 in
theorem gL_law_X3_handovers : GoodIn wsL_law (wsV RL 150 RX3 yX3_handovers wsX3_handovers) := goodIn_app (goodIn_of _ (by decide +kernel)) ggL_law_X3_handovers
set_option maxRecDepth 20000 in
theorem ggL_law_X2_rings : GoodIn wsL_law wsX2_rings := goodIn_r _ [465, 309, 559, 560, 561, 562, 563, 564, 565, 566, 567, 568, 569, 570, 571] (by decide +kernel) (by decide +kernel)
set_option maxRecDepth 20000 in
theorem gL_law_X2_rings : GoodIn wsL_law (wsV RL 151 RX2 yX2_rings wsX2_rings) := goodIn_app (goodIn_of _ (by decide +kernel)) ggL_law_X2_rings
set_option maxRecDepth 20000 in
theorem ggL_law_X3_rings : GoodIn wsL_law wsX3_rings := goodIn_r _ [469, 117, 349, 572, 573, 574, 575, 576, 577, 578, 579, 580, 581, 582, 583, 584, 585, 586, 587, 588, 589, 590, 591, 592, 593, 594, 595, 596, 597, 598, 599, 600, 601] (by decide +kernel) (by decide +kernel)
set_option maxRecDepth 20000 in
theorem gL_law_X3_rings : GoodIn wsL_law (wsV RL 154 RX3 yX3_rings wsX3_rings) := goodIn_app (goodIn_of _ (by decide +kernel)) ggL_law_X3_rings
set_option maxRecDepth 20000 in
theorem ggL_law_X2_losses : GoodIn wsL_law wsX2_losses := goodIn_r _ [473, 300, 559, 560, 561, 562, 563, 564, 565, 566, 567, 568, 569, 570, 571] (by decide +kernel) (by decide +kernel)
set_option maxRecDepth 20000 in
theorem gL_law_X2_losses : GoodIn wsL_law (wsV RL 155 RX2 yX2_losses wsX2_losses) := goodIn_app (goodIn_of _ (by decide +kernel)) ggL_law_X2_losses
set_option maxRecDepth 20000 in
theorem ggL_law_X3_losses : GoodIn wsL_law wsX3_losses := goodIn_r _ [477, 117, 332, 572, 573, 574, 575, 576, 577, 578, 579, 580, 581, 582, 583, 584, 585, 586, 587, 588, 589, 590, 591, 592, 593, 594, 595, 596, 597, 598, 599, 600, 601] (by decide +kernel) (by decide +kernel)
set_option maxRecDepth 20000 in
theorem gL_law_X3_losses : GoodIn wsL_law (wsV RL 158 RX3 yX3_losses wsX3_losses) := goodIn_app (goodIn_of _ (by decide +kernel)) ggL_law_X3_losses
set_option maxRecDepth 20000 in
theorem ggL_law_X2_unserved : GoodIn wsL_law wsX2_unserved := goodIn_r _ [481, 16, 141, 142, 559, 560, 561, 562, 563, 564, 565, 566, 567, 568, 569, 570, 571, 602, 603, 604, 605, 606, 607, 608, 609, 610, 611, 612, 613, 614] (by decide +kernel) (by decide +kernel)
set_option maxRecDepth 20000 in
theorem gL_law_X2_unserved : GoodIn wsL_law (wsV RL 159 RX2 yX2_unserved wsX2_unserved) := goodIn_app (goodIn_of _ (by decide +kernel)) ggL_law_X2_unserved
set_option maxRecDepth 20000 in
theorem ggL_law_X3_unserved : GoodIn wsL_law wsX3_unserved := goodIn_r _ [485, 117, 151, 68, 572, 573, 574, 575, 576, 577, 578, 579, 580, 581, 582, 583, 584, 585, 586, 587, 588, 589, 590, 591, 592, 593, 594, 595, 596, 597, 598, 599, 600, 601] (by decide +kernel) (by decide +kernel)
set_option maxRecDepth 20000 in
theorem gL_law_X3_unserved : GoodIn wsL_law (wsV RL 162 RX3 yX3_unserved wsX3_unserved) := goodIn_app (goodIn_of _ (by decide +kernel)) ggL_law_X3_unserved
set_option maxRecDepth 20000 in
theorem ggL_law_X2_mostServed : GoodIn wsL_law wsX2_mostServed := goodIn_r _ [489, 20, 28, 490, 491, 492, 19, 493, 55, 51, 494, 495, 496, 52, 497, 498, 499, 500, 501, 502, 503, 261, 262, 15, 263, 103, 42, 187, 44, 264, 265, 266, 267, 35, 268, 269, 270, 271, 41, 40, 272, 273, 274, 275, 32, 38, 276, 277, 278, 279, 33, 39, 280, 281, 282, 283, 37, 34, 504, 505, 506, 507, 508, 509, 50, 510, 511, 512, 513, 514, 515, 53, 516, 517, 518, 519, 54, 559, 560, 561, 562, 563, 564, 565, 566, 567, 568, 569, 570, 571, 615, 616, 617, 618, 619, 620, 621, 602, 603, 604, 605, 606, 607, 608, 609, 610, 611, 612, 613, 614] (by decide +kernel) (by decide +kernel)
set_option maxRecDepth 20000 in
theorem gL_law_X2_mostServed : GoodIn wsL_law (wsV RL 163 RX2 yX2_mostServed wsX2_mostServed) := goodIn_app (goodIn_of _ (by decide +kernel)) ggL_law_X2_mostServed
set_option maxRecDepth 20000 in
theorem ggL_law_X3_mostServed : GoodIn wsL_law wsX3_mostServed := goodIn_r _ [523, 117, 524, 525, 526, 527, 5, 528, 151, 77, 78, 108, 80, 529, 67, 316, 317, 318, 319, 76, 320, 321, 322, 323, 63, 324, 325, 326, 327, 68, 337, 338, 339, 340, 64, 62, 341, 342, 343, 344, 60, 65, 61, 66, 530, 531, 532, 533, 79, 75, 534, 535, 536, 537, 572, 573, 574, 575, 576, 577, 578, 579, 580, 581, 582, 583, 584, 585, 586, 587, 588, 589, 590, 591, 592, 593, 594, 595, 596, 597, 598, 599, 600, 601] (by decide +kernel) (by decide +kernel)
set_option maxRecDepth 20000 in
theorem gL_law_X3_mostServed : GoodIn wsL_law (wsV RL 166 RX3 yX3_mostServed wsX3_mostServed) := goodIn_app (goodIn_of _ (by decide +kernel)) ggL_law_X3_mostServed
set_option maxRecDepth 20000 in
theorem ggL_law_X2_mostDemand : GoodIn wsL_law wsX2_mostDemand := goodIn_r _ [541, 20, 28, 490, 491, 492, 19, 493, 55, 51, 494, 495, 496, 52, 497, 498, 499, 500, 501, 502, 503, 261, 262, 15, 263, 103, 42, 187, 44, 264, 265, 266, 267, 35, 268, 269, 270, 271, 41, 40, 272, 273, 274, 275, 32, 38, 276, 277, 278, 279, 33, 39, 280, 281, 282, 283, 37, 34, 504, 505, 506, 507, 508, 509, 50, 510, 511, 512, 513, 514, 515, 53, 516, 517, 518, 519, 54, 559, 560, 561, 562, 563, 564, 565, 566, 567, 568, 569, 570, 571, 615, 616, 617, 618, 619, 620, 621, 602, 603, 604, 605, 606, 607, 608, 609, 610, 611, 612, 613, 614] (by decide +kernel) (by decide +kernel)
set_option maxRecDepth 20000 in
theorem gL_law_X2_mostDemand : GoodIn wsL_law (wsV RL 167 RX2 yX2_mostDemand wsX2_mostDemand) := goodIn_app (goodIn_of _ (by decide +kernel)) ggL_law_X2_mostDemand
set_option maxRecDepth 20000 in
theorem ggL_law_X3_mostDemand : GoodIn wsL_law wsX3_mostDemand := goodIn_r _ [545, 117, 529, 525, 526, 527, 5, 528, 151, 77, 78, 108, 80, 524, 67, 316, 317, 318, 319, 76, 320, 321, 322, 323, 63, 324, 325, 326, 327, 68, 337, 338, 339, 340, 64, 62, 341, 342, 343, 344, 60, 65, 61, 66, 530, 531, 532, 533, 79, 75, 534, 535, 536, 537, 572, 573, 574, 575, 576, 577, 578, 579, 580, 581, 582, 583, 584, 585, 586, 587, 588, 589, 590, 591, 592, 593, 594, 595, 596, 597, 598, 599, 600, 601] (by decide +kernel) (by decide +kernel)
set_option maxRecDepth 20000 in
theorem gL_law_X3_mostDemand : GoodIn wsL_law (wsV RL 170 RX3 yX3_mostDemand wsX3_mostDemand) := goodIn_app (goodIn_of _ (by decide +kernel)) ggL_law_X3_mostDemand
set_option maxRecDepth 20000 in
theorem ggL_law_L_bestCell : GoodIn wsL_law wsL_bestCell := goodIn_ca (goodIn_r _ [548, 125, 549, 550, 551, 2, 552, 20, 28, 553, 554, 201, 202, 203, 204, 135, 136, 16, 141, 490, 491, 492, 19, 493, 55, 51, 494, 495, 496, 52, 497, 498, 499, 500, 501, 502, 503, 261, 262, 15, 263, 103, 42, 187, 44, 264, 265, 266, 267, 35, 268, 269, 270, 271, 41, 40, 272, 273, 274, 275, 32, 38, 276, 277, 278, 279, 33, 39, 280, 281, 282, 283, 37, 34, 504, 505, 506, 507, 508, 509, 50, 510, 511, 512, 513, 514, 515, 53, 516, 517, 518, 519, 54, 559, 560, 561, 562, 563, 564, 565, 566, 567, 568, 569, 570, 571, 615, 616, 617, 618, 619, 620, 621, 602, 603, 604, 605, 606, 607, 608, 609, 610, 611, 612, 613, 614] (by decide +kernel) (by decide +kernel)) (goodIn_sub (fun _ h => List.mem_append_right _ h) (by decide +kernel))
set_option maxRecDepth 20000 in
theorem gL_law_L_bestCell : GoodIn wsL_law (va_wsS RL 171 yL_bestCell wsL_bestCell) := goodIn_app (goodIn_of _ (by decide +kernel)) ggL_law_L_bestCell
set_option maxRecDepth 20000 in
theorem ggL_law_X3_bestCell : GoodIn wsL_law wsX3_bestCell := goodIn_r _ [558, 78, 108, 209, 210, 211, 5, 212, 151, 156, 157, 158, 159, 117, 525, 526, 527, 528, 77, 80, 524, 529, 67, 316, 317, 318, 319, 76, 320, 321, 322, 323, 63, 324, 325, 326, 327, 68, 337, 338, 339, 340, 64, 62, 341, 342, 343, 344, 60, 65, 61, 66, 530, 531, 532, 533, 79, 75, 534, 535, 536, 537, 572, 573, 574, 575, 576, 577, 578, 579, 580, 581, 582, 583, 584, 585, 586, 587, 588, 589, 590, 591, 592, 593, 594, 595, 596, 597, 598, 599, 600, 601] (by decide +kernel) (by decide +kernel)
set_option maxRecDepth 20000 in
theorem gL_law_X3_bestCell : GoodIn wsL_law (wsV RL 173 RX3 yX3_bestCell wsX3_bestCell) := goodIn_app (goodIn_of _ (by decide +kernel)) ggL_law_X3_bestCell

