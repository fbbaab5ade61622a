/-! the law's words are the tables' -/
theorem in_places {big ws : List Cond} (ps : List Nat) (h : ws = ps.filterMap (fun i => big[i]?)) : ∀ w ∈ ws, w ∈ big := fun w hw => by
  rw [h] at hw
  obtain ⟨i, _, hi⟩ := List.mem_filterMap.mp hw
  exact List.mem_of_getElem? hi
set_option maxRecDepth 20000 in
theorem in_wsL_law0_r1 : ∀ w ∈ wsL_law0_r1, w ∈ lw_tbl := in_places [43, 44, 31, 549, 550, 34, 822, 45, 46, 47, 48, 49, 50, 51, 52, 32, 145, 115, 116, 33, 146, 113, 147, 148] (by decide +kernel)
set_option maxRecDepth 20000 in
theorem in_wsL_law0_r2 : ∀ w ∈ wsL_law0_r2, w ∈ lw_tbl := in_places [149, 150, 151, 152, 153, 54, 55, 56, 59, 60, 61, 63, 114, 65, 71, 73, 75, 77, 82, 57, 83, 117, 118, 119] (by decide +kernel)
set_option maxRecDepth 20000 in
theorem in_wsL_law0_r3 : ∀ w ∈ wsL_law0_r3, w ∈ lw_tbl := in_places [120, 121, 123, 124, 125, 126, 127, 122, 551, 552, 553, 554, 556, 557, 558, 559, 560, 562, 563, 564, 565, 566, 567, 568] (by decide +kernel)
set_option maxRecDepth 20000 in
theorem in_wsL_law0_r4 : ∀ w ∈ wsL_law0_r4, w ∈ lw_tbl := in_places [569, 570, 571, 572, 577, 578, 579, 580, 581, 265, 266, 30, 267, 268, 269, 270, 271, 272, 273, 345, 39, 69, 274, 275] (by decide +kernel)
set_option maxRecDepth 20000 in
theorem in_wsL_law0_r5 : ∀ w ∈ wsL_law0_r5, w ∈ lw_tbl := in_places [276, 277, 38, 361, 362, 363, 364, 68, 650, 651, 652, 653, 555, 654, 655, 656, 657, 658, 660, 14, 661, 584, 646, 647] (by decide +kernel)
set_option maxRecDepth 20000 in
theorem in_wsL_law0_r6 : ∀ w ∈ wsL_law0_r6, w ∈ lw_tbl := in_places [648, 649, 365, 366, 367, 368, 369, 370, 371, 372, 66, 373, 375, 4, 376, 377, 40, 393, 395, 5, 396, 81, 78, 397] (by decide +kernel)
set_option maxRecDepth 20000 in
theorem in_wsL_law0_r7 : ∀ w ∈ wsL_law0_r7, w ∈ lw_tbl := in_places [399, 6, 400, 662, 663, 664, 665, 561, 666, 668, 15, 669, 670, 672, 16, 673, 674, 676, 17, 677, 401, 402, 403, 404] (by decide +kernel)
set_option maxRecDepth 20000 in
theorem in_wsL_law0_r8 : ∀ w ∈ wsL_law0_r8, w ∈ lw_tbl := in_places [405, 406, 407, 62, 678, 679, 680, 681, 408, 409, 410, 411, 412, 413, 414, 416, 417, 418, 419, 80, 682, 683, 684, 685] (by decide +kernel)
set_option maxRecDepth 20000 in
theorem in_wsL_law0_r9 : ∀ w ∈ wsL_law0_r9, w ∈ lw_tbl := in_places [420, 421, 422, 423, 424, 425, 426, 72, 74, 427, 429, 7, 430, 686, 687, 688, 689, 690, 692, 18, 693, 432, 433, 434] (by decide +kernel)
set_option maxRecDepth 20000 in
theorem in_wsL_law0_r10 : ∀ w ∈ wsL_law0_r10, w ∈ lw_tbl := in_places [435, 436, 437, 438, 694, 695, 696, 697, 439, 440, 441, 442, 443, 444, 445, 698, 699, 700, 701, 446, 447, 448, 449, 450] (by decide +kernel)
set_option maxRecDepth 20000 in
theorem in_wsL_law0_r11 : ∀ w ∈ wsL_law0_r11, w ∈ lw_tbl := in_places [451, 452, 702, 703, 704, 705, 453, 454, 455, 456, 457, 458, 459, 155, 460, 462, 8, 463, 154, 85, 464, 222, 223, 224] (by decide +kernel)
set_option maxRecDepth 20000 in
theorem in_wsL_law0_r12 : ∀ w ∈ wsL_law0_r12, w ∈ lw_tbl := in_places [225, 226, 227, 228, 229, 230, 231, 232, 233, 234, 235, 236, 237, 238, 41, 239, 240, 242, 0, 243, 465, 467, 9, 468] (by decide +kernel)
set_option maxRecDepth 20000 in
theorem in_wsL_law0_r13 : ∀ w ∈ wsL_law0_r13, w ∈ lw_tbl := in_places [469, 470, 471, 472, 473, 475, 10, 476, 477, 479, 11, 480, 157, 481, 483, 12, 484, 485, 487, 13, 488, 156, 706, 707] (by decide +kernel)
set_option maxRecDepth 20000 in
theorem in_wsL_law0_r14 : ∀ w ∈ wsL_law0_r14, w ∈ lw_tbl := in_places [708, 709, 574, 573, 710, 712, 19, 713, 714, 716, 20, 717, 718, 720, 21, 721, 722, 724, 22, 725, 576, 726, 728, 23] (by decide +kernel)
set_option maxRecDepth 20000 in
theorem in_wsL_law0_r15 : ∀ w ∈ wsL_law0_r15, w ∈ lw_tbl := in_places [729, 730, 732, 24, 733, 734, 736, 25, 737, 738, 740, 26, 741, 575, 185, 186, 187, 188, 742, 743, 744, 745, 189, 190] (by decide +kernel)
set_option maxRecDepth 20000 in
theorem in_wsL_law0_r16 : ∀ w ∈ wsL_law0_r16, w ∈ lw_tbl := in_places [191, 192, 746, 747, 748, 749, 193, 194, 195, 196, 750, 751, 752, 753, 489, 490, 491, 492, 493, 494, 495, 496, 754, 755] (by decide +kernel)
set_option maxRecDepth 20000 in
theorem in_wsL_law0_r17 : ∀ w ∈ wsL_law0_r17, w ∈ lw_tbl := in_places [756, 757, 497, 498, 499, 500, 501, 502, 503, 758, 759, 760, 761, 504, 505, 506, 507, 508, 509, 510, 511, 762, 763, 764] (by decide +kernel)
set_option maxRecDepth 20000 in
theorem in_wsL_law0_r18 : ∀ w ∈ wsL_law0_r18, w ∈ lw_tbl := in_places [765, 512, 513, 514, 515, 516, 517, 518, 519, 766, 767, 768, 769, 520, 521, 522, 523, 524, 525, 526, 770, 771, 772, 773] (by decide +kernel)
set_option maxRecDepth 20000 in
theorem in_wsL_law0_r19 : ∀ w ∈ wsL_law0_r19, w ∈ lw_tbl := in_places [527, 528, 529, 530, 531, 532, 533, 774, 775, 776, 777, 534, 535, 536, 537, 538, 539, 540, 778, 779, 780, 781, 197, 198] (by decide +kernel)
set_option maxRecDepth 20000 in
theorem in_wsL_law0_r20 : ∀ w ∈ wsL_law0_r20, w ∈ lw_tbl := in_places [199, 200, 782, 783, 784, 785, 201, 202, 203, 204, 786, 787, 788, 789, 205, 206, 207, 208, 790, 791, 792, 793, 209, 210] (by decide +kernel)
set_option maxRecDepth 20000 in
theorem in_wsL_law0_r21 : ∀ w ∈ wsL_law0_r21, w ∈ lw_tbl := in_places [211, 212, 794, 795, 796, 797, 213, 214, 215, 216, 217, 218, 219, 220, 79, 76, 64, 70, 251, 253, 252, 42, 129, 221] (by decide +kernel)
set_option maxRecDepth 20000 in
theorem in_wsL_law0_r22 : ∀ w ∈ wsL_law0_r22, w ∈ lw_tbl := in_places [244, 246, 1, 247, 84, 67, 248, 249, 250, 254, 255, 256, 257, 259, 2, 260, 798, 799, 800, 801, 582, 802, 804, 27] (by decide +kernel)
set_option maxRecDepth 20000 in
theorem in_wsL_law0_r23 : ∀ w ∈ wsL_law0_r23, w ∈ lw_tbl := in_places [805, 583, 806, 808, 28, 809, 810, 812, 29, 813, 261, 262, 263, 264, 814, 815, 816, 817, 541, 542, 543, 544, 545, 546] (by decide +kernel)
set_option maxRecDepth 20000 in
theorem in_wsL_law0_r24 : ∀ w ∈ wsL_law0_r24, w ∈ lw_tbl := in_places [547, 548, 128, 818, 819, 820, 821] (by decide +kernel)
set_option maxRecDepth 20000 in
theorem in_wsX00 : ∀ w ∈ wsX00, w ∈ lw_tbl := in_places [86, 88, 90, 92, 94, 96, 98, 100, 102, 104, 106, 108, 110] (by decide +kernel)
set_option maxRecDepth 20000 in
theorem in_wsX10 : ∀ w ∈ wsX10, w ∈ lw_tbl := in_places [130, 132, 134, 136, 138, 140, 142] (by decide +kernel)
set_option maxRecDepth 20000 in
theorem in_wsX20 : ∀ w ∈ wsX20, w ∈ lw_tbl := in_places [158, 160, 162, 164, 166, 168, 170, 172, 174, 176, 178, 180, 182] (by decide +kernel)
set_option maxRecDepth 20000 in
theorem in_wsX30 : ∀ w ∈ wsX30, w ∈ lw_tbl := in_places [585, 587, 589, 591, 593, 595, 597, 599, 601, 603, 605, 607, 609, 611, 613, 615, 617, 619, 621, 623, 625, 627, 629, 631, 633, 635, 637, 639, 641, 643] (by decide +kernel)
theorem wsL_law_in0 : ∀ w ∈ wsL_law0, w ∈ lw_tbl := fun w h => (List.mem_append.mp h).elim (fun h => (List.mem_append.mp h).elim (fun h => (List.mem_append.mp h).elim (fun h => (List.mem_append.mp h).elim (fun h => (List.mem_append.mp h).elim (fun h => (List.mem_append.mp h).elim (fun h => in_wsL_law0_r1 w h) (fun h => (List.mem_append.mp h).elim (fun h => in_wsL_law0_r2 w h) (fun h => (List.mem_append.mp h).elim (fun h => in_wsL_law0_r3 w h) (fun h => (List.mem_append.mp h).elim (fun h => in_wsL_law0_r4 w h) (fun h => (List.mem_append.mp h).elim (fun h => in_wsL_law0_r5 w h) (fun h => (List.mem_append.mp h).elim (fun h => in_wsL_law0_r6 w h) (fun h => (List.mem_append.mp h).elim (fun h => in_wsL_law0_r7 w h) (fun h => (List.mem_append.mp h).elim (fun h => in_wsL_law0_r8 w h) (fun h => (List.mem_append.mp h).elim (fun h => in_wsL_law0_r9 w h) (fun h => (List.mem_append.mp h).elim (fun h => in_wsL_law0_r10 w h) (fun h => (List.mem_append.mp h).elim (fun h => in_wsL_law0_r11 w h) (fun h => (List.mem_append.mp h).elim (fun h => in_wsL_law0_r12 w h) (fun h => (List.mem_append.mp h).elim (fun h => in_wsL_law0_r13 w h) (fun h => (List.mem_append.mp h).elim (fun h => in_wsL_law0_r14 w h) (fun h => (List.mem_append.mp h).elim (fun h => in_wsL_law0_r15 w h) (fun h => (List.mem_append.mp h).elim (fun h => in_wsL_law0_r16 w h) (fun h => (List.mem_append.mp h).elim (fun h => in_wsL_law0_r17 w h) (fun h => (List.mem_append.mp h).elim (fun h => in_wsL_law0_r18 w h) (fun h => (List.mem_append.mp h).elim (fun h => in_wsL_law0_r19 w h) (fun h => (List.mem_append.mp h).elim (fun h => in_wsL_law0_r20 w h) (fun h => (List.mem_append.mp h).elim (fun h => in_wsL_law0_r21 w h) (fun h => (List.mem_append.mp h).elim (fun h => in_wsL_law0_r22 w h) (fun h => (List.mem_append.mp h).elim (fun h => in_wsL_law0_r23 w h) (fun h => in_wsL_law0_r24 w h)))))))))))))))))))))))) (fun h => in_wsX20 w h)) (fun h => in_wsX30 w h)) (fun h => in_wsX00 w h)) (fun h => in_wsX10 w h)) (fun h => absurd h List.not_mem_nil)
