set_option maxRecDepth 20000 in
theorem ggL_law_X5_resume : GoodIn wsL_law wsX5_resume := goodIn_r _ [608, 16, 18, 251, 486, 487, 488, 2, 489, 252, 253, 311, 255, 256, 257, 464, 465, 466, 467, 455, 490, 491, 492, 15, 493, 27, 494, 495, 496, 33, 497, 32, 498, 499, 500, 26, 501, 46, 375, 376, 377, 378, 379, 44, 380, 366, 367, 502, 503, 504, 505, 506, 507, 508, 509, 510, 511, 512, 513, 514, 515, 516, 517, 518, 519, 35, 31, 38, 520, 521, 522, 523, 524, 525, 526, 527, 528, 529, 530, 30, 531, 71, 67, 72, 532, 275, 276, 277, 269, 270, 271, 70, 272, 273, 274, 329, 330, 331, 332, 333, 76, 334, 335, 336, 337, 324, 259, 260, 261, 430, 431, 432, 433, 77, 434, 533, 534, 535, 536, 36, 37, 537, 538, 539, 540, 201, 202, 369, 370, 541, 372, 373, 374, 542, 543, 382, 383, 384, 544, 545, 546, 547, 663, 664, 665, 706, 707, 711, 712, 713, 714, 715, 716, 717, 718, 719, 720, 721, 722, 698, 699, 700, 701, 702, 703, 704, 705, 708, 709, 710, 723, 724] rfl (by decide +kernel)
set_option maxRecDepth 20000 in
theorem gL_law_X5_resume : GoodIn wsL_law (wsV RL 98 RX5 yX5_resume wsX5_resume) := goodIn_app (goodIn_of _ (by decide +kernel)) ggL_law_X5_resume
set_option maxRecDepth 20000 in
theorem ggL_law_X6_resume : GoodIn wsL_law wsX6_resume := goodIn_r _ [612, 282, 552, 99, 98, 553, 554, 555, 556, 5, 557, 86, 85, 97, 283, 284, 285, 286, 207, 287, 288, 289, 290, 291, 292, 293, 298, 299, 300, 301, 84, 558, 559, 560, 561, 562, 563, 183, 564, 565, 566, 567, 568, 87, 83, 93, 569, 570, 571, 572, 88, 89, 397, 398, 399, 400, 90, 401, 402, 403, 404, 573, 574, 575, 576, 577, 578, 579, 580, 581, 582, 583, 584, 585, 586, 587, 588, 174, 176, 589, 590, 591, 592, 82, 439, 440, 441, 442, 173, 443, 444, 445, 446, 447, 175, 177, 164, 448, 449, 450, 593, 594, 595, 596, 178, 597, 598, 599, 600, 390, 391, 392, 393, 394, 395, 396, 302, 303, 304, 305, 601, 602, 603, 604, 666, 667, 668, 669, 670, 671, 672, 673, 674, 675, 676, 677, 678, 679, 680, 681, 682, 683, 684, 685, 686, 687, 688, 689, 690, 691, 692, 693, 694, 695, 696, 697] rfl (by decide +kernel)
set_option maxRecDepth 20000 in
theorem gL_law_X6_resume : GoodIn wsL_law (wsV RL 101 RX6 yX6_resume wsX6_resume) := goodIn_app (goodIn_of _ (by decide +kernel)) ggL_law_X6_resume
set_option maxRecDepth 20000 in
theorem ggL_law_X5_result : GoodIn wsL_law wsX5_result := goodIn_r _ [616, 16, 196, 663, 664, 665, 698, 699, 700, 701, 702, 703, 704, 705] rfl (by decide +kernel)
set_option maxRecDepth 20000 in
theorem gL_law_X5_result : GoodIn wsL_law (wsV RL 102 RX5 yX5_result wsX5_result) := goodIn_app (goodIn_of _ (by decide +kernel)) ggL_law_X5_result
set_option maxRecDepth 20000 in
theorem ggL_law_X6_result : GoodIn wsL_law wsX6_result := goodIn_r _ [620, 207, 183, 666, 667, 668, 669, 670, 671, 672, 673, 674, 675, 676, 677, 678, 679, 680, 681, 682, 683, 684, 685, 686, 687, 688, 689, 690, 691, 692, 693, 694, 695, 696, 697] rfl (by decide +kernel)
set_option maxRecDepth 20000 in
theorem gL_law_X6_result : GoodIn wsL_law (wsV RL 105 RX6 yX6_result wsX6_result) := goodIn_app (goodIn_of _ (by decide +kernel)) ggL_law_X6_result
set_option maxRecDepth 20000 in
theorem ggL_law_X5_steps : GoodIn wsL_law wsX5_steps := goodIn_r _ [624, 16, 625, 663, 664, 665, 698, 699, 700, 701, 702, 703, 704, 705] rfl (by decide +kernel)
set_option maxRecDepth 20000 in
theorem gL_law_X5_steps : GoodIn wsL_law (wsV RL 106 RX5 yX5_steps wsX5_steps) := goodIn_app (goodIn_of _ (by decide +kernel)) ggL_law_X5_steps
set_option maxRecDepth 20000 in
theorem ggL_law_X6_steps : GoodIn wsL_law wsX6_steps := goodIn_r _ [629, 207, 564, 666, 667, 668, 669, 670, 671, 672, 673, 674, 675, 676, 677, 678, 679, 680, 681, 682, 683, 684, 685, 686, 687, 688, 689, 690, 691, 692, 693, 694, 695, 696, 697] rfl (by decide +kernel)
set_option maxRecDepth 20000 in
theorem gL_law_X6_steps : GoodIn wsL_law (wsV RL 109 RX6 yX6_steps wsX6_steps) := goodIn_app (goodIn_of _ (by decide +kernel)) ggL_law_X6_steps
set_option maxRecDepth 20000 in
theorem ggL_law_L_told : GoodIn wsL_law wsL_told := goodIn_ca (goodIn_ca (goodIn_r _ [632, 188, 633, 634, 635, 636, 2, 637, 193, 194, 638, 639, 18, 251, 252, 455, 255, 256, 257, 640, 641, 642, 253, 311, 468, 469, 470, 26, 471, 44, 202, 663, 664, 665, 706, 707, 711, 712, 713, 714, 715, 716, 717, 718, 719, 720, 721, 722] rfl (by decide +kernel)) (goodIn_sub (fun _ h => List.mem_append_left _ (List.mem_append_left _ (List.mem_append_right _ h))) (by decide +kernel))) (goodIn_sub (fun _ h => List.mem_append_left _ (List.mem_append_right _ h)) (by decide +kernel))
set_option maxRecDepth 20000 in
theorem gL_law_L_told : GoodIn wsL_law (va_wsS RL 110 yL_told wsL_told) := goodIn_app (goodIn_of _ (by decide +kernel)) ggL_law_L_told
set_option maxRecDepth 20000 in
theorem ggL_law_X6_told : GoodIn wsL_law wsX6_told := goodIn_r _ [646, 207, 84, 85, 86, 97, 287, 288, 5, 289, 476, 477, 478, 479, 666, 667, 668, 669, 670, 671, 672, 673, 674, 675, 676, 677, 678, 679, 680, 681, 682, 683, 684, 685, 686, 687, 688, 689, 690, 691, 692, 693, 694, 695, 696, 697] rfl (by decide +kernel)
set_option maxRecDepth 20000 in
theorem gL_law_X6_told : GoodIn wsL_law (wsV RL 112 RX6 yX6_told wsX6_told) := goodIn_app (goodIn_of _ (by decide +kernel)) ggL_law_X6_told
set_option maxRecDepth 20000 in
theorem ggL_law_L_measure : GoodIn wsL_law wsL_measure := goodIn_ca (goodIn_ca (goodIn_r _ [649, 188, 650, 651, 652, 653, 2, 654, 193, 194, 655, 656, 18, 251, 252, 657, 658, 255, 256, 257, 663, 664, 665, 706, 707, 711, 712, 713, 714, 715, 716, 717, 718, 719, 720, 721, 722] rfl (by decide +kernel)) (goodIn_sub (fun _ h => List.mem_append_left _ (List.mem_append_left _ (List.mem_append_right _ h))) (by decide +kernel))) (goodIn_sub (fun _ h => List.mem_append_right _ h) (by decide +kernel))
set_option maxRecDepth 20000 in
theorem gL_law_L_measure : GoodIn wsL_law (va_wsS RL 113 yL_measure wsL_measure) := goodIn_app (goodIn_of _ (by decide +kernel)) ggL_law_L_measure
set_option maxRecDepth 20000 in
theorem ggL_law_X6_measure : GoodIn wsL_law wsX6_measure := goodIn_r _ [662, 84, 95, 207, 93, 287, 288, 5, 289, 666, 667, 668, 669, 670, 671, 672, 673, 674, 675, 676, 677, 678, 679, 680, 681, 682, 683, 684, 685, 686, 687, 688, 689, 690, 691, 692, 693, 694, 695, 696, 697] rfl (by decide +kernel)
set_option maxRecDepth 20000 in
theorem gL_law_X6_measure : GoodIn wsL_law (wsV RL 115 RX6 yX6_measure wsX6_measure) := goodIn_app (goodIn_of _ (by decide +kernel)) ggL_law_X6_measure
