set_option maxRecDepth 20000 in
theorem ggL_law_X5_spare : GoodIn wsL_law wsX5_spare := goodIn_r _ [416, 18, 255, 256, 2, 257, 312, 313, 314, 315, 251, 252, 316, 317, 318, 319, 253, 197, 198, 199, 26, 200, 44, 201, 202, 663, 664, 665, 706, 707, 711, 712, 713, 714, 715, 716, 717, 718, 719, 720, 721, 722] rfl (by decide +kernel)
set_option maxRecDepth 20000 in
theorem gL_law_X5_spare : GoodIn wsL_law (wsV RL 78 RX5 yX5_spare wsX5_spare) := goodIn_app (goodIn_of _ (by decide +kernel)) ggL_law_X5_spare
set_option maxRecDepth 20000 in
theorem ggL_law_X6_spare : GoodIn wsL_law wsX6_spare := goodIn_r _ [420, 282, 86, 283, 284, 285, 5, 286, 207, 287, 288, 289, 290, 291, 292, 293, 294, 295, 296, 297, 298, 299, 300, 301, 84, 302, 303, 304, 305, 85, 666, 667, 668, 669, 670, 671, 672, 673, 674, 675, 676, 677, 678, 679, 680, 681, 682, 683, 684, 685, 686, 687, 688, 689, 690, 691, 692, 693, 694, 695, 696, 697] rfl (by decide +kernel)
set_option maxRecDepth 20000 in
theorem gL_law_X6_spare : GoodIn wsL_law (wsV RL 81 RX6 yX6_spare wsX6_spare) := goodIn_app (goodIn_of _ (by decide +kernel)) ggL_law_X6_spare
set_option maxRecDepth 20000 in
theorem ggL_law_X5_finish : GoodIn wsL_law wsX5_finish := goodIn_r _ [424, 18, 251, 253, 20, 255, 256, 2, 257, 316, 317, 318, 319, 252, 425, 426, 427, 30, 428, 71, 268, 267, 266, 429, 321, 322, 323, 72, 324, 259, 260, 261, 325, 326, 327, 328, 329, 330, 331, 70, 332, 333, 76, 334, 335, 336, 337, 274, 275, 276, 277, 430, 431, 432, 433, 77, 434, 663, 664, 665, 706, 707, 711, 712, 713, 714, 715, 716, 717, 718, 719, 720, 721, 722, 708, 709, 710, 723, 724] rfl (by decide +kernel)
set_option maxRecDepth 20000 in
theorem gL_law_X5_finish : GoodIn wsL_law (wsV RL 82 RX5 yX5_finish wsX5_finish) := goodIn_app (goodIn_of _ (by decide +kernel)) ggL_law_X5_finish
set_option maxRecDepth 20000 in
theorem ggL_law_X6_finish : GoodIn wsL_law wsX6_finish := goodIn_r _ [438, 282, 92, 174, 91, 93, 176, 95, 86, 283, 284, 285, 5, 286, 207, 287, 288, 289, 290, 291, 292, 293, 342, 343, 344, 345, 298, 299, 300, 301, 84, 346, 347, 348, 349, 439, 440, 441, 442, 173, 443, 444, 445, 446, 447, 175, 177, 164, 448, 449, 450, 666, 667, 668, 669, 670, 671, 672, 673, 674, 675, 676, 677, 678, 679, 680, 681, 682, 683, 684, 685, 686, 687, 688, 689, 690, 691, 692, 693, 694, 695, 696, 697] rfl (by decide +kernel)
set_option maxRecDepth 20000 in
theorem gL_law_X6_finish : GoodIn wsL_law (wsV RL 85 RX6 yX6_finish wsX6_finish) := goodIn_app (goodIn_of _ (by decide +kernel)) ggL_law_X6_finish
set_option maxRecDepth 20000 in
theorem ggL_law_X5_stop : GoodIn wsL_law wsX5_stop := goodIn_r _ [454, 18, 251, 253, 455, 311, 255, 256, 2, 257, 316, 317, 318, 319, 252, 663, 664, 665, 706, 707, 711, 712, 713, 714, 715, 716, 717, 718, 719, 720, 721, 722] rfl (by decide +kernel)
set_option maxRecDepth 20000 in
theorem gL_law_X5_stop : GoodIn wsL_law (wsV RL 86 RX5 yX5_stop wsX5_stop) := goodIn_app (goodIn_of _ (by decide +kernel)) ggL_law_X5_stop
set_option maxRecDepth 20000 in
theorem ggL_law_X6_stop : GoodIn wsL_law wsX6_stop := goodIn_r _ [459, 282, 86, 97, 85, 283, 284, 285, 5, 286, 207, 287, 288, 289, 290, 291, 292, 293, 298, 299, 300, 301, 84, 666, 667, 668, 669, 670, 671, 672, 673, 674, 675, 676, 677, 678, 679, 680, 681, 682, 683, 684, 685, 686, 687, 688, 689, 690, 691, 692, 693, 694, 695, 696, 697] rfl (by decide +kernel)
set_option maxRecDepth 20000 in
theorem gL_law_X6_stop : GoodIn wsL_law (wsV RL 89 RX6 yX6_stop wsX6_stop) := goodIn_app (goodIn_of _ (by decide +kernel)) ggL_law_X6_stop
set_option maxRecDepth 20000 in
theorem ggL_law_X5_remove : GoodIn wsL_law wsX5_remove := goodIn_r _ [463, 18, 251, 252, 253, 255, 256, 2, 257, 464, 465, 466, 467, 455, 468, 469, 470, 26, 471, 44, 202, 197, 198, 199, 200, 201, 663, 664, 665, 706, 707, 711, 712, 713, 714, 715, 716, 717, 718, 719, 720, 721, 722] rfl (by decide +kernel)
set_option maxRecDepth 20000 in
theorem gL_law_X5_remove : GoodIn wsL_law (wsV RL 90 RX5 yX5_remove wsX5_remove) := goodIn_app (goodIn_of _ (by decide +kernel)) ggL_law_X5_remove
set_option maxRecDepth 20000 in
theorem ggL_law_X6_remove : GoodIn wsL_law wsX6_remove := goodIn_r _ [475, 282, 84, 85, 86, 97, 283, 284, 285, 5, 286, 207, 287, 288, 289, 290, 291, 292, 293, 298, 299, 300, 301, 476, 477, 478, 479, 302, 303, 304, 305, 666, 667, 668, 669, 670, 671, 672, 673, 674, 675, 676, 677, 678, 679, 680, 681, 682, 683, 684, 685, 686, 687, 688, 689, 690, 691, 692, 693, 694, 695, 696, 697] rfl (by decide +kernel)
set_option maxRecDepth 20000 in
theorem gL_law_X6_remove : GoodIn wsL_law (wsV RL 93 RX6 yX6_remove wsX6_remove) := goodIn_app (goodIn_of _ (by decide +kernel)) ggL_law_X6_remove
set_option maxRecDepth 20000 in
theorem ggL_law_X5_enter : GoodIn wsL_law wsX5_enter := goodIn_r _ [483, 18, 251, 484, 310, 485, 16, 486, 487, 488, 2, 489, 252, 253, 311, 255, 256, 257, 464, 465, 466, 467, 455, 258, 259, 260, 261, 490, 491, 492, 15, 493, 27, 494, 495, 496, 33, 497, 32, 498, 499, 500, 26, 501, 46, 375, 376, 377, 378, 379, 44, 380, 366, 367, 502, 503, 504, 505, 506, 507, 508, 509, 510, 511, 512, 513, 514, 515, 516, 517, 518, 519, 35, 31, 38, 520, 521, 522, 523, 524, 525, 526, 527, 528, 529, 530, 30, 531, 71, 67, 72, 532, 275, 276, 277, 269, 270, 271, 70, 272, 273, 274, 329, 330, 331, 332, 333, 76, 334, 335, 336, 337, 324, 430, 431, 432, 433, 77, 434, 533, 534, 535, 536, 36, 37, 537, 538, 539, 540, 201, 202, 369, 370, 541, 372, 373, 374, 542, 543, 382, 383, 384, 544, 545, 546, 547, 663, 664, 665, 706, 707, 711, 712, 713, 714, 715, 716, 717, 718, 719, 720, 721, 722, 698, 699, 700, 701, 702, 703, 704, 705, 708, 709, 710, 723, 724] rfl (by decide +kernel)
set_option maxRecDepth 20000 in
theorem gL_law_X5_enter : GoodIn wsL_law (wsV RL 94 RX5 yX5_enter wsX5_enter) := goodIn_app (goodIn_of _ (by decide +kernel)) ggL_law_X5_enter
set_option maxRecDepth 20000 in
theorem ggL_law_X6_enter : GoodIn wsL_law wsX6_enter := goodIn_r _ [551, 282, 552, 99, 96, 553, 554, 555, 556, 5, 557, 86, 85, 97, 283, 284, 285, 286, 207, 287, 288, 289, 290, 291, 292, 293, 298, 299, 300, 301, 84, 558, 559, 560, 561, 562, 563, 183, 564, 98, 565, 566, 567, 568, 87, 83, 93, 569, 570, 571, 572, 88, 89, 397, 398, 399, 400, 90, 401, 402, 403, 404, 573, 574, 575, 576, 577, 578, 579, 580, 581, 582, 583, 584, 585, 586, 587, 588, 174, 176, 589, 590, 591, 592, 82, 439, 440, 441, 442, 173, 443, 444, 445, 446, 447, 175, 177, 164, 448, 449, 450, 593, 594, 595, 596, 178, 597, 598, 599, 600, 390, 391, 392, 393, 394, 395, 396, 302, 303, 304, 305, 601, 602, 603, 604, 666, 667, 668, 669, 670, 671, 672, 673, 674, 675, 676, 677, 678, 679, 680, 681, 682, 683, 684, 685, 686, 687, 688, 689, 690, 691, 692, 693, 694, 695, 696, 697] rfl (by decide +kernel)
set_option maxRecDepth 20000 in
theorem gL_law_X6_enter : GoodIn wsL_law (wsV RL 97 RX6 yX6_enter wsX6_enter) := goodIn_app (goodIn_of _ (by decide +kernel)) ggL_law_X6_enter
