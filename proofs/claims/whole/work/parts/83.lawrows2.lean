set_option maxRecDepth 20000 in
theorem ggL_law_X5_space : GoodIn wsL_law wsX5_space := goodIn_r _ [250, 18, 251, 252, 253, 254, 20, 255, 256, 2, 257, 197, 198, 199, 26, 200, 44, 201, 202, 258, 259, 260, 261, 262, 263, 264, 30, 265, 266, 267, 71, 268, 269, 270, 271, 70, 272, 273, 274, 275, 276, 277, 663, 664, 665, 706, 707, 711, 712, 713, 714, 715, 716, 717, 718, 719, 720, 721, 722, 708, 709, 710] rfl (by decide +kernel)
set_option maxRecDepth 20000 in
theorem gL_law_X5_space : GoodIn wsL_law (wsV RL 55 RX5 yX5_space wsX5_space) := goodIn_app (goodIn_of _ (by decide +kernel)) ggL_law_X5_space
set_option maxRecDepth 20000 in
theorem ggL_law_X6_space : GoodIn wsL_law wsX6_space := goodIn_r _ [281, 282, 86, 95, 92, 90, 283, 284, 285, 5, 286, 207, 287, 288, 289, 290, 291, 292, 293, 294, 295, 296, 297, 298, 299, 300, 301, 84, 302, 303, 304, 305, 85, 666, 667, 668, 669, 670, 671, 672, 673, 674, 675, 676, 677, 678, 679, 680, 681, 682, 683, 684, 685, 686, 687, 688, 689, 690, 691, 692, 693, 694, 695, 696, 697] rfl (by decide +kernel)
set_option maxRecDepth 20000 in
theorem gL_law_X6_space : GoodIn wsL_law (wsV RL 59 RX6 yX6_space wsX6_space) := goodIn_app (goodIn_of _ (by decide +kernel)) ggL_law_X6_space
set_option maxRecDepth 20000 in
theorem ggL_law_X5_thread : GoodIn wsL_law wsX5_thread := goodIn_r _ [309, 18, 310, 311, 20, 251, 255, 256, 2, 257, 312, 313, 314, 315, 252, 316, 317, 318, 319, 253, 197, 198, 199, 26, 200, 44, 201, 202, 320, 321, 322, 30, 323, 72, 324, 259, 260, 261, 325, 326, 327, 328, 71, 268, 267, 329, 330, 331, 70, 332, 333, 76, 334, 335, 336, 337, 274, 275, 276, 277, 663, 664, 665, 711, 712, 713, 714, 715, 716, 717, 718, 719, 720, 721, 722, 706, 707, 708, 709, 710, 723, 724] rfl (by decide +kernel)
set_option maxRecDepth 20000 in
theorem gL_law_X5_thread : GoodIn wsL_law (wsV RL 60 RX5 yX5_thread wsX5_thread) := goodIn_app (goodIn_of _ (by decide +kernel)) ggL_law_X5_thread
set_option maxRecDepth 20000 in
theorem ggL_law_X6_thread : GoodIn wsL_law wsX6_thread := goodIn_r _ [341, 282, 96, 97, 283, 284, 285, 5, 286, 207, 287, 288, 289, 290, 291, 292, 293, 294, 295, 296, 297, 298, 299, 300, 301, 84, 342, 343, 344, 345, 86, 302, 303, 304, 305, 85, 346, 347, 348, 349, 92, 91, 666, 667, 668, 669, 670, 671, 672, 673, 674, 675, 676, 677, 678, 679, 680, 681, 682, 683, 684, 685, 686, 687, 688, 689, 690, 691, 692, 693, 694, 695, 696, 697] rfl (by decide +kernel)
set_option maxRecDepth 20000 in
theorem gL_law_X6_thread : GoodIn wsL_law (wsV RL 63 RX6 yX6_thread wsX6_thread) := goodIn_app (goodIn_of _ (by decide +kernel)) ggL_law_X6_thread
set_option maxRecDepth 20000 in
theorem ggL_law_X5_table : GoodIn wsL_law wsX5_table := goodIn_r _ [353, 18, 251, 254, 354, 255, 256, 2, 257, 312, 313, 314, 315, 252, 316, 317, 318, 319, 253, 197, 198, 199, 26, 200, 44, 201, 202, 258, 259, 260, 261, 663, 664, 665, 706, 707, 711, 712, 713, 714, 715, 716, 717, 718, 719, 720, 721, 722] rfl (by decide +kernel)
set_option maxRecDepth 20000 in
theorem gL_law_X5_table : GoodIn wsL_law (wsV RL 64 RX5 yX5_table wsX5_table) := goodIn_app (goodIn_of _ (by decide +kernel)) ggL_law_X5_table
set_option maxRecDepth 20000 in
theorem ggL_law_X6_table : GoodIn wsL_law wsX6_table := goodIn_r _ [358, 282, 90, 88, 283, 284, 285, 5, 286, 207, 287, 288, 289, 290, 291, 292, 293, 294, 295, 296, 297, 298, 299, 300, 301, 84, 342, 343, 344, 345, 86, 302, 303, 304, 305, 85, 666, 667, 668, 669, 670, 671, 672, 673, 674, 675, 676, 677, 678, 679, 680, 681, 682, 683, 684, 685, 686, 687, 688, 689, 690, 691, 692, 693, 694, 695, 696, 697] rfl (by decide +kernel)
set_option maxRecDepth 20000 in
theorem gL_law_X6_table : GoodIn wsL_law (wsV RL 67 RX6 yX6_table wsX6_table) := goodIn_app (goodIn_of _ (by decide +kernel)) ggL_law_X6_table
set_option maxRecDepth 20000 in
theorem ggL_law_X5_data : GoodIn wsL_law wsX5_data := goodIn_r _ [362, 18, 251, 363, 364, 275, 276, 277, 20, 255, 256, 2, 257, 365, 366, 367, 219, 220, 221, 368, 369, 370, 312, 313, 314, 315, 252, 316, 317, 318, 319, 253, 371, 372, 373, 26, 374, 375, 376, 377, 378, 379, 44, 380, 197, 198, 199, 200, 201, 202, 225, 226, 227, 228, 46, 381, 382, 383, 384, 320, 321, 322, 30, 323, 72, 324, 259, 260, 261, 325, 326, 327, 328, 71, 268, 267, 329, 330, 331, 70, 332, 333, 76, 334, 335, 336, 337, 274, 385, 663, 664, 665, 706, 707, 711, 712, 713, 714, 715, 716, 717, 718, 719, 720, 721, 722, 708, 709, 710, 723, 724] rfl (by decide +kernel)
set_option maxRecDepth 20000 in
theorem gL_law_X5_data : GoodIn wsL_law (wsV RL 68 RX5 yX5_data wsX5_data) := goodIn_app (goodIn_of _ (by decide +kernel)) ggL_law_X5_data
set_option maxRecDepth 20000 in
theorem ggL_law_X6_data : GoodIn wsL_law wsX6_data := goodIn_r _ [389, 282, 88, 89, 87, 83, 91, 92, 283, 284, 285, 5, 286, 207, 287, 288, 289, 390, 391, 392, 233, 234, 235, 290, 291, 292, 293, 294, 295, 296, 297, 298, 299, 300, 301, 84, 342, 343, 344, 345, 86, 393, 394, 395, 396, 397, 398, 399, 400, 90, 401, 402, 403, 404, 302, 303, 304, 305, 85, 346, 347, 348, 349, 666, 667, 668, 669, 670, 671, 672, 673, 674, 675, 676, 677, 678, 679, 680, 681, 682, 683, 684, 685, 686, 687, 688, 689, 690, 691, 692, 693, 694, 695, 696, 697] rfl (by decide +kernel)
set_option maxRecDepth 20000 in
theorem gL_law_X6_data : GoodIn wsL_law (wsV RL 72 RX6 yX6_data wsX6_data) := goodIn_app (goodIn_of _ (by decide +kernel)) ggL_law_X6_data
set_option maxRecDepth 20000 in
theorem ggL_law_X5_share : GoodIn wsL_law wsX5_share := goodIn_r _ [408, 18, 251, 20, 255, 256, 2, 257, 365, 366, 367, 219, 220, 221, 316, 317, 318, 319, 252, 253, 371, 372, 373, 26, 374, 375, 376, 377, 378, 379, 44, 380, 381, 382, 383, 384, 320, 321, 322, 30, 323, 72, 324, 259, 260, 261, 325, 326, 327, 328, 71, 268, 267, 329, 330, 331, 70, 332, 333, 76, 334, 335, 336, 337, 274, 275, 276, 277, 663, 664, 665, 706, 707, 711, 712, 713, 714, 715, 716, 717, 718, 719, 720, 721, 722, 708, 709, 710, 723, 724] rfl (by decide +kernel)
set_option maxRecDepth 20000 in
theorem gL_law_X5_share : GoodIn wsL_law (wsV RL 73 RX5 yX5_share wsX5_share) := goodIn_app (goodIn_of _ (by decide +kernel)) ggL_law_X5_share
set_option maxRecDepth 20000 in
theorem ggL_law_X6_share : GoodIn wsL_law wsX6_share := goodIn_r _ [412, 282, 88, 89, 283, 284, 285, 5, 286, 207, 287, 288, 289, 390, 391, 392, 233, 234, 235, 290, 291, 292, 293, 342, 343, 344, 345, 86, 298, 299, 300, 301, 84, 393, 394, 395, 396, 397, 398, 399, 400, 90, 401, 402, 403, 404, 346, 347, 348, 349, 92, 91, 666, 667, 668, 669, 670, 671, 672, 673, 674, 675, 676, 677, 678, 679, 680, 681, 682, 683, 684, 685, 686, 687, 688, 689, 690, 691, 692, 693, 694, 695, 696, 697] rfl (by decide +kernel)
set_option maxRecDepth 20000 in
theorem gL_law_X6_share : GoodIn wsL_law (wsV RL 77 RX6 yX6_share wsX6_share) := goodIn_app (goodIn_of _ (by decide +kernel)) ggL_law_X6_share
