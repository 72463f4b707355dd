/-! The law's words stand in the tables. -/
theorem in_at {big ws : List Cond} (ps : List Nat) (hp : ws = ps.filterMap (fun i => big[i]?)) : ∀ w ∈ ws, w ∈ big := fun w hw => by
  rw [hp] at hw
  obtain ⟨i, -, hi⟩ := List.mem_filterMap.mp hw
  exact List.mem_of_getElem? hi
theorem in_app {big a b : List Cond} (h1 : ∀ w ∈ a, w ∈ big) (h2 : ∀ w ∈ b, w ∈ big) : ∀ w ∈ a ++ b, w ∈ big := fun w h => (List.mem_append.mp h).elim (h1 w) (h2 w)
set_option maxRecDepth 100000 in
theorem inr_1 : ∀ w ∈ wsL_law0_r1, w ∈ lw_tbl := in_at [56, 57, 41, 568, 569, 47, 937, 58, 59, 60, 61, 62, 63, 64, 65, 42, 215, 187, 216, 189, 217, 67, 68, 69] rfl
set_option maxRecDepth 100000 in
theorem inr_2 : ∀ w ∈ wsL_law0_r2, w ∈ lw_tbl := in_at [70, 71, 43, 186, 156, 157, 45, 188, 190, 192, 145, 194, 195, 196, 197, 72, 73, 74, 75, 76, 146, 78, 149, 80] rfl
set_option maxRecDepth 100000 in
theorem inr_3 : ∀ w ∈ wsL_law0_r3, w ∈ lw_tbl := in_at [44, 82, 83, 84, 85, 88, 92, 94, 97, 99, 102, 106, 108, 111, 114, 117, 159, 160, 161, 175, 162, 163, 46, 177] rfl
set_option maxRecDepth 100000 in
theorem inr_4 : ∀ w ∈ wsL_law0_r4, w ∈ lw_tbl := in_at [178, 165, 166, 167, 168, 169, 570, 571, 572, 573, 651, 652, 653, 654, 655, 656, 657, 658, 659, 660, 661, 662, 747, 663] rfl
set_option maxRecDepth 100000 in
theorem inr_5 : ∀ w ∈ wsL_law0_r5, w ∈ lw_tbl := in_at [664, 665, 666, 672, 574, 575, 576, 577, 578, 579, 580, 581, 582, 583, 584, 585, 586, 587, 588, 589, 590, 591, 592, 593] rfl
set_option maxRecDepth 100000 in
theorem inr_6 : ∀ w ∈ wsL_law0_r6, w ∈ lw_tbl := in_at [594, 595, 596, 597, 598, 599, 600, 601, 602, 603, 604, 605, 606, 607, 608, 609, 610, 611, 612, 613, 614, 615, 616, 617] rfl
set_option maxRecDepth 100000 in
theorem inr_7 : ∀ w ∈ wsL_law0_r7, w ∈ lw_tbl := in_at [618, 619, 620, 621, 622, 623, 624, 625, 626, 627, 628, 629, 630, 631, 632, 633, 634, 635, 636, 637, 675, 638, 639, 640] rfl
set_option maxRecDepth 100000 in
theorem inr_8 : ∀ w ∈ wsL_law0_r8, w ∈ lw_tbl := in_at [641, 642, 643, 644, 645, 676, 677, 678, 679, 680, 681, 646, 648, 14, 649, 667, 431, 432, 40, 433, 434, 435, 436, 437] rfl
set_option maxRecDepth 100000 in
theorem inr_9 : ∀ w ∈ wsL_law0_r9, w ∈ lw_tbl := in_at [438, 439, 51, 176, 191, 232, 233, 234, 235, 86, 90, 752, 753, 754, 755, 650, 748, 749, 750, 751, 502, 503, 504, 505] rfl
set_option maxRecDepth 100000 in
theorem inr_10 : ∀ w ∈ wsL_law0_r10, w ∈ lw_tbl := in_at [506, 507, 508, 294, 295, 296, 509, 510, 511, 309, 310, 311, 312, 756, 757, 758, 759, 760, 761, 762, 512, 513, 514, 515] rfl
set_option maxRecDepth 100000 in
theorem inr_11 : ∀ w ∈ wsL_law0_r11, w ∈ lw_tbl := in_at [516, 517, 518, 763, 764, 765, 766, 225, 226, 227, 228, 148, 87, 93, 101, 229, 230, 231, 236, 237, 52, 238, 239, 240] rfl
set_option maxRecDepth 100000 in
theorem inr_12 : ∀ w ∈ wsL_law0_r12, w ∈ lw_tbl := in_at [241, 242, 95, 98, 103, 243, 244, 245, 246, 247, 249, 251, 250, 53, 767, 768, 769, 770, 669, 771, 773, 15, 774, 775] rfl
set_option maxRecDepth 100000 in
theorem inr_13 : ∀ w ∈ wsL_law0_r13, w ∈ lw_tbl := in_at [776, 777, 778, 780, 16, 781, 782, 784, 17, 785, 786, 788, 18, 789, 790, 792, 19, 793, 252, 253, 254, 255, 107, 110] rfl
set_option maxRecDepth 100000 in
theorem inr_14 : ∀ w ∈ wsL_law0_r14, w ∈ lw_tbl := in_at [256, 258, 0, 259, 260, 262, 1, 263, 264, 265, 266, 267, 268, 269, 270, 271, 272, 273, 274, 275, 276, 281, 277, 279] rfl
set_option maxRecDepth 100000 in
theorem inr_15 : ∀ w ∈ wsL_law0_r15, w ∈ lw_tbl := in_at [2, 280, 794, 795, 796, 797, 798, 800, 20, 801, 802, 804, 21, 805, 283, 284, 285, 286, 119, 806, 807, 808, 809, 287] rfl
set_option maxRecDepth 100000 in
theorem inr_16 : ∀ w ∈ wsL_law0_r16, w ∈ lw_tbl := in_at [288, 289, 290, 150, 313, 291, 292, 293, 297, 298, 299, 300, 301, 302, 303, 304, 306, 3, 307, 100, 118, 314, 315, 316] rfl
set_option maxRecDepth 100000 in
theorem inr_17 : ∀ w ∈ wsL_law0_r17, w ∈ lw_tbl := in_at [317, 318, 810, 811, 812, 813, 814, 815, 816, 817, 819, 22, 820, 821, 823, 23, 824, 825, 827, 24, 828, 319, 320, 321] rfl
set_option maxRecDepth 100000 in
theorem inr_18 : ∀ w ∈ wsL_law0_r18, w ∈ lw_tbl := in_at [322, 829, 830, 831, 832, 323, 324, 325, 326, 833, 834, 835, 836, 327, 328, 329, 330, 331, 332, 333, 334, 335, 336, 337] rfl
set_option maxRecDepth 100000 in
theorem inr_19 : ∀ w ∈ wsL_law0_r19, w ∈ lw_tbl := in_at [338, 339, 340, 837, 838, 839, 840, 841, 843, 25, 844, 845, 846, 848, 26, 849, 850, 851, 852, 341, 342, 343, 344, 91] rfl
set_option maxRecDepth 100000 in
theorem inr_20 : ∀ w ∈ wsL_law0_r20, w ∈ lw_tbl := in_at [853, 854, 855, 856, 345, 346, 347, 348, 349, 351, 4, 352, 353, 354, 355, 356, 857, 858, 859, 860, 861, 863, 27, 864] rfl
set_option maxRecDepth 100000 in
theorem inr_21 : ∀ w ∈ wsL_law0_r21, w ∈ lw_tbl := in_at [357, 358, 359, 360, 116, 113, 361, 363, 5, 364, 365, 366, 367, 368, 147, 89, 112, 109, 369, 370, 371, 372, 373, 375] rfl
set_option maxRecDepth 100000 in
theorem inr_22 : ∀ w ∈ wsL_law0_r22, w ∈ lw_tbl := in_at [6, 376, 115, 104, 377, 379, 7, 380, 381, 383, 8, 384, 385, 387, 9, 388, 389, 391, 10, 392, 393, 395, 11, 396] rfl
set_option maxRecDepth 100000 in
theorem inr_23 : ∀ w ∈ wsL_law0_r23, w ∈ lw_tbl := in_at [397, 398, 399, 400, 401, 402, 404, 12, 405, 406, 407, 408, 409, 412, 413, 414, 415, 416, 417, 418, 865, 866, 867, 868] rfl
set_option maxRecDepth 100000 in
theorem inr_24 : ∀ w ∈ wsL_law0_r24, w ∈ lw_tbl := in_at [670, 673, 869, 871, 28, 872, 873, 875, 29, 876, 671, 674, 668, 877, 879, 30, 880, 881, 883, 31, 884, 885, 887, 32] rfl
set_option maxRecDepth 100000 in
theorem inr_25 : ∀ w ∈ wsL_law0_r25, w ∈ lw_tbl := in_at [888, 889, 891, 33, 892, 893, 895, 34, 896, 897, 899, 35, 900, 901, 903, 36, 904, 905, 907, 37, 908, 909, 911, 38] rfl
set_option maxRecDepth 100000 in
theorem inr_26 : ∀ w ∈ wsL_law0_r26, w ∈ lw_tbl := in_at [912, 913, 915, 39, 916, 419, 420, 421, 422, 917, 918, 919, 920, 423, 424, 425, 426, 921, 922, 923, 924, 427, 428, 429] rfl
set_option maxRecDepth 100000 in
theorem inr_27 : ∀ w ∈ wsL_law0_r27, w ∈ lw_tbl := in_at [430, 193, 925, 926, 927, 928, 519, 520, 521, 522, 523, 524, 525, 526, 530, 54, 527, 528, 529, 929, 930, 931, 932, 545] rfl
set_option maxRecDepth 100000 in
theorem inr_28 : ∀ w ∈ wsL_law0_r28, w ∈ lw_tbl := in_at [546, 547, 548, 549, 550, 551, 552, 553, 55, 96, 105, 933, 934, 935, 936] rfl
set_option maxRecDepth 100000 in
theorem inX0 : ∀ w ∈ wsX00, w ∈ lw_tbl := in_at [170, 172] rfl
set_option maxRecDepth 100000 in
theorem inX1 : ∀ w ∈ wsX10, w ∈ lw_tbl := in_at [198, 200, 202, 204, 206, 208, 210, 212] rfl
set_option maxRecDepth 100000 in
theorem inX2 : ∀ w ∈ wsX20, w ∈ lw_tbl := in_at [179, 181, 183] rfl
set_option maxRecDepth 100000 in
theorem inX3 : ∀ w ∈ wsX30, w ∈ lw_tbl := in_at [120, 122, 124, 126, 128, 130, 132, 134, 136, 138, 140, 142] rfl
set_option maxRecDepth 100000 in
theorem inX4 : ∀ w ∈ wsX40, w ∈ lw_tbl := in_at [151, 153] rfl
set_option maxRecDepth 100000 in
theorem inX5 : ∀ w ∈ wsX50, w ∈ lw_tbl := in_at [218, 220, 222] rfl
set_option maxRecDepth 100000 in
theorem inX6 : ∀ w ∈ wsX60, w ∈ lw_tbl := in_at [682, 684, 686, 688, 690, 692, 694, 696, 698, 700, 702, 704, 706, 708, 710, 712, 714, 716, 718, 720, 722, 724, 726, 728, 730, 732, 734, 736, 738, 740, 742, 744] rfl
set_option maxRecDepth 100000 in
theorem wsL_law_x0 : ∀ w ∈ (vx_at0 RX5 28 "java/lang/IndexOutOfBoundsException" ["java/lang/RuntimeException", "java/lang/Exception"]).filter goodWord, w ∈ lw_tbl := in_at [48, 461, 470, 474, 477, 479, 462, 463, 62, 63, 464, 469, 475, 491, 451, 492, 453, 493, 455, 465, 467, 457, 481, 482, 483, 484, 484, 485, 486, 487, 487, 488, 489, 462, 480, 440, 448, 449, 450, 452, 454, 456, 460, 459, 458] rfl
set_option maxRecDepth 100000 in
theorem wsL_law_x1 : ∀ w ∈ (vx_at0 RX5 170 "java/lang/IllegalArgumentException" ["java/lang/RuntimeException", "java/lang/Exception"]).filter goodWord, w ∈ lw_tbl := in_at [48, 461, 470, 474, 477, 479, 462, 463, 62, 63, 464, 469, 475, 491, 451, 492, 453, 493, 455, 465, 467, 457, 540, 541, 542, 484, 484, 485, 486, 487, 487, 488, 489, 462, 539, 531, 533, 472, 534, 535, 536, 537, 460, 459, 538] rfl
set_option maxRecDepth 100000 in
theorem wsL_law_x2 : ∀ w ∈ (vx_at0 RX5 176 "java/lang/IllegalStateException" ["java/lang/RuntimeException", "java/lang/Exception"]).filter goodWord, w ∈ lw_tbl := in_at [48, 461, 470, 474, 477, 479, 462, 463, 62, 63, 464, 469, 475, 491, 451, 492, 453, 493, 455, 465, 467, 457, 563, 564, 565, 484, 484, 485, 486, 487, 487, 488, 489, 462, 562, 554, 556, 473, 557, 558, 559, 560, 460, 459, 561] rfl
theorem wsL_law_in0 : ∀ w ∈ wsL_law0, w ∈ lw_tbl := in_app (in_app (in_app (in_app (in_app (in_app (in_app (in_app (in_app inr_1 (in_app inr_2 (in_app inr_3 (in_app inr_4 (in_app inr_5 (in_app inr_6 (in_app inr_7 (in_app inr_8 (in_app inr_9 (in_app inr_10 (in_app inr_11 (in_app inr_12 (in_app inr_13 (in_app inr_14 (in_app inr_15 (in_app inr_16 (in_app inr_17 (in_app inr_18 (in_app inr_19 (in_app inr_20 (in_app inr_21 (in_app inr_22 (in_app inr_23 (in_app inr_24 (in_app inr_25 (in_app inr_26 (in_app inr_27 (inr_28)))))))))))))))))))))))))))) inX5) inX6) inX1) inX4) inX2) inX3) inX0) (fun _ h => by cases h)
theorem wsL_law_in : ∀ w ∈ wsL_law, w ∈ lw_tbl := in_app (in_app (in_app wsL_law_in0 wsL_law_x0) wsL_law_x1) wsL_law_x2
set_option maxRecDepth 100000 in
theorem inJ10 : ∀ w ∈ wsJ100, w ∈ lw_tbl := in_at [] rfl
set_option maxRecDepth 100000 in
theorem inJ7 : ∀ w ∈ wsJ70, w ∈ lw_tbl := in_at [] rfl
