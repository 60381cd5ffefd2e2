set_option maxRecDepth 20000 in
theorem ggL_look_X4_look : GoodIn wsL_look wsX4_look := goodIn_ca (goodIn_r _ [6, 7, 8, 9, 10, 11, 12, 13, 5, 14, 15, 16, 17, 18, 19, 20, 21, 22, 23, 24, 25, 26, 27, 28, 29, 30, 31, 32, 33, 34, 35, 36, 37, 38, 39, 40, 41, 42, 43, 44, 45, 46, 47, 48, 49, 50, 51, 52, 53, 54, 55, 56, 57, 58, 59, 60, 61, 62, 63, 64, 65, 66, 67, 68, 69, 70, 71, 72, 73, 74, 75, 76, 77, 78, 79, 80, 81, 82, 83, 84, 85, 86, 87, 88, 89, 90, 91, 92, 93, 94, 95, 96, 97, 98, 99, 100, 101, 102, 103, 104, 105, 106, 107, 108, 109, 110, 111, 112, 113, 114, 115, 116, 117, 118, 119, 120, 121, 122, 123, 124, 125, 126, 127, 128, 129, 130, 131, 132, 133, 134, 135, 136, 137, 138, 139, 140, 141, 142, 143, 144, 145, 146, 147, 148, 149, 150, 151, 152, 153, 154, 155, 156, 157, 158, 159, 160, 161, 162, 163, 164, 165, 166, 167, 168, 169, 170, 171, 172, 173, 174, 175, 176, 177, 178, 179, 180, 181, 182, 183, 184, 185, 186, 187, 188, 189, 190] (by decide +kernel) (by decide +kernel)) (goodIn_sub (fun _ h => List.mem_cons_of_mem _ (List.mem_append_right _ h)) (by decide +kernel))
set_option maxRecDepth 20000 in
theorem gL_look_X4_look : GoodIn wsL_look (wsV RL 7 RX4 yX4_look wsX4_look) := goodIn_app (goodIn_of _ (by decide +kernel)) ggL_look_X4_look
theorem dL_look_0 : decode cL_look 0 = .ok (.aload_n 3, 1) := by decide +kernel
theorem dL_look_1 : decode cL_look 1 = .ok (.iconst 0, 1) := by decide +kernel
theorem dL_look_2 : decode cL_look 2 = .ok (.aload_n 0, 1) := by decide +kernel
theorem dL_look_3 : decode cL_look 3 = .ok (.iload_n 1, 1) := by decide +kernel
theorem dL_look_4 : decode cL_look 4 = .ok (.iload_n 2, 1) := by decide +kernel
theorem dL_look_5 : decode cL_look 5 = .ok (.invokevirtual 7, 3) := by decide +kernel
theorem dL_look_8 : decode cL_look 8 = .ok (.i2l, 1) := by decide +kernel
theorem dL_look_9 : decode cL_look 9 = .ok (.lastore, 1) := by decide +kernel
theorem dL_look_10 : decode cL_look 10 = .ok (.goto 7, 3) := by decide +kernel
theorem dL_look_13 : decode cL_look 13 = .ok (.astore 4, 2) := by decide +kernel
theorem dL_look_15 : decode cL_look 15 = .ok (.iconst 1, 1) := by decide +kernel
theorem dL_look_16 : decode cL_look 16 = .ok (.ireturn, 1) := by decide +kernel
theorem dL_look_17 : decode cL_look 17 = .ok (.iconst 0, 1) := by decide +kernel
theorem dL_look_18 : decode cL_look 18 = .ok (.ireturn, 1) := by decide +kernel
set_option maxRecDepth 20000 in
theorem ggL_law_X4_init : GoodIn wsL_law wsX4_init := goodIn_r _ [10, 11, 12, 13, 14, 15, 16, 17, 18, 19, 20, 21, 22, 23, 24, 25, 26, 27, 28, 29, 30, 31, 32, 33, 34, 35, 36, 37, 38, 39, 40, 41, 42, 43, 44, 45, 46, 47, 48, 49, 50, 51, 52, 53, 54, 55, 56, 57, 58, 59, 60, 61, 62, 63, 64, 65, 66, 67, 68, 69, 70, 71, 72, 73, 74, 75, 76, 77, 687, 688, 689, 690, 691, 692, 693, 694, 695, 696, 727, 728, 729, 730, 731, 732, 733, 734, 735, 736, 737, 738, 739, 740, 741, 742, 743, 744, 745, 746, 747, 748, 749, 750, 751, 752, 753, 754, 755, 756] (by decide +kernel) (by decide +kernel)
set_option maxRecDepth 20000 in
theorem gL_law_X4_init : GoodIn wsL_law (wsX4_init) := ggL_law_X4_init
set_option maxRecDepth 20000 in
theorem ggL_law_X5_init : GoodIn wsL_law wsX5_init := goodIn_r _ [80, 81, 12, 13, 14, 82, 83, 84, 6, 85, 86, 87, 88, 89, 90, 91, 92, 93, 94, 95, 96, 97, 98, 99, 100, 101, 102, 103, 16, 104, 105, 106, 107, 108, 109, 110, 111, 112, 113, 114, 697, 698, 699, 700, 701, 702, 703, 704, 705, 706, 707, 708, 709, 710, 711, 712, 713, 714, 715, 716, 717, 718, 719, 720, 721, 722, 723, 724, 725, 726] (by decide +kernel) (by decide +kernel)
set_option maxRecDepth 20000 in
theorem gL_law_X5_init : GoodIn wsL_law (wsX5_init) := ggL_law_X5_init
set_option maxRecDepth 20000 in
theorem ggL_law_X4_kinds : GoodIn wsL_law wsX4_kinds := goodIn_r _ [118, 15, 36, 119, 120, 2, 121, 122, 123, 124, 125, 126, 127, 128, 129, 130, 18, 131, 132, 133, 134, 135, 136, 137, 35, 138, 139, 687, 688, 689, 690, 691, 692, 693, 694, 695, 696, 745, 746, 747, 748, 749, 750, 751, 752, 753, 754, 755, 756] (by decide +kernel) (by decide +kernel)
set_option maxRecDepth 20000 in
theorem gL_law_X4_kinds : GoodIn wsL_law (wsV RL 19 RX4 yX4_kinds wsX4_kinds) := goodIn_app (goodIn_of _ (by decide +kernel)) ggL_law_X4_kinds
set_option maxRecDepth 20000 in
theorem ggL_law_X5_kinds : GoodIn wsL_law wsX5_kinds := goodIn_r _ [143, 144, 103, 145, 146, 5, 147, 697, 698, 699, 700, 701, 702, 703, 704, 705, 706, 707, 708, 709, 710, 711, 712, 713, 714, 715, 716, 717, 718, 719, 720, 721, 722, 723, 724, 725, 726] (by decide +kernel) (by decide +kernel)
set_option maxRecDepth 20000 in
theorem gL_law_X5_kinds : GoodIn wsL_law (wsV RL 23 RX5 yX5_kinds wsX5_kinds) := goodIn_app (goodIn_of _ (by decide +kernel)) ggL_law_X5_kinds
set_option maxRecDepth 20000 in
theorem ggL_law_X4_name : GoodIn wsL_law wsX4_name := goodIn_r _ [151, 17, 119, 120, 2, 121, 687, 688, 689, 690, 691, 692, 693, 694, 695, 696] (by decide +kernel) (by decide +kernel)
set_option maxRecDepth 20000 in
theorem gL_law_X4_name : GoodIn wsL_law (wsV RL 24 RX4 yX4_name wsX4_name) := goodIn_app (goodIn_of _ (by decide +kernel)) ggL_law_X4_name
set_option maxRecDepth 20000 in
theorem ggL_law_X5_name : GoodIn wsL_law wsX5_name := goodIn_r _ [155, 144, 104, 145, 146, 5, 147, 697, 698, 699, 700, 701, 702, 703, 704, 705, 706, 707, 708, 709, 710, 711, 712, 713, 714, 715, 716, 717, 718, 719, 720, 721, 722, 723, 724, 725, 726] (by decide +kernel) (by decide +kernel)
set_option maxRecDepth 20000 in
theorem gL_law_X5_name : GoodIn wsL_law (wsV RL 28 RX5 yX5_name wsX5_name) := goodIn_app (goodIn_of _ (by decide +kernel)) ggL_law_X5_name
set_option maxRecDepth 20000 in
theorem ggL_law_X4_word : GoodIn wsL_law wsX4_word := goodIn_r _ [159, 126, 18, 19, 119, 120, 2, 121, 687, 688, 689, 690, 691, 692, 693, 694, 695, 696] (by decide +kernel) (by decide +kernel)
set_option maxRecDepth 20000 in
theorem gL_law_X4_word : GoodIn wsL_law (wsV RL 29 RX4 yX4_word wsX4_word) := goodIn_app (goodIn_of _ (by decide +kernel)) ggL_law_X4_word
set_option maxRecDepth 20000 in
theorem ggL_law_X5_word : GoodIn wsL_law wsX5_word := goodIn_r _ [163, 144, 164, 105, 106, 145, 146, 5, 147, 697, 698, 699, 700, 701, 702, 703, 704, 705, 706, 707, 708, 709, 710, 711, 712, 713, 714, 715, 716, 717, 718, 719, 720, 721, 722, 723, 724, 725, 726] (by decide +kernel) (by decide +kernel)
set_option maxRecDepth 20000 in
theorem gL_law_X5_word : GoodIn wsL_law (wsV RL 33 RX5 yX5_word wsX5_word) := goodIn_app (goodIn_of _ (by decide +kernel)) ggL_law_X5_word
set_option maxRecDepth 20000 in
theorem ggL_law_X4_drop : GoodIn wsL_law wsX4_drop := goodIn_r _ [168, 126, 36, 135, 136, 137, 35, 138, 139, 687, 688, 689, 690, 691, 692, 693, 694, 695, 696, 745, 746, 747, 748, 749, 750, 751, 752, 753, 754, 755, 756] (by decide +kernel) (by decide +kernel)
set_option maxRecDepth 20000 in
theorem gL_law_X4_drop : GoodIn wsL_law (wsV RL 34 RX4 yX4_drop wsX4_drop) := goodIn_app (goodIn_of _ (by decide +kernel)) ggL_law_X4_drop
set_option maxRecDepth 20000 in
theorem ggL_law_X5_drop : GoodIn wsL_law wsX5_drop := goodIn_r _ [172, 144, 164, 697, 698, 699, 700, 701, 702, 703, 704, 705, 706, 707, 708, 709, 710, 711, 712, 713, 714, 715, 716, 717, 718, 719, 720, 721, 722, 723, 724, 725, 726] (by decide +kernel) (by decide +kernel)
set_option maxRecDepth 20000 in
theorem gL_law_X5_drop : GoodIn wsL_law (wsV RL 38 RX5 yX5_drop wsX5_drop) := goodIn_app (goodIn_of _ (by decide +kernel)) ggL_law_X5_drop
set_option maxRecDepth 20000 in
theorem ggL_law_X4_hand : GoodIn wsL_law wsX4_hand := goodIn_r _ [176, 19, 36, 131, 132, 133, 2, 134, 126, 135, 136, 137, 35, 138, 139, 687, 688, 689, 690, 691, 692, 693, 694, 695, 696, 745, 746, 747, 748, 749, 750, 751, 752, 753, 754, 755, 756] (by decide +kernel) (by decide +kernel)
set_option maxRecDepth 20000 in
theorem gL_law_X4_hand : GoodIn wsL_law (wsV RL 39 RX4 yX4_hand wsX4_hand) := goodIn_app (goodIn_of _ (by decide +kernel)) ggL_law_X4_hand
set_option maxRecDepth 20000 in
theorem ggL_law_X5_hand : GoodIn wsL_law wsX5_hand := goodIn_r _ [180, 144, 164, 106, 697, 698, 699, 700, 701, 702, 703, 704, 705, 706, 707, 708, 709, 710, 711, 712, 713, 714, 715, 716, 717, 718, 719, 720, 721, 722, 723, 724, 725, 726] (by decide +kernel) (by decide +kernel)
set_option maxRecDepth 20000 in
theorem gL_law_X5_hand : GoodIn wsL_law (wsV RL 42 RX5 yX5_hand wsX5_hand) := goodIn_app (goodIn_of _ (by decide +kernel)) ggL_law_X5_hand
set_option maxRecDepth 20000 in
theorem ggL_law_X4_feed : GoodIn wsL_law wsX4_feed := goodIn_r _ [184, 23, 185, 186, 187, 22, 188, 189, 190, 191, 192, 193, 41, 687, 688, 689, 690, 691, 692, 693, 694, 695, 696, 727, 728] (by decide +kernel) (by decide +kernel)
set_option maxRecDepth 20000 in
theorem gL_law_X4_feed : GoodIn wsL_law (wsV RL 45 RX4 yX4_feed wsX4_feed) := goodIn_app (goodIn_of _ (by decide +kernel)) ggL_law_X4_feed
set_option maxRecDepth 20000 in
theorem ggL_law_X5_feed : GoodIn wsL_law wsX5_feed := goodIn_r _ [197, 144, 198, 199, 200, 201, 5, 202, 82, 697, 698, 699, 700, 701, 702, 703, 704, 705, 706, 707, 708, 709, 710, 711, 712, 713, 714, 715, 716, 717, 718, 719, 720, 721, 722, 723, 724, 725, 726] (by decide +kernel) (by decide +kernel)
set_option maxRecDepth 20000 in
theorem gL_law_X5_feed : GoodIn wsL_law (wsV RL 49 RX5 yX5_feed wsX5_feed) := goodIn_app (goodIn_of _ (by decide +kernel)) ggL_law_X5_feed
set_option maxRecDepth 20000 in
theorem ggL_law_X4_grammar : GoodIn wsL_law wsX4_grammar := goodIn_r _ [206, 27, 32, 23, 31, 36, 207, 208, 209, 26, 210, 211, 212, 213, 214, 215, 216, 30, 217, 218, 219, 220, 221, 222, 223, 224, 46, 225, 226, 227, 228, 229, 230, 231, 22, 232, 193, 41, 233, 234, 235, 236, 237, 238, 239, 240, 241, 242, 243, 244, 245, 246, 247, 248, 249, 250, 251, 252, 253, 254, 255, 256, 257, 258, 259, 260, 261, 262, 263, 264, 265, 266, 267, 268, 269, 270, 271, 272, 273, 274, 275, 276, 277, 278, 279, 280, 281, 282, 283, 284, 285, 286, 287, 288, 289, 290, 291, 292, 293, 294, 295, 296, 297, 298, 299, 300, 301, 302, 303, 304, 305, 306, 307, 308, 309, 310, 311, 312, 313, 314, 315, 316, 50, 51, 52, 53, 54, 317, 318, 319, 320, 321, 322, 323, 324, 325, 326, 327, 328, 55, 56, 57, 329, 330, 331, 332, 333, 334, 335, 336, 58, 337, 338, 339, 340, 341, 2, 342, 343, 344, 345, 346, 347, 348, 349, 350, 351, 352, 353, 354, 355, 356, 357, 358, 359, 360, 361, 362, 135, 136, 137, 35, 138, 139, 687, 688, 689, 690, 691, 692, 693, 694, 695, 696, 729, 730, 731, 732, 733, 734, 735, 736, 737, 738, 739, 740, 741, 742, 743, 744, 727, 728, 745, 746, 747, 748, 749, 750, 751, 752, 753, 754, 755, 756] (by decide +kernel) (by decide +kernel)
set_option maxRecDepth 20000 in
theorem gL_law_X4_grammar : GoodIn wsL_law (wsV RL 50 RX4 yX4_grammar wsX4_grammar) := goodIn_app (goodIn_of _ (by decide +kernel)) ggL_law_X4_grammar
set_option maxRecDepth 20000 in
theorem ggL_law_X5_grammar : GoodIn wsL_law wsX5_grammar := goodIn_r _ [366, 144, 367, 368, 99, 101, 369, 83, 370, 371, 372, 373, 5, 374, 198, 375, 82, 84, 376, 377, 378, 85, 379, 380, 381, 382, 383, 384, 385, 386, 387, 388, 389, 390, 391, 392, 393, 394, 98, 395, 396, 397, 398, 100, 399, 400, 401, 402, 403, 404, 405, 406, 407, 408, 409, 410, 411, 412, 413, 414, 415, 416, 417, 418, 419, 420, 421, 422, 423, 424, 425, 426, 427, 428, 429, 430, 102, 697, 698, 699, 700, 701, 702, 703, 704, 705, 706, 707, 708, 709, 710, 711, 712, 713, 714, 715, 716, 717, 718, 719, 720, 721, 722, 723, 724, 725, 726] (by decide +kernel) (by decide +kernel)
set_option maxRecDepth 20000 in
theorem gL_law_X5_grammar : GoodIn wsL_law (wsV RL 53 RX5 yX5_grammar wsX5_grammar) := goodIn_app (goodIn_of _ (by decide +kernel)) ggL_law_X5_grammar
set_option maxRecDepth 20000 in
theorem ggL_law_X4_cost : GoodIn wsL_law wsX4_cost := goodIn_r _ [434, 36, 435, 436, 437, 2, 438, 126, 31, 15, 19, 127, 128, 129, 130, 18, 131, 132, 133, 134, 119, 120, 121, 439, 440, 441, 35, 442, 139, 63, 70, 64, 443, 444, 445, 446, 447, 448, 449, 450, 451, 452, 453, 454, 455, 456, 457, 458, 459, 460, 461, 462, 30, 463, 50, 51, 54, 351, 352, 353, 354, 218, 464, 465, 466, 356, 357, 358, 52, 341, 342, 467, 468, 469, 470, 56, 337, 338, 339, 340, 219, 471, 472, 473, 474, 65, 69, 66, 67, 68, 475, 476, 477, 478, 479, 480, 481, 482, 55, 57, 483, 484, 485, 486, 487, 488, 489, 490, 491, 492, 493, 494, 71, 72, 495, 496, 497, 498, 499, 500, 501, 502, 503, 504, 687, 688, 689, 690, 691, 692, 693, 694, 695, 696, 745, 746, 747, 748, 749, 750, 751, 752, 753, 754, 755, 756, 734, 735, 736, 737, 738, 739, 740, 741, 742, 743, 744] (by decide +kernel) (by decide +kernel)
set_option maxRecDepth 20000 in
theorem gL_law_X4_cost : GoodIn wsL_law (wsV RL 54 RX4 yX4_cost wsX4_cost) := goodIn_app (goodIn_of _ (by decide +kernel)) ggL_law_X4_cost
set_option maxRecDepth 20000 in
theorem ggL_law_X5_cost : GoodIn wsL_law wsX5_cost := goodIn_r _ [508, 144, 107, 509, 510, 511, 5, 512, 164, 513, 101, 367, 111, 514, 515, 516, 517, 518, 108, 519, 520, 521, 522, 102, 523, 524, 525, 526, 527, 528, 529, 530, 99, 531, 532, 533, 534, 106, 103, 105, 535, 536, 537, 538, 100, 539, 540, 541, 542, 543, 544, 545, 546, 547, 548, 549, 550, 110, 109, 697, 698, 699, 700, 701, 702, 703, 704, 705, 706, 707, 708, 709, 710, 711, 712, 713, 714, 715, 716, 717, 718, 719, 720, 721, 722, 723, 724, 725, 726] (by decide +kernel) (by decide +kernel)
set_option maxRecDepth 20000 in
theorem gL_law_X5_cost : GoodIn wsL_law (wsV RL 57 RX5 yX5_cost wsX5_cost) := goodIn_app (goodIn_of _ (by decide +kernel)) ggL_law_X5_cost
set_option maxRecDepth 20000 in
theorem ggL_law_X4_second : GoodIn wsL_law wsX4_second := goodIn_r _ [554, 36, 435, 436, 437, 2, 438, 126, 31, 15, 19, 127, 128, 129, 130, 18, 131, 132, 133, 134, 119, 120, 121, 439, 440, 441, 35, 442, 139, 63, 70, 64, 443, 444, 445, 446, 447, 448, 449, 450, 451, 452, 453, 454, 455, 456, 457, 458, 459, 460, 461, 462, 30, 463, 50, 51, 54, 351, 352, 353, 354, 218, 464, 465, 466, 356, 357, 358, 52, 341, 342, 467, 468, 469, 470, 56, 337, 338, 339, 340, 219, 471, 472, 473, 474, 65, 69, 66, 67, 68, 475, 476, 477, 478, 479, 480, 481, 482, 55, 57, 483, 484, 485, 486, 487, 488, 489, 490, 491, 492, 493, 494, 71, 72, 495, 496, 497, 498, 499, 500, 555, 556, 557, 558, 687, 688, 689, 690, 691, 692, 693, 694, 695, 696, 745, 746, 747, 748, 749, 750, 751, 752, 753, 754, 755, 756, 734, 735, 736, 737, 738, 739, 740, 741, 742, 743, 744] (by decide +kernel) (by decide +kernel)
set_option maxRecDepth 20000 in
theorem gL_law_X4_second : GoodIn wsL_law (wsV RL 58 RX4 yX4_second wsX4_second) := goodIn_app (goodIn_of _ (by decide +kernel)) ggL_law_X4_second
set_option maxRecDepth 20000 in
theorem ggL_law_X5_second : GoodIn wsL_law wsX5_second := goodIn_r _ [562, 144, 108, 518, 509, 510, 511, 5, 512, 164, 513, 101, 367, 111, 107, 514, 515, 516, 517, 519, 520, 521, 522, 102, 523, 524, 525, 526, 527, 528, 529, 530, 99, 531, 532, 533, 534, 106, 103, 105, 535, 536, 537, 538, 100, 539, 540, 541, 542, 543, 544, 545, 546, 547, 548, 549, 550, 110, 109, 697, 698, 699, 700, 701, 702, 703, 704, 705, 706, 707, 708, 709, 710, 711, 712, 713, 714, 715, 716, 717, 718, 719, 720, 721, 722, 723, 724, 725, 726] (by decide +kernel) (by decide +kernel)
set_option maxRecDepth 20000 in
theorem gL_law_X5_second : GoodIn wsL_law (wsV RL 61 RX5 yX5_second wsX5_second) := goodIn_app (goodIn_of _ (by decide +kernel)) ggL_law_X5_second
set_option maxRecDepth 20000 in
theorem ggL_law_L_look : GoodIn wsL_law wsL_look := goodIn_ca (goodIn_r _ [566, 567, 568, 569, 570, 2, 571, 572, 573, 36, 31, 435, 436, 437, 438, 126, 15, 19, 127, 128, 129, 130, 18, 131, 132, 133, 134, 119, 120, 121, 439, 440, 441, 35, 442, 139, 63, 70, 64, 443, 444, 445, 446, 447, 448, 449, 450, 451, 452, 453, 454, 455, 456, 457, 458, 459, 460, 461, 462, 30, 463, 50, 51, 54, 351, 352, 353, 354, 218, 464, 465, 466, 356, 357, 358, 52, 341, 342, 467, 468, 469, 470, 56, 337, 338, 339, 340, 219, 471, 472, 473, 474, 65, 69, 66, 67, 68, 475, 476, 477, 478, 479, 480, 481, 482, 55, 57, 483, 484, 485, 486, 487, 488, 489, 490, 491, 492, 493, 494, 71, 72, 495, 496, 497, 498, 499, 500, 501, 502, 503, 504, 574, 575, 576, 577, 578, 579, 580, 581, 582, 583, 584, 585, 586, 587, 588, 589, 590, 591, 592, 593, 594, 595, 596, 597, 17, 598, 599, 687, 688, 689, 690, 691, 692, 693, 694, 695, 696, 745, 746, 747, 748, 749, 750, 751, 752, 753, 754, 755, 756, 734, 735, 736, 737, 738, 739, 740, 741, 742, 743, 744] (by decide +kernel) (by decide +kernel)) (goodIn_sub (fun _ h => List.mem_append_right _ h) (by decide +kernel))
set_option maxRecDepth 20000 in
theorem gL_law_L_look : GoodIn wsL_law (va_wsS RL 62 yL_look wsL_look) := goodIn_app (goodIn_of _ (by decide +kernel)) ggL_law_L_look
set_option maxRecDepth 20000 in
theorem ggL_law_X5_look : GoodIn wsL_law wsX5_look := goodIn_r _ [603, 164, 144, 109, 110, 111, 509, 510, 511, 5, 512, 513, 101, 367, 107, 514, 515, 516, 517, 518, 108, 519, 520, 521, 522, 102, 523, 524, 525, 526, 527, 528, 529, 530, 99, 531, 532, 533, 534, 106, 103, 105, 535, 536, 537, 538, 100, 539, 540, 541, 542, 543, 544, 545, 546, 547, 548, 549, 550, 604, 605, 606, 607, 104, 697, 698, 699, 700, 701, 702, 703, 704, 705, 706, 707, 708, 709, 710, 711, 712, 713, 714, 715, 716, 717, 718, 719, 720, 721, 722, 723, 724, 725, 726] (by decide +kernel) (by decide +kernel)
set_option maxRecDepth 20000 in
theorem gL_law_X5_look : GoodIn wsL_law (wsV RL 67 RX5 yX5_look wsX5_look) := goodIn_app (goodIn_of _ (by decide +kernel)) ggL_law_X5_look
set_option maxRecDepth 20000 in
theorem ggL_law_X5_thrown : GoodIn wsL_law wsX5_thrown := goodIn_r _ [611, 144, 697, 698, 699, 700, 701, 702, 703, 704, 705, 706, 707, 708, 709, 710, 711, 712, 713, 714, 715, 716, 717, 718, 719, 720, 721, 722, 723, 724, 725, 726] (by decide +kernel) (by decide +kernel)
set_option maxRecDepth 20000 in
theorem gL_law_X5_thrown : GoodIn wsL_law (wsV RL 68 RX5 yX5_thrown wsX5_thrown) := goodIn_app (goodIn_of _ (by decide +kernel)) ggL_law_X5_thrown
set_option maxRecDepth 20000 in
theorem ggL_law_X4_last : GoodIn wsL_law wsX4_last := goodIn_r _ [615, 36, 435, 436, 437, 2, 438, 126, 31, 15, 19, 127, 128, 129, 130, 18, 131, 132, 133, 134, 119, 120, 121, 439, 440, 441, 35, 442, 139, 63, 70, 64, 443, 444, 445, 446, 447, 448, 449, 450, 451, 452, 453, 454, 455, 456, 457, 458, 459, 460, 461, 462, 30, 463, 50, 51, 54, 351, 352, 353, 354, 218, 464, 465, 466, 356, 357, 358, 52, 341, 342, 467, 468, 469, 470, 56, 337, 338, 339, 340, 219, 471, 472, 473, 474, 65, 69, 66, 67, 68, 475, 476, 477, 478, 479, 480, 481, 482, 55, 57, 483, 484, 485, 486, 487, 488, 489, 490, 491, 492, 493, 494, 71, 72, 495, 496, 497, 498, 499, 500, 501, 502, 503, 504, 687, 688, 689, 690, 691, 692, 693, 694, 695, 696, 745, 746, 747, 748, 749, 750, 751, 752, 753, 754, 755, 756, 734, 735, 736, 737, 738, 739, 740, 741, 742, 743, 744] (by decide +kernel) (by decide +kernel)
set_option maxRecDepth 20000 in
theorem gL_law_X4_last : GoodIn wsL_law (wsV RL 71 RX4 yX4_last wsX4_last) := goodIn_app (goodIn_of _ (by decide +kernel)) ggL_law_X4_last
set_option maxRecDepth 20000 in
theorem ggL_law_X5_last : GoodIn wsL_law wsX5_last := goodIn_r _ [619, 144, 513, 509, 510, 511, 5, 512, 164, 101, 367, 111, 107, 514, 515, 516, 517, 518, 108, 519, 520, 521, 522, 102, 523, 524, 525, 526, 527, 528, 529, 530, 99, 531, 532, 533, 534, 106, 103, 105, 535, 536, 537, 538, 100, 539, 540, 541, 542, 543, 544, 545, 546, 547, 548, 549, 550, 110, 109, 697, 698, 699, 700, 701, 702, 703, 704, 705, 706, 707, 708, 709, 710, 711, 712, 713, 714, 715, 716, 717, 718, 719, 720, 721, 722, 723, 724, 725, 726] (by decide +kernel) (by decide +kernel)
set_option maxRecDepth 20000 in
theorem gL_law_X5_last : GoodIn wsL_law (wsV RL 74 RX5 yX5_last wsX5_last) := goodIn_app (goodIn_of _ (by decide +kernel)) ggL_law_X5_last
set_option maxRecDepth 20000 in
theorem ggL_law_X4_sentences : GoodIn wsL_law wsX4_sentences := goodIn_r _ [623, 36, 435, 436, 437, 2, 438, 126, 31, 15, 19, 127, 128, 129, 130, 18, 131, 132, 133, 134, 119, 120, 121, 439, 440, 441, 35, 442, 139, 63, 70, 64, 443, 444, 445, 446, 447, 448, 449, 450, 451, 452, 453, 454, 455, 456, 457, 458, 459, 460, 461, 462, 30, 463, 50, 51, 54, 351, 352, 353, 354, 218, 464, 465, 466, 356, 357, 358, 52, 341, 342, 467, 468, 469, 470, 56, 337, 338, 339, 340, 219, 471, 472, 473, 474, 65, 69, 66, 67, 68, 475, 476, 477, 478, 479, 480, 481, 482, 55, 57, 483, 484, 485, 486, 487, 488, 489, 490, 491, 492, 493, 494, 71, 72, 495, 496, 497, 498, 499, 500, 501, 502, 503, 504, 624, 625, 626, 627, 628, 579, 580, 581, 687, 688, 689, 690, 691, 692, 693, 694, 695, 696, 745, 746, 747, 748, 749, 750, 751, 752, 753, 754, 755, 756, 734, 735, 736, 737, 738, 739, 740, 741, 742, 743, 744] (by decide +kernel) (by decide +kernel)
set_option maxRecDepth 20000 in
theorem gL_law_X4_sentences : GoodIn wsL_law (wsV RL 75 RX4 yX4_sentences wsX4_sentences) := goodIn_app (goodIn_of _ (by decide +kernel)) ggL_law_X4_sentences
set_option maxRecDepth 20000 in
theorem ggL_law_X5_sentences : GoodIn wsL_law wsX5_sentences := goodIn_r _ [632, 144, 164, 109, 509, 510, 511, 5, 512, 513, 101, 367, 111, 107, 514, 515, 516, 517, 518, 108, 519, 520, 521, 522, 102, 523, 524, 525, 526, 527, 528, 529, 530, 99, 531, 532, 533, 534, 106, 103, 105, 535, 536, 537, 538, 100, 539, 540, 541, 542, 543, 544, 545, 546, 547, 548, 549, 550, 110, 697, 698, 699, 700, 701, 702, 703, 704, 705, 706, 707, 708, 709, 710, 711, 712, 713, 714, 715, 716, 717, 718, 719, 720, 721, 722, 723, 724, 725, 726] (by decide +kernel) (by decide +kernel)
set_option maxRecDepth 20000 in
theorem gL_law_X5_sentences : GoodIn wsL_law (wsV RL 78 RX5 yX5_sentences wsX5_sentences) := goodIn_app (goodIn_of _ (by decide +kernel)) ggL_law_X5_sentences
set_option maxRecDepth 20000 in
theorem ggL_law_X4_settled : GoodIn wsL_law wsX4_settled := goodIn_r _ [636, 36, 31, 435, 436, 437, 2, 438, 126, 15, 19, 127, 128, 129, 130, 18, 131, 132, 133, 134, 119, 120, 121, 439, 440, 441, 35, 442, 139, 63, 70, 64, 443, 444, 445, 446, 447, 448, 449, 450, 451, 452, 453, 454, 455, 456, 457, 458, 459, 460, 461, 462, 30, 463, 50, 51, 54, 351, 352, 353, 354, 218, 464, 465, 466, 356, 357, 358, 52, 341, 342, 467, 468, 469, 470, 56, 337, 338, 339, 340, 219, 471, 472, 473, 474, 65, 69, 66, 67, 68, 475, 476, 477, 478, 479, 480, 481, 482, 55, 57, 483, 484, 485, 486, 487, 488, 489, 490, 491, 492, 493, 494, 71, 72, 495, 496, 497, 498, 499, 500, 637, 638, 639, 640, 641, 360, 361, 362, 58, 642, 643, 644, 645, 687, 688, 689, 690, 691, 692, 693, 694, 695, 696, 745, 746, 747, 748, 749, 750, 751, 752, 753, 754, 755, 756, 734, 735, 736, 737, 738, 739, 740, 741, 742, 743, 744] (by decide +kernel) (by decide +kernel)
set_option maxRecDepth 20000 in
theorem gL_law_X4_settled : GoodIn wsL_law (wsV RL 79 RX4 yX4_settled wsX4_settled) := goodIn_app (goodIn_of _ (by decide +kernel)) ggL_law_X4_settled
set_option maxRecDepth 20000 in
theorem ggL_law_X5_settled : GoodIn wsL_law wsX5_settled := goodIn_r _ [649, 144, 107, 164, 518, 108, 112, 650, 651, 652, 5, 653, 101, 367, 99, 519, 520, 521, 522, 102, 654, 655, 656, 657, 535, 536, 537, 538, 100, 527, 528, 529, 530, 531, 532, 533, 534, 106, 103, 105, 539, 540, 541, 542, 543, 544, 545, 546, 523, 524, 525, 526, 547, 548, 549, 550, 110, 109, 111, 658, 659, 660, 661, 113, 114, 662, 663, 664, 665, 697, 698, 699, 700, 701, 702, 703, 704, 705, 706, 707, 708, 709, 710, 711, 712, 713, 714, 715, 716, 717, 718, 719, 720, 721, 722, 723, 724, 725, 726] (by decide +kernel) (by decide +kernel)
set_option maxRecDepth 20000 in
theorem gL_law_X5_settled : GoodIn wsL_law (wsV RL 82 RX5 yX5_settled wsX5_settled) := goodIn_app (goodIn_of _ (by decide +kernel)) ggL_law_X5_settled
set_option maxRecDepth 20000 in
theorem ggL_law_X4_go : GoodIn wsL_law wsX4_go := goodIn_r _ [669, 31, 670, 352, 353, 30, 354, 218, 687, 688, 689, 690, 691, 692, 693, 694, 695, 696, 734, 735, 736, 737, 738, 739, 740, 741, 742, 743, 744] (by decide +kernel) (by decide +kernel)
set_option maxRecDepth 20000 in
theorem gL_law_X4_go : GoodIn wsL_law (wsV RL 83 RX4 yX4_go wsX4_go) := goodIn_app (goodIn_of _ (by decide +kernel)) ggL_law_X4_go
set_option maxRecDepth 20000 in
theorem ggL_law_X5_go : GoodIn wsL_law wsX5_go := goodIn_r _ [674, 144, 99, 367, 535, 536, 537, 5, 538, 100, 697, 698, 699, 700, 701, 702, 703, 704, 705, 706, 707, 708, 709, 710, 711, 712, 713, 714, 715, 716, 717, 718, 719, 720, 721, 722, 723, 724, 725, 726] (by decide +kernel) (by decide +kernel)
set_option maxRecDepth 20000 in
theorem gL_law_X5_go : GoodIn wsL_law (wsV RL 86 RX5 yX5_go wsX5_go) := goodIn_app (goodIn_of _ (by decide +kernel)) ggL_law_X5_go
set_option maxRecDepth 20000 in
theorem ggL_law_X4_count : GoodIn wsL_law wsX4_count := goodIn_r _ [678, 126, 31, 23, 679, 680, 681, 2, 682, 19, 687, 688, 689, 690, 691, 692, 693, 694, 695, 696, 734, 735, 736, 737, 738, 739, 740, 741, 742, 743, 744, 727, 728] (by decide +kernel) (by decide +kernel)
set_option maxRecDepth 20000 in
theorem gL_law_X4_count : GoodIn wsL_law (wsV RL 87 RX4 yX4_count wsX4_count) := goodIn_app (goodIn_of _ (by decide +kernel)) ggL_law_X4_count
set_option maxRecDepth 20000 in
theorem ggL_law_X5_count : GoodIn wsL_law wsX5_count := goodIn_r _ [686, 144, 164, 106, 99, 367, 101, 198, 697, 698, 699, 700, 701, 702, 703, 704, 705, 706, 707, 708, 709, 710, 711, 712, 713, 714, 715, 716, 717, 718, 719, 720, 721, 722, 723, 724, 725, 726] (by decide +kernel) (by decide +kernel)
set_option maxRecDepth 20000 in
theorem gL_law_X5_count : GoodIn wsL_law (wsV RL 90 RX5 yX5_count wsX5_count) := goodIn_app (goodIn_of _ (by decide +kernel)) ggL_law_X5_count
