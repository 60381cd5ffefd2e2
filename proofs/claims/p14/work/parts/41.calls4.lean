set_option maxRecDepth 20000 in
theorem ggL_law_X5_sentences : GoodIn wsL_law wsX5_sentences := goodIn_r _ [628, 144, 164, 109, 509, 510, 511, 5, 512, 513, 101, 367, 111, 107, 514, 515, 516, 517, 518, 108, 519, 520, 521, 522, 102, 523, 524, 525, 526, 527, 528, 529, 530, 99, 531, 532, 533, 534, 106, 103, 105, 535, 536, 537, 538, 100, 539, 540, 541, 542, 543, 544, 545, 546, 547, 548, 549, 550, 110, 693, 694, 695, 696, 697, 698, 699, 700, 701, 702, 703, 704, 705, 706, 707, 708, 709, 710, 711, 712, 713, 714, 715, 716, 717, 718, 719, 720, 721, 722] (by decide +kernel) (by decide +kernel)
set_option maxRecDepth 20000 in
theorem gL_law_X5_sentences : GoodIn wsL_law (wsV RL 75 RX5 yX5_sentences wsX5_sentences) := goodIn_app (goodIn_of _ (by decide +kernel)) ggL_law_X5_sentences
set_option maxRecDepth 20000 in
theorem ggL_law_X4_settled : GoodIn wsL_law wsX4_settled := goodIn_r _ [632, 36, 31, 435, 436, 437, 2, 438, 126, 15, 19, 127, 128, 129, 130, 18, 131, 132, 133, 134, 119, 120, 121, 439, 440, 441, 35, 442, 139, 63, 70, 64, 443, 444, 445, 446, 447, 448, 449, 450, 451, 452, 453, 454, 455, 456, 457, 458, 459, 460, 461, 462, 30, 463, 50, 51, 54, 351, 352, 353, 354, 218, 464, 465, 466, 356, 357, 358, 52, 341, 342, 467, 468, 469, 470, 56, 337, 338, 339, 340, 219, 471, 472, 473, 474, 65, 69, 66, 67, 68, 475, 476, 477, 478, 479, 480, 481, 482, 55, 57, 483, 484, 485, 486, 487, 488, 489, 490, 491, 492, 493, 494, 71, 72, 495, 496, 497, 498, 499, 500, 633, 634, 635, 636, 637, 360, 361, 362, 58, 638, 639, 640, 641, 683, 684, 685, 686, 687, 688, 689, 690, 691, 692, 741, 742, 743, 744, 745, 746, 747, 748, 749, 750, 751, 752, 730, 731, 732, 733, 734, 735, 736, 737, 738, 739, 740] (by decide +kernel) (by decide +kernel)
set_option maxRecDepth 20000 in
theorem gL_law_X4_settled : GoodIn wsL_law (wsV RL 76 RX4 yX4_settled wsX4_settled) := goodIn_app (goodIn_of _ (by decide +kernel)) ggL_law_X4_settled
set_option maxRecDepth 20000 in
theorem ggL_law_X5_settled : GoodIn wsL_law wsX5_settled := goodIn_r _ [645, 144, 107, 164, 518, 108, 112, 646, 647, 648, 5, 649, 101, 367, 99, 519, 520, 521, 522, 102, 650, 651, 652, 653, 535, 536, 537, 538, 100, 527, 528, 529, 530, 531, 532, 533, 534, 106, 103, 105, 539, 540, 541, 542, 543, 544, 545, 546, 523, 524, 525, 526, 547, 548, 549, 550, 110, 109, 111, 654, 655, 656, 657, 113, 114, 658, 659, 660, 661, 693, 694, 695, 696, 697, 698, 699, 700, 701, 702, 703, 704, 705, 706, 707, 708, 709, 710, 711, 712, 713, 714, 715, 716, 717, 718, 719, 720, 721, 722] (by decide +kernel) (by decide +kernel)
set_option maxRecDepth 20000 in
theorem gL_law_X5_settled : GoodIn wsL_law (wsV RL 79 RX5 yX5_settled wsX5_settled) := goodIn_app (goodIn_of _ (by decide +kernel)) ggL_law_X5_settled
set_option maxRecDepth 20000 in
theorem ggL_law_X4_go : GoodIn wsL_law wsX4_go := goodIn_r _ [665, 31, 666, 352, 353, 30, 354, 218, 683, 684, 685, 686, 687, 688, 689, 690, 691, 692, 730, 731, 732, 733, 734, 735, 736, 737, 738, 739, 740] (by decide +kernel) (by decide +kernel)
set_option maxRecDepth 20000 in
theorem gL_law_X4_go : GoodIn wsL_law (wsV RL 80 RX4 yX4_go wsX4_go) := goodIn_app (goodIn_of _ (by decide +kernel)) ggL_law_X4_go
set_option maxRecDepth 20000 in
theorem ggL_law_X5_go : GoodIn wsL_law wsX5_go := goodIn_r _ [670, 144, 99, 367, 535, 536, 537, 5, 538, 100, 693, 694, 695, 696, 697, 698, 699, 700, 701, 702, 703, 704, 705, 706, 707, 708, 709, 710, 711, 712, 713, 714, 715, 716, 717, 718, 719, 720, 721, 722] (by decide +kernel) (by decide +kernel)
set_option maxRecDepth 20000 in
theorem gL_law_X5_go : GoodIn wsL_law (wsV RL 83 RX5 yX5_go wsX5_go) := goodIn_app (goodIn_of _ (by decide +kernel)) ggL_law_X5_go
set_option maxRecDepth 20000 in
theorem ggL_law_X4_count : GoodIn wsL_law wsX4_count := goodIn_r _ [674, 126, 31, 23, 675, 676, 677, 2, 678, 19, 683, 684, 685, 686, 687, 688, 689, 690, 691, 692, 730, 731, 732, 733, 734, 735, 736, 737, 738, 739, 740, 723, 724] (by decide +kernel) (by decide +kernel)
set_option maxRecDepth 20000 in
theorem gL_law_X4_count : GoodIn wsL_law (wsV RL 84 RX4 yX4_count wsX4_count) := goodIn_app (goodIn_of _ (by decide +kernel)) ggL_law_X4_count
set_option maxRecDepth 20000 in
theorem ggL_law_X5_count : GoodIn wsL_law wsX5_count := goodIn_r _ [682, 144, 164, 106, 99, 367, 101, 198, 693, 694, 695, 696, 697, 698, 699, 700, 701, 702, 703, 704, 705, 706, 707, 708, 709, 710, 711, 712, 713, 714, 715, 716, 717, 718, 719, 720, 721, 722] (by decide +kernel) (by decide +kernel)
set_option maxRecDepth 20000 in
theorem gL_law_X5_count : GoodIn wsL_law (wsV RL 87 RX5 yX5_count wsX5_count) := goodIn_app (goodIn_of _ (by decide +kernel)) ggL_law_X5_count
