set_option maxRecDepth 20000 in
theorem ggL_law_X5_weight : GoodIn wsL_law wsX5_weight := goodIn_r _ [663, 29, 15, 595, 614, 615, 616, 28, 617, 580, 135, 136, 137, 2, 138, 91, 201, 202, 203, 139, 140, 141, 17, 142, 37, 204, 205, 206, 207, 70, 71, 664, 665, 666, 667, 59, 600, 229, 230, 231, 38, 215, 216, 217, 218, 219, 67, 68, 69, 668, 669, 670, 671, 55, 626, 627, 628, 629, 54, 630, 631, 632, 633, 634, 62, 61, 635, 636, 637, 638, 639, 57, 640, 296, 297, 32, 298, 299, 300, 641, 302, 303, 304, 305, 642, 318, 319, 320, 321, 322, 643, 644, 645, 646, 748, 749, 750, 751, 752, 753, 788, 789, 790, 791, 792, 793, 794, 795, 796, 778, 779, 780, 781, 797, 798] (by decide +kernel) (by decide +kernel)
set_option maxRecDepth 20000 in
theorem gL_law_X5_weight : GoodIn wsL_law (wsV RL 93 RX5 yX5_weight wsX5_weight) := goodIn_app (goodIn_of _ (by decide +kernel)) ggL_law_X5_weight
set_option maxRecDepth 20000 in
theorem ggL_law_X6_weight : GoodIn wsL_law wsX6_weight := goodIn_r _ [675, 587, 86, 81, 79, 111, 112, 5, 113, 151, 152, 153, 154, 110, 155, 156, 157, 158, 76, 605, 606, 607, 608, 588, 77, 589, 78, 80, 652, 653, 654, 655, 82, 656, 657, 658, 659, 265, 266, 267, 268, 269, 270, 271, 272, 273, 274, 275, 276, 277, 278, 279, 280, 281, 754, 755, 756, 757, 758, 759, 760, 761, 762, 763, 764, 765, 766, 767, 768, 769, 770, 771, 772, 773, 774, 775, 776, 777] (by decide +kernel) (by decide +kernel)
set_option maxRecDepth 20000 in
theorem gL_law_X6_weight : GoodIn wsL_law (wsV RL 96 RX6 yX6_weight wsX6_weight) := goodIn_app (goodIn_of _ (by decide +kernel)) ggL_law_X6_weight
set_option maxRecDepth 20000 in
theorem ggL_law_X5_total : GoodIn wsL_law wsX5_total := goodIn_r _ [679, 29, 15, 91, 614, 615, 616, 28, 617, 580, 92, 93, 94, 2, 95, 680, 681, 682, 683, 54, 630, 639, 61, 582, 216, 217, 17, 218, 37, 70, 71, 219, 67, 68, 69, 643, 644, 645, 646, 55, 57, 640, 296, 297, 32, 298, 299, 300, 641, 302, 303, 304, 305, 684, 324, 325, 326, 685, 686, 687, 688, 62, 635, 636, 637, 638, 101, 102, 103, 104, 748, 749, 750, 751, 752, 753, 788, 789, 790, 791, 792, 793, 794, 795, 796, 778, 779, 780, 781, 797, 798] (by decide +kernel) (by decide +kernel)
set_option maxRecDepth 20000 in
theorem gL_law_X5_total : GoodIn wsL_law (wsV RL 97 RX5 yX5_total wsX5_total) := goodIn_app (goodIn_of _ (by decide +kernel)) ggL_law_X5_total
set_option maxRecDepth 20000 in
theorem ggL_law_X6_total : GoodIn wsL_law wsX6_total := goodIn_r _ [692, 252, 587, 110, 588, 589, 80, 81, 82, 79, 111, 112, 5, 113, 114, 115, 116, 117, 76, 77, 78, 265, 266, 267, 268, 269, 270, 271, 272, 273, 274, 275, 282, 283, 284, 285, 118, 119, 120, 121, 754, 755, 756, 757, 758, 759, 760, 761, 762, 763, 764, 765, 766, 767, 768, 769, 770, 771, 772, 773, 774, 775, 776, 777] (by decide +kernel) (by decide +kernel)
set_option maxRecDepth 20000 in
theorem gL_law_X6_total : GoodIn wsL_law (wsV RL 100 RX6 yX6_total wsX6_total) := goodIn_app (goodIn_of _ (by decide +kernel)) ggL_law_X6_total
set_option maxRecDepth 20000 in
theorem ggL_law_X5_safe : GoodIn wsL_law wsX5_safe := goodIn_r _ [696, 29, 618, 619, 2, 620, 621, 697, 698, 699, 28, 700, 54, 630, 701, 702, 703, 704, 61, 580, 55, 639, 640, 296, 297, 32, 298, 299, 300, 641, 302, 303, 304, 305, 642, 318, 319, 320, 321, 322, 748, 749, 750, 751, 752, 753, 788, 789, 790, 791, 792, 793, 794, 795, 796, 778, 779, 780, 781, 797, 798] (by decide +kernel) (by decide +kernel)
set_option maxRecDepth 20000 in
theorem gL_law_X5_safe : GoodIn wsL_law (wsV RL 101 RX5 yX5_safe wsX5_safe) := goodIn_app (goodIn_of _ (by decide +kernel)) ggL_law_X5_safe
set_option maxRecDepth 20000 in
theorem ggL_law_X6_safe : GoodIn wsL_law wsX6_safe := goodIn_r _ [708, 651, 80, 587, 81, 111, 112, 5, 113, 265, 266, 267, 268, 269, 270, 271, 272, 273, 274, 275, 276, 277, 278, 279, 280, 281, 754, 755, 756, 757, 758, 759, 760, 761, 762, 763, 764, 765, 766, 767, 768, 769, 770, 771, 772, 773, 774, 775, 776, 777] (by decide +kernel) (by decide +kernel)
set_option maxRecDepth 20000 in
theorem gL_law_X6_safe : GoodIn wsL_law (wsV RL 104 RX6 yX6_safe wsX6_safe) := goodIn_app (goodIn_of _ (by decide +kernel)) ggL_law_X6_safe
set_option maxRecDepth 20000 in
theorem ggL_law_X5_keep : GoodIn wsL_law wsX5_keep := goodIn_r _ [712, 15, 29, 595, 135, 136, 137, 2, 138, 91, 201, 202, 203, 139, 140, 141, 17, 142, 37, 204, 205, 206, 207, 70, 71, 713, 714, 715, 28, 716, 581, 58, 717, 225, 226, 227, 38, 600, 229, 230, 231, 215, 216, 217, 218, 219, 67, 68, 69, 748, 749, 750, 751, 752, 753, 788, 789, 790, 791, 792, 793, 794, 795, 796, 778, 779, 780, 781] (by decide +kernel) (by decide +kernel)
set_option maxRecDepth 20000 in
theorem gL_law_X5_keep : GoodIn wsL_law (wsV RL 105 RX5 yX5_keep wsX5_keep) := goodIn_app (goodIn_of _ (by decide +kernel)) ggL_law_X5_keep
set_option maxRecDepth 20000 in
theorem ggL_law_X6_keep : GoodIn wsL_law wsX6_keep := goodIn_r _ [721, 590, 83, 79, 80, 151, 152, 153, 5, 154, 110, 111, 112, 113, 155, 156, 157, 158, 76, 605, 606, 607, 608, 588, 77, 589, 78, 261, 262, 263, 264, 754, 755, 756, 757, 758, 759, 760, 761, 762, 763, 764, 765, 766, 767, 768, 769, 770, 771, 772, 773, 774, 775, 776, 777] (by decide +kernel) (by decide +kernel)
set_option maxRecDepth 20000 in
theorem gL_law_X6_keep : GoodIn wsL_law (wsV RL 108 RX6 yX6_keep wsX6_keep) := goodIn_app (goodIn_of _ (by decide +kernel)) ggL_law_X6_keep
set_option maxRecDepth 20000 in
theorem ggL_law_X5_kept : GoodIn wsL_law wsX5_kept := goodIn_r _ [725, 29, 726, 15, 91, 727, 92, 93, 94, 2, 95, 228, 229, 230, 17, 231, 71, 38, 215, 216, 217, 218, 37, 70, 219, 67, 68, 69, 101, 102, 103, 104, 748, 749, 750, 751, 752, 753, 788, 789, 790, 791, 792, 793, 794, 795, 796, 778, 779, 780, 781] (by decide +kernel) (by decide +kernel)
set_option maxRecDepth 20000 in
theorem gL_law_X5_kept : GoodIn wsL_law (wsV RL 109 RX5 yX5_kept wsX5_kept) := goodIn_app (goodIn_of _ (by decide +kernel)) ggL_law_X5_kept
set_option maxRecDepth 20000 in
theorem ggL_law_X6_kept : GoodIn wsL_law wsX6_kept := goodIn_r _ [731, 590, 110, 588, 589, 80, 79, 83, 111, 112, 5, 113, 114, 115, 116, 117, 76, 77, 78, 118, 119, 120, 121, 754, 755, 756, 757, 758, 759, 760, 761, 762, 763, 764, 765, 766, 767, 768, 769, 770, 771, 772, 773, 774, 775, 776, 777] (by decide +kernel) (by decide +kernel)
set_option maxRecDepth 20000 in
theorem gL_law_X6_kept : GoodIn wsL_law (wsV RL 112 RX6 yX6_kept wsX6_kept) := goodIn_app (goodIn_of _ (by decide +kernel)) ggL_law_X6_kept
set_option maxRecDepth 20000 in
theorem ggL_law_X5_many : GoodIn wsL_law wsX5_many := goodIn_r _ [735, 91, 29, 575, 726, 21, 343, 25, 501, 748, 749, 750, 751, 752, 753, 788, 789, 790, 791, 792, 793, 794, 795, 796, 782, 783, 784, 785, 786, 787] (by decide +kernel) (by decide +kernel)
set_option maxRecDepth 20000 in
theorem gL_law_X5_many : GoodIn wsL_law (wsV RL 113 RX5 yX5_many wsX5_many) := goodIn_app (goodIn_of _ (by decide +kernel)) ggL_law_X5_many
set_option maxRecDepth 20000 in
theorem ggL_law_X6_many : GoodIn wsL_law wsX6_many := goodIn_r _ [739, 110, 587, 590, 354, 543, 754, 755, 756, 757, 758, 759, 760, 761, 762, 763, 764, 765, 766, 767, 768, 769, 770, 771, 772, 773, 774, 775, 776, 777] (by decide +kernel) (by decide +kernel)
set_option maxRecDepth 20000 in
theorem gL_law_X6_many : GoodIn wsL_law (wsV RL 116 RX6 yX6_many wsX6_many) := goodIn_app (goodIn_of _ (by decide +kernel)) ggL_law_X6_many
set_option maxRecDepth 20000 in
theorem ggL_law_X5_drop : GoodIn wsL_law wsX5_drop := goodIn_r _ [743, 91, 748, 749, 750, 751, 752, 753] (by decide +kernel) (by decide +kernel)
set_option maxRecDepth 20000 in
theorem gL_law_X5_drop : GoodIn wsL_law (wsV RL 117 RX5 yX5_drop wsX5_drop) := goodIn_app (goodIn_of _ (by decide +kernel)) ggL_law_X5_drop
set_option maxRecDepth 20000 in
theorem ggL_law_X6_drop : GoodIn wsL_law wsX6_drop := goodIn_r _ [747, 110, 754, 755, 756, 757, 758, 759, 760, 761, 762, 763, 764, 765, 766, 767, 768, 769, 770, 771, 772, 773, 774, 775, 776, 777] (by decide +kernel) (by decide +kernel)
set_option maxRecDepth 20000 in
theorem gL_law_X6_drop : GoodIn wsL_law (wsV RL 120 RX6 yX6_drop wsX6_drop) := goodIn_app (goodIn_of _ (by decide +kernel)) ggL_law_X6_drop
