set_option maxRecDepth 20000 in
theorem ggL_law_X6_read : GoodIn wsL_law wsX6_read := goodIn_r _ [450, 110, 354, 451, 452, 78, 114, 115, 116, 5, 117, 76, 77, 79, 453, 454, 455, 456, 84, 457, 458, 459, 460, 461, 462, 463, 464, 465, 466, 467, 468, 469, 470, 471, 472, 473, 474, 475, 476, 477, 478, 479, 480, 481, 111, 112, 113, 482, 483, 484, 485, 486, 487, 488, 489, 353, 490, 491, 492, 493, 494, 495, 496, 118, 119, 120, 121, 754, 755, 756, 757, 758, 759, 760, 761, 762, 763, 764, 765, 766, 767, 768, 769, 770, 771, 772, 773, 774, 775, 776, 777] (by decide +kernel) (by decide +kernel)
set_option maxRecDepth 20000 in
theorem gL_law_X6_read : GoodIn wsL_law (wsV RL 72 RX6 yX6_read wsX6_read) := goodIn_app (goodIn_of _ (by decide +kernel)) ggL_law_X6_read
set_option maxRecDepth 20000 in
theorem ggL_law_X5_print : GoodIn wsL_law wsX5_print := goodIn_r _ [500, 15, 25, 501, 135, 136, 137, 2, 138, 91, 139, 140, 141, 17, 142, 37, 502, 503, 504, 24, 505, 506, 507, 508, 509, 510, 511, 512, 513, 514, 515, 516, 517, 518, 394, 395, 396, 397, 398, 399, 400, 401, 402, 403, 404, 519, 406, 407, 408, 409, 410, 411, 412, 413, 414, 415, 416, 417, 418, 419, 420, 421, 422, 423, 424, 425, 426, 427, 428, 429, 430, 431, 432, 433, 434, 435, 436, 437, 438, 439, 440, 441, 520, 521, 522, 523, 47, 524, 525, 526, 527, 528, 529, 530, 531, 532, 48, 533, 534, 535, 536, 537, 538, 748, 749, 750, 751, 752, 753, 785, 786, 787, 778, 779, 780, 781] (by decide +kernel) (by decide +kernel)
set_option maxRecDepth 20000 in
theorem gL_law_X5_print : GoodIn wsL_law (wsV RL 73 RX5 yX5_print wsX5_print) := goodIn_app (goodIn_of _ (by decide +kernel)) ggL_law_X5_print
set_option maxRecDepth 20000 in
theorem ggL_law_X6_print : GoodIn wsL_law wsX6_print := goodIn_r _ [542, 543, 76, 77, 78, 79, 151, 152, 153, 5, 154, 110, 111, 112, 113, 155, 156, 157, 158, 544, 545, 546, 547, 548, 549, 550, 551, 85, 552, 553, 554, 555, 556, 557, 474, 558, 559, 560, 561, 353, 490, 491, 492, 754, 755, 756, 757, 758, 759, 760, 761, 762, 763, 764, 765, 766, 767, 768, 769, 770, 771, 772, 773, 774, 775, 776, 777] (by decide +kernel) (by decide +kernel)
set_option maxRecDepth 20000 in
theorem gL_law_X6_print : GoodIn wsL_law (wsV RL 76 RX6 yX6_print wsX6_print) := goodIn_app (goodIn_of _ (by decide +kernel)) ggL_law_X6_print
set_option maxRecDepth 20000 in
theorem ggL_law_X5_out : GoodIn wsL_law wsX5_out := goodIn_r _ [565, 25, 501, 566, 748, 749, 750, 751, 752, 753, 785, 786, 787] (by decide +kernel) (by decide +kernel)
set_option maxRecDepth 20000 in
theorem gL_law_X5_out : GoodIn wsL_law (wsV RL 77 RX5 yX5_out wsX5_out) := goodIn_app (goodIn_of _ (by decide +kernel)) ggL_law_X5_out
set_option maxRecDepth 20000 in
theorem ggL_law_X6_out : GoodIn wsL_law wsX6_out := goodIn_r _ [570, 543, 85, 111, 112, 5, 113, 754, 755, 756, 757, 758, 759, 760, 761, 762, 763, 764, 765, 766, 767, 768, 769, 770, 771, 772, 773, 774, 775, 776, 777] (by decide +kernel) (by decide +kernel)
set_option maxRecDepth 20000 in
theorem gL_law_X6_out : GoodIn wsL_law (wsV RL 80 RX6 yX6_out wsX6_out) := goodIn_app (goodIn_of _ (by decide +kernel)) ggL_law_X6_out
set_option maxRecDepth 20000 in
theorem ggL_law_X5_plan : GoodIn wsL_law wsX5_plan := goodIn_r _ [574, 15, 29, 575, 135, 136, 137, 2, 138, 91, 139, 140, 141, 17, 142, 37, 576, 577, 578, 28, 579, 54, 580, 581, 582, 216, 217, 218, 70, 71, 219, 67, 68, 69, 748, 749, 750, 751, 752, 753, 788, 789, 790, 791, 792, 793, 794, 795, 796, 778, 779, 780, 781] (by decide +kernel) (by decide +kernel)
set_option maxRecDepth 20000 in
theorem gL_law_X5_plan : GoodIn wsL_law (wsV RL 81 RX5 yX5_plan wsX5_plan) := goodIn_app (goodIn_of _ (by decide +kernel)) ggL_law_X5_plan
set_option maxRecDepth 20000 in
theorem ggL_law_X6_plan : GoodIn wsL_law wsX6_plan := goodIn_r _ [586, 587, 76, 588, 77, 589, 78, 80, 590, 151, 152, 153, 5, 154, 110, 111, 112, 113, 155, 156, 157, 158, 754, 755, 756, 757, 758, 759, 760, 761, 762, 763, 764, 765, 766, 767, 768, 769, 770, 771, 772, 773, 774, 775, 776, 777] (by decide +kernel) (by decide +kernel)
set_option maxRecDepth 20000 in
theorem gL_law_X6_plan : GoodIn wsL_law (wsV RL 84 RX6 yX6_plan wsX6_plan) := goodIn_app (goodIn_of _ (by decide +kernel)) ggL_law_X6_plan
set_option maxRecDepth 20000 in
theorem ggL_law_X5_rule : GoodIn wsL_law wsX5_rule := goodIn_r _ [594, 29, 575, 15, 595, 135, 136, 137, 2, 138, 91, 201, 202, 203, 139, 140, 141, 17, 142, 37, 204, 205, 206, 207, 70, 71, 596, 597, 598, 28, 599, 55, 580, 57, 600, 229, 230, 231, 38, 215, 216, 217, 218, 219, 67, 68, 69, 748, 749, 750, 751, 752, 753, 788, 789, 790, 791, 792, 793, 794, 795, 796, 778, 779, 780, 781] (by decide +kernel) (by decide +kernel)
set_option maxRecDepth 20000 in
theorem gL_law_X5_rule : GoodIn wsL_law (wsV RL 85 RX5 yX5_rule wsX5_rule) := goodIn_app (goodIn_of _ (by decide +kernel)) ggL_law_X5_rule
set_option maxRecDepth 20000 in
theorem ggL_law_X6_rule : GoodIn wsL_law wsX6_rule := goodIn_r _ [604, 587, 81, 79, 82, 151, 152, 153, 5, 154, 110, 111, 112, 113, 155, 156, 157, 158, 76, 605, 606, 607, 608, 588, 77, 589, 78, 80, 754, 755, 756, 757, 758, 759, 760, 761, 762, 763, 764, 765, 766, 767, 768, 769, 770, 771, 772, 773, 774, 775, 776, 777] (by decide +kernel) (by decide +kernel)
set_option maxRecDepth 20000 in
theorem gL_law_X6_rule : GoodIn wsL_law (wsV RL 88 RX6 yX6_rule wsX6_rule) := goodIn_app (goodIn_of _ (by decide +kernel)) ggL_law_X6_rule
set_option maxRecDepth 20000 in
theorem ggL_law_X5_count : GoodIn wsL_law wsX5_count := goodIn_r _ [612, 29, 613, 614, 615, 616, 28, 617, 580, 618, 619, 2, 620, 621, 622, 623, 624, 625, 57, 626, 627, 628, 629, 54, 630, 631, 632, 633, 634, 62, 61, 635, 636, 637, 638, 55, 639, 640, 296, 297, 32, 298, 299, 300, 641, 302, 303, 304, 305, 642, 318, 319, 320, 321, 322, 643, 644, 645, 646, 748, 749, 750, 751, 752, 753, 788, 789, 790, 791, 792, 793, 794, 795, 796, 778, 779, 780, 781, 797, 798] (by decide +kernel) (by decide +kernel)
set_option maxRecDepth 20000 in
theorem gL_law_X5_count : GoodIn wsL_law (wsV RL 89 RX5 yX5_count wsX5_count) := goodIn_app (goodIn_of _ (by decide +kernel)) ggL_law_X5_count
set_option maxRecDepth 20000 in
theorem ggL_law_X6_count : GoodIn wsL_law wsX6_count := goodIn_r _ [650, 587, 651, 82, 111, 112, 5, 113, 652, 653, 654, 655, 80, 81, 656, 657, 658, 659, 265, 266, 267, 268, 269, 270, 271, 272, 273, 274, 275, 276, 277, 278, 279, 280, 281, 754, 755, 756, 757, 758, 759, 760, 761, 762, 763, 764, 765, 766, 767, 768, 769, 770, 771, 772, 773, 774, 775, 776, 777] (by decide +kernel) (by decide +kernel)
set_option maxRecDepth 20000 in
theorem gL_law_X6_count : GoodIn wsL_law (wsV RL 92 RX6 yX6_count wsX6_count) := goodIn_app (goodIn_of _ (by decide +kernel)) ggL_law_X6_count
