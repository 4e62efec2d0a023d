set_option maxRecDepth 20000 in
theorem ggL_law_X5_told : GoodIn wsL_law wsX5_told := goodIn_r _ [185, 15, 186, 187, 188, 135, 136, 137, 2, 138, 91, 139, 140, 141, 17, 142, 37, 189, 190, 191, 192, 70, 38, 748, 749, 750, 751, 752, 753, 778, 779, 780, 781] (by decide +kernel) (by decide +kernel)
set_option maxRecDepth 20000 in
theorem gL_law_X5_told : GoodIn wsL_law (wsV RL 47 RX5 yX5_told wsX5_told) := goodIn_app (goodIn_of _ (by decide +kernel)) ggL_law_X5_told
set_option maxRecDepth 20000 in
theorem ggL_law_X6_told : GoodIn wsL_law wsX6_told := goodIn_r _ [196, 109, 77, 79, 76, 78, 151, 152, 153, 5, 154, 110, 111, 112, 113, 155, 156, 157, 158, 754, 755, 756, 757, 758, 759, 760, 761, 762, 763, 764, 765, 766, 767, 768, 769, 770, 771, 772, 773, 774, 775, 776, 777] (by decide +kernel) (by decide +kernel)
set_option maxRecDepth 20000 in
theorem gL_law_X6_told : GoodIn wsL_law (wsV RL 51 RX6 yX6_told wsX6_told) := goodIn_app (goodIn_of _ (by decide +kernel)) ggL_law_X6_told
set_option maxRecDepth 20000 in
theorem ggL_law_X5_act : GoodIn wsL_law wsX5_act := goodIn_r _ [200, 15, 91, 135, 136, 137, 2, 138, 92, 93, 94, 95, 201, 202, 203, 139, 140, 141, 17, 142, 37, 204, 205, 206, 207, 70, 71, 208, 209, 210, 211, 212, 213, 214, 38, 215, 216, 217, 218, 219, 67, 68, 69, 220, 221, 222, 223, 224, 225, 226, 227, 228, 229, 230, 231, 232, 233, 234, 235, 236, 237, 238, 239, 240, 241, 242, 243, 244, 245, 246, 101, 102, 103, 104, 748, 749, 750, 751, 752, 753, 778, 779, 780, 781] (by decide +kernel) (by decide +kernel)
set_option maxRecDepth 20000 in
theorem gL_law_X5_act : GoodIn wsL_law (wsV RL 52 RX5 yX5_act wsX5_act) := goodIn_app (goodIn_of _ (by decide +kernel)) ggL_law_X5_act
set_option maxRecDepth 20000 in
theorem ggL_law_X6_act : GoodIn wsL_law wsX6_act := goodIn_r _ [250, 251, 110, 76, 77, 78, 79, 252, 151, 152, 153, 5, 154, 111, 112, 113, 253, 254, 255, 256, 155, 156, 157, 158, 257, 258, 259, 260, 114, 115, 116, 117, 261, 262, 263, 264, 265, 266, 267, 268, 269, 270, 271, 272, 273, 274, 275, 276, 277, 278, 279, 280, 281, 282, 283, 284, 285, 118, 119, 120, 121, 754, 755, 756, 757, 758, 759, 760, 761, 762, 763, 764, 765, 766, 767, 768, 769, 770, 771, 772, 773, 774, 775, 776, 777] (by decide +kernel) (by decide +kernel)
set_option maxRecDepth 20000 in
theorem gL_law_X6_act : GoodIn wsL_law (wsV RL 55 RX6 yX6_act wsX6_act) := goodIn_app (goodIn_of _ (by decide +kernel)) ggL_law_X6_act
set_option maxRecDepth 20000 in
theorem ggL_law_X5_times : GoodIn wsL_law wsX5_times := goodIn_r _ [289, 15, 91, 135, 136, 137, 2, 138, 92, 93, 94, 95, 139, 140, 141, 17, 142, 37, 290, 291, 292, 293, 188, 33, 134, 294, 216, 217, 218, 70, 71, 219, 67, 68, 69, 295, 296, 297, 32, 298, 299, 300, 301, 302, 303, 304, 305, 306, 307, 308, 309, 310, 311, 312, 313, 314, 315, 316, 317, 318, 319, 320, 321, 322, 323, 324, 325, 326, 101, 102, 103, 104, 748, 749, 750, 751, 752, 753, 778, 779, 780, 781, 797, 798] (by decide +kernel) (by decide +kernel)
set_option maxRecDepth 20000 in
theorem gL_law_X5_times : GoodIn wsL_law (wsV RL 56 RX5 yX5_times wsX5_times) := goodIn_app (goodIn_of _ (by decide +kernel)) ggL_law_X5_times
set_option maxRecDepth 20000 in
theorem ggL_law_X6_times : GoodIn wsL_law wsX6_times := goodIn_r _ [330, 110, 76, 77, 78, 79, 151, 152, 153, 5, 154, 111, 112, 113, 155, 156, 157, 158, 114, 115, 116, 117, 265, 266, 267, 268, 269, 270, 271, 272, 273, 274, 275, 276, 277, 278, 279, 280, 281, 282, 283, 284, 285, 118, 119, 120, 121, 754, 755, 756, 757, 758, 759, 760, 761, 762, 763, 764, 765, 766, 767, 768, 769, 770, 771, 772, 773, 774, 775, 776, 777] (by decide +kernel) (by decide +kernel)
set_option maxRecDepth 20000 in
theorem gL_law_X6_times : GoodIn wsL_law (wsV RL 59 RX6 yX6_times wsX6_times) := goodIn_app (goodIn_of _ (by decide +kernel)) ggL_law_X6_times
set_option maxRecDepth 20000 in
theorem ggL_law_X5_order : GoodIn wsL_law wsX5_order := goodIn_r _ [334, 15, 135, 136, 137, 2, 138, 91, 201, 202, 203, 139, 140, 141, 17, 142, 37, 204, 205, 206, 207, 70, 71, 224, 225, 226, 227, 38, 748, 749, 750, 751, 752, 753, 778, 779, 780, 781] (by decide +kernel) (by decide +kernel)
set_option maxRecDepth 20000 in
theorem gL_law_X5_order : GoodIn wsL_law (wsV RL 60 RX5 yX5_order wsX5_order) := goodIn_app (goodIn_of _ (by decide +kernel)) ggL_law_X5_order
set_option maxRecDepth 20000 in
theorem ggL_law_X6_order : GoodIn wsL_law wsX6_order := goodIn_r _ [338, 79, 78, 151, 152, 153, 5, 154, 110, 111, 112, 113, 253, 254, 255, 256, 155, 156, 157, 158, 76, 257, 258, 259, 260, 77, 261, 262, 263, 264, 754, 755, 756, 757, 758, 759, 760, 761, 762, 763, 764, 765, 766, 767, 768, 769, 770, 771, 772, 773, 774, 775, 776, 777] (by decide +kernel) (by decide +kernel)
set_option maxRecDepth 20000 in
theorem gL_law_X6_order : GoodIn wsL_law (wsV RL 63 RX6 yX6_order wsX6_order) := goodIn_app (goodIn_of _ (by decide +kernel)) ggL_law_X6_order
set_option maxRecDepth 20000 in
theorem ggL_law_X5_put : GoodIn wsL_law wsX5_put := goodIn_r _ [342, 21, 343, 344, 345, 346, 20, 347, 348, 43, 748, 749, 750, 751, 752, 753, 782, 783, 784] (by decide +kernel) (by decide +kernel)
set_option maxRecDepth 20000 in
theorem gL_law_X5_put : GoodIn wsL_law (wsV RL 64 RX5 yX5_put wsX5_put) := goodIn_app (goodIn_of _ (by decide +kernel)) ggL_law_X5_put
set_option maxRecDepth 20000 in
theorem ggL_law_X6_put : GoodIn wsL_law wsX6_put := goodIn_r _ [352, 353, 354, 84, 111, 112, 5, 113, 754, 755, 756, 757, 758, 759, 760, 761, 762, 763, 764, 765, 766, 767, 768, 769, 770, 771, 772, 773, 774, 775, 776, 777] (by decide +kernel) (by decide +kernel)
set_option maxRecDepth 20000 in
theorem gL_law_X6_put : GoodIn wsL_law (wsV RL 68 RX6 yX6_put wsX6_put) := goodIn_app (goodIn_of _ (by decide +kernel)) ggL_law_X6_put
set_option maxRecDepth 20000 in
theorem ggL_law_X5_read : GoodIn wsL_law wsX5_read := goodIn_r _ [358, 21, 343, 15, 91, 359, 92, 93, 94, 2, 95, 360, 361, 362, 20, 363, 364, 348, 365, 366, 367, 368, 43, 369, 370, 371, 372, 373, 374, 375, 376, 377, 378, 379, 380, 381, 382, 383, 384, 385, 386, 387, 388, 389, 390, 391, 392, 393, 394, 395, 396, 397, 398, 399, 400, 401, 402, 403, 404, 405, 406, 407, 408, 409, 410, 411, 412, 413, 414, 415, 416, 417, 418, 419, 420, 421, 422, 423, 424, 425, 426, 427, 428, 429, 430, 431, 432, 433, 434, 435, 436, 437, 438, 439, 440, 441, 442, 67, 68, 17, 69, 37, 70, 71, 443, 444, 445, 446, 101, 102, 103, 104, 748, 749, 750, 751, 752, 753, 782, 783, 784, 778, 779, 780, 781] (by decide +kernel) (by decide +kernel)
set_option maxRecDepth 20000 in
theorem gL_law_X5_read : GoodIn wsL_law (wsV RL 69 RX5 yX5_read wsX5_read) := goodIn_app (goodIn_of _ (by decide +kernel)) ggL_law_X5_read
