set_option maxRecDepth 20000 in
theorem ggL_law_X9_init : GoodIn wsL_law wsX9_init := goodIn_r _ [8, 9, 10, 11, 12, 13, 14, 15, 16, 17, 18, 19, 20, 21, 22, 23, 24, 25, 26, 27, 28, 29, 30, 31, 32, 33, 34, 35, 36, 37, 38, 39, 40, 41, 42, 43, 44, 45, 46, 47, 48, 49, 50, 51, 52, 53, 54, 55, 56, 57, 58, 59, 60, 61, 62, 63, 64, 65, 66, 67, 68, 69, 70, 71, 72, 73, 74, 75, 76, 77, 78, 79, 668, 669, 670, 671, 672, 673, 674, 713, 714, 715, 716, 717, 718, 719, 720, 721, 722, 723, 724, 725, 726, 727, 728, 729, 730, 731] (by decide +kernel) (by decide +kernel)
set_option maxRecDepth 20000 in
theorem gL_law_X9_init : GoodIn wsL_law (wsX9_init) := ggL_law_X9_init
set_option maxRecDepth 20000 in
theorem ggL_law_X10_init : GoodIn wsL_law wsX10_init := goodIn_r _ [82, 83, 10, 11, 33, 84, 85, 86, 87, 88, 89, 90, 91, 92, 93, 94, 95, 96, 97, 98, 99, 100, 101, 102, 103, 104, 105, 106, 107, 108, 109, 110, 111, 112, 113, 114, 115, 116, 675, 676, 677, 678, 679, 680, 681, 682, 683, 684, 685, 686, 687, 688, 689, 690, 691, 692, 693, 694, 695, 696, 697, 698, 699, 700, 701, 702, 703, 704, 705, 706, 707, 708, 709, 710, 711, 712] (by decide +kernel) (by decide +kernel)
set_option maxRecDepth 20000 in
theorem gL_law_X10_init : GoodIn wsL_law (wsX10_init) := ggL_law_X10_init
set_option maxRecDepth 20000 in
theorem ggL_law_X9_go : GoodIn wsL_law wsX9_go := goodIn_r _ [120, 12, 121, 122, 123, 124, 125, 126, 2, 127, 668, 669, 670, 671, 672, 673, 674] (by decide +kernel) (by decide +kernel)
set_option maxRecDepth 20000 in
theorem gL_law_X9_go : GoodIn wsL_law (wsV RL 13 RX9 yX9_go wsX9_go) := goodIn_app (goodIn_of _ (by decide +kernel)) ggL_law_X9_go
set_option maxRecDepth 20000 in
theorem ggL_law_X10_go : GoodIn wsL_law wsX10_go := goodIn_r _ [131, 132, 133, 134, 5, 135, 675, 676, 677, 678, 679, 680, 681, 682, 683, 684, 685, 686, 687, 688, 689, 690, 691, 692, 693, 694, 695, 696, 697, 698, 699, 700, 701, 702, 703, 704, 705, 706, 707, 708, 709, 710, 711, 712] (by decide +kernel) (by decide +kernel)
set_option maxRecDepth 20000 in
theorem gL_law_X10_go : GoodIn wsL_law (wsV RL 17 RX10 yX10_go wsX10_go) := goodIn_app (goodIn_of _ (by decide +kernel)) ggL_law_X10_go
set_option maxRecDepth 20000 in
theorem ggL_law_X9_law : GoodIn wsL_law wsX9_law := goodIn_r _ [139, 16, 140, 141, 142, 143, 144, 145, 146, 10, 11, 147, 148, 149, 150, 151, 152, 153, 154, 155, 15, 156, 40, 39, 157, 158, 159, 160, 161, 2, 162, 125, 126, 127, 668, 669, 670, 671, 672, 673, 674, 732, 733, 734, 735, 736, 713, 714] (by decide +kernel) (by decide +kernel)
set_option maxRecDepth 20000 in
theorem gL_law_X9_law : GoodIn wsL_law (wsV RL 18 RX9 yX9_law wsX9_law) := goodIn_app (goodIn_of _ (by decide +kernel)) ggL_law_X9_law
set_option maxRecDepth 20000 in
theorem ggL_law_X10_law : GoodIn wsL_law wsX10_law := goodIn_r _ [166, 116, 167, 96, 97, 98, 99, 100, 133, 134, 5, 135, 675, 676, 677, 678, 679, 680, 681, 682, 683, 684, 685, 686, 687, 688, 689, 690, 691, 692, 693, 694, 695, 696, 697, 698, 699, 700, 701, 702, 703, 704, 705, 706, 707, 708, 709, 710, 711, 712] (by decide +kernel) (by decide +kernel)
set_option maxRecDepth 20000 in
theorem gL_law_X10_law : GoodIn wsL_law (wsV RL 22 RX10 yX10_law wsX10_law) := goodIn_app (goodIn_of _ (by decide +kernel)) ggL_law_X10_law
set_option maxRecDepth 20000 in
theorem ggL_law_X9_owner : GoodIn wsL_law wsX9_owner := goodIn_r _ [171, 20, 172, 173, 174, 19, 175, 47, 44, 45, 46, 126, 2, 127, 161, 162, 125, 176, 177, 668, 669, 670, 671, 672, 673, 674, 715, 716, 717, 718] (by decide +kernel) (by decide +kernel)
set_option maxRecDepth 20000 in
theorem gL_law_X9_owner : GoodIn wsL_law (wsV RL 23 RX9 yX9_owner wsX9_owner) := goodIn_app (goodIn_of _ (by decide +kernel)) ggL_law_X9_owner
set_option maxRecDepth 20000 in
theorem ggL_law_X10_owner : GoodIn wsL_law wsX10_owner := goodIn_r _ [181, 182, 101, 102, 103, 133, 134, 5, 135, 183, 184, 185, 675, 676, 677, 678, 679, 680, 681, 682, 683, 684, 685, 686, 687, 688, 689, 690, 691, 692, 693, 694, 695, 696, 697, 698, 699, 700, 701, 702, 703, 704, 705, 706, 707, 708, 709, 710, 711, 712] (by decide +kernel) (by decide +kernel)
set_option maxRecDepth 20000 in
theorem gL_law_X10_owner : GoodIn wsL_law (wsV RL 27 RX10 yX10_owner wsX10_owner) := goodIn_app (goodIn_of _ (by decide +kernel)) ggL_law_X10_owner
set_option maxRecDepth 20000 in
theorem ggL_law_X9_find : GoodIn wsL_law wsX9_find := goodIn_r _ [189, 24, 190, 191, 192, 12, 193, 194, 195, 196, 10, 11, 197, 198, 199, 200, 201, 202, 203, 204, 205, 206, 207, 208, 209, 210, 211, 23, 212, 54, 53, 213, 214, 215, 216, 126, 2, 127, 217, 218, 125, 176, 177, 668, 669, 670, 671, 672, 673, 674, 737, 738, 739, 740, 741, 742, 743, 744, 745, 746, 747, 719, 720, 721, 722, 723, 724, 725] (by decide +kernel) (by decide +kernel)
set_option maxRecDepth 20000 in
theorem gL_law_X9_find : GoodIn wsL_law (wsV RL 28 RX9 yX9_find wsX9_find) := goodIn_app (goodIn_of _ (by decide +kernel)) ggL_law_X9_find
set_option maxRecDepth 20000 in
theorem ggL_law_X10_find : GoodIn wsL_law wsX10_find := goodIn_r _ [222, 116, 223, 132, 224, 84, 85, 86, 87, 88, 89, 90, 91, 92, 93, 94, 133, 134, 5, 135, 183, 184, 185, 675, 676, 677, 678, 679, 680, 681, 682, 683, 684, 685, 686, 687, 688, 689, 690, 691, 692, 693, 694, 695, 696, 697, 698, 699, 700, 701, 702, 703, 704, 705, 706, 707, 708, 709, 710, 711, 712] (by decide +kernel) (by decide +kernel)
set_option maxRecDepth 20000 in
theorem gL_law_X10_find : GoodIn wsL_law (wsV RL 32 RX10 yX10_find wsX10_find) := goodIn_app (goodIn_of _ (by decide +kernel)) ggL_law_X10_find
set_option maxRecDepth 20000 in
theorem ggL_law_X9_part : GoodIn wsL_law wsX9_part := goodIn_r _ [228, 24, 12, 229, 230, 231, 23, 232, 55, 56, 233, 234, 235, 236, 237, 238, 123, 239, 240, 122, 124, 241, 242, 243, 244, 54, 668, 669, 670, 671, 672, 673, 674, 719, 720, 721, 722, 723, 724, 725] (by decide +kernel) (by decide +kernel)
set_option maxRecDepth 20000 in
theorem gL_law_X9_part : GoodIn wsL_law (wsV RL 33 RX9 yX9_part wsX9_part) := goodIn_app (goodIn_of _ (by decide +kernel)) ggL_law_X9_part
set_option maxRecDepth 20000 in
theorem ggL_law_X10_part : GoodIn wsL_law wsX10_part := goodIn_r _ [248, 95, 116, 132, 249, 250, 251, 252, 5, 253, 224, 133, 134, 135, 675, 676, 677, 678, 679, 680, 681, 682, 683, 684, 685, 686, 687, 688, 689, 690, 691, 692, 693, 694, 695, 696, 697, 698, 699, 700, 701, 702, 703, 704, 705, 706, 707, 708, 709, 710, 711, 712] (by decide +kernel) (by decide +kernel)
set_option maxRecDepth 20000 in
theorem gL_law_X10_part : GoodIn wsL_law (wsV RL 37 RX10 yX10_part wsX10_part) := goodIn_app (goodIn_of _ (by decide +kernel)) ggL_law_X10_part
set_option maxRecDepth 20000 in
theorem ggL_law_X9_hoard : GoodIn wsL_law wsX9_hoard := goodIn_r _ [257, 24, 12, 258, 259, 260, 23, 261, 57, 58, 60, 61, 62, 63, 262, 263, 264, 265, 54, 266, 267, 268, 269, 270, 53, 241, 242, 243, 244, 271, 272, 273, 274, 59, 275, 276, 277, 278, 55, 279, 280, 281, 192, 282, 197, 283, 284, 123, 285, 198, 203, 204, 233, 234, 235, 236, 237, 238, 239, 240, 122, 124, 286, 287, 288, 289, 668, 669, 670, 671, 672, 673, 674, 719, 720, 721, 722, 723, 724, 725, 737, 738, 739, 740, 741, 742, 743, 744, 745, 746, 747] (by decide +kernel) (by decide +kernel)
set_option maxRecDepth 20000 in
theorem gL_law_X9_hoard : GoodIn wsL_law (wsV RL 38 RX9 yX9_hoard wsX9_hoard) := goodIn_app (goodIn_of _ (by decide +kernel)) ggL_law_X9_hoard
set_option maxRecDepth 20000 in
theorem ggL_law_X10_hoard : GoodIn wsL_law wsX10_hoard := goodIn_r _ [293, 132, 115, 250, 251, 252, 5, 253, 224, 133, 134, 135, 294, 295, 296, 297, 93, 298, 299, 300, 301, 84, 85, 89, 90, 95, 675, 676, 677, 678, 679, 680, 681, 682, 683, 684, 685, 686, 687, 688, 689, 690, 691, 692, 693, 694, 695, 696, 697, 698, 699, 700, 701, 702, 703, 704, 705, 706, 707, 708, 709, 710, 711, 712] (by decide +kernel) (by decide +kernel)
set_option maxRecDepth 20000 in
theorem gL_law_X10_hoard : GoodIn wsL_law (wsV RL 41 RX10 yX10_hoard wsX10_hoard) := goodIn_app (goodIn_of _ (by decide +kernel)) ggL_law_X10_hoard
set_option maxRecDepth 20000 in
theorem ggL_law_X9_size : GoodIn wsL_law wsX9_size := goodIn_r _ [305, 306, 307, 308, 2, 309, 12, 125, 126, 127, 310, 311, 312, 313, 24, 258, 259, 260, 23, 261, 57, 58, 60, 61, 62, 63, 262, 263, 264, 265, 54, 266, 267, 268, 269, 270, 53, 241, 242, 243, 244, 271, 272, 273, 274, 59, 275, 276, 277, 278, 55, 279, 280, 281, 192, 282, 197, 283, 284, 123, 285, 198, 203, 204, 233, 234, 235, 236, 237, 238, 239, 240, 122, 124, 314, 315, 316, 317, 668, 669, 670, 671, 672, 673, 674, 719, 720, 721, 722, 723, 724, 725, 737, 738, 739, 740, 741, 742, 743, 744, 745, 746, 747] (by decide +kernel) (by decide +kernel)
set_option maxRecDepth 20000 in
theorem gL_law_X9_size : GoodIn wsL_law (wsV RL 42 RX9 yX9_size wsX9_size) := goodIn_app (goodIn_of _ (by decide +kernel)) ggL_law_X9_size
set_option maxRecDepth 20000 in
theorem ggL_law_X10_size : GoodIn wsL_law wsX10_size := goodIn_r _ [321, 322, 323, 324, 5, 325, 132, 93, 250, 251, 252, 253, 224, 133, 134, 135, 294, 295, 296, 297, 115, 298, 299, 300, 301, 84, 85, 89, 90, 95, 675, 676, 677, 678, 679, 680, 681, 682, 683, 684, 685, 686, 687, 688, 689, 690, 691, 692, 693, 694, 695, 696, 697, 698, 699, 700, 701, 702, 703, 704, 705, 706, 707, 708, 709, 710, 711, 712] (by decide +kernel) (by decide +kernel)
set_option maxRecDepth 20000 in
theorem gL_law_X10_size : GoodIn wsL_law (wsV RL 46 RX10 yX10_size wsX10_size) := goodIn_app (goodIn_of _ (by decide +kernel)) ggL_law_X10_size
set_option maxRecDepth 20000 in
theorem ggL_law_X9_counts : GoodIn wsL_law wsX9_counts := goodIn_r _ [329, 12, 330, 331, 332, 2, 333, 24, 258, 259, 260, 23, 261, 57, 58, 60, 61, 62, 63, 262, 263, 264, 265, 54, 266, 267, 268, 269, 270, 53, 241, 242, 243, 244, 271, 272, 273, 274, 59, 275, 276, 277, 278, 55, 279, 280, 281, 192, 282, 197, 283, 284, 123, 285, 198, 203, 204, 233, 234, 235, 236, 237, 238, 239, 240, 122, 124, 334, 335, 336, 337, 16, 338, 339, 314, 315, 316, 317, 340, 341, 342, 15, 343, 40, 39, 344, 345, 346, 347, 142, 348, 349, 350, 149, 351, 352, 150, 152, 353, 354, 668, 669, 670, 671, 672, 673, 674, 719, 720, 721, 722, 723, 724, 725, 737, 738, 739, 740, 741, 742, 743, 744, 745, 746, 747, 713, 714, 732, 733, 734, 735, 736] (by decide +kernel) (by decide +kernel)
set_option maxRecDepth 20000 in
theorem gL_law_X9_counts : GoodIn wsL_law (wsV RL 47 RX9 yX9_counts wsX9_counts) := goodIn_app (goodIn_of _ (by decide +kernel)) ggL_law_X9_counts
set_option maxRecDepth 20000 in
theorem ggL_law_X10_counts : GoodIn wsL_law wsX10_counts := goodIn_r _ [358, 132, 359, 360, 361, 5, 362, 92, 90, 97, 86, 87, 98, 100, 322, 323, 324, 325, 93, 250, 251, 252, 253, 224, 133, 134, 135, 363, 364, 365, 366, 167, 96, 367, 368, 369, 294, 295, 296, 297, 115, 298, 299, 300, 301, 84, 85, 89, 95, 675, 676, 677, 678, 679, 680, 681, 682, 683, 684, 685, 686, 687, 688, 689, 690, 691, 692, 693, 694, 695, 696, 697, 698, 699, 700, 701, 702, 703, 704, 705, 706, 707, 708, 709, 710, 711, 712] (by decide +kernel) (by decide +kernel)
set_option maxRecDepth 20000 in
theorem gL_law_X10_counts : GoodIn wsL_law (wsV RL 51 RX10 yX10_counts wsX10_counts) := goodIn_app (goodIn_of _ (by decide +kernel)) ggL_law_X10_counts
set_option maxRecDepth 20000 in
theorem ggL_law_X9_counted : GoodIn wsL_law wsX9_counted := goodIn_r _ [373, 306, 307, 308, 2, 309, 12, 125, 126, 127, 330, 331, 332, 333, 24, 258, 259, 260, 23, 261, 57, 58, 60, 61, 62, 63, 262, 263, 264, 265, 54, 266, 267, 268, 269, 270, 53, 241, 242, 243, 244, 271, 272, 273, 274, 59, 275, 276, 277, 278, 55, 279, 280, 281, 192, 282, 197, 283, 284, 123, 285, 198, 203, 204, 233, 234, 235, 236, 237, 238, 239, 240, 122, 124, 334, 335, 336, 337, 16, 338, 339, 314, 315, 316, 317, 340, 341, 342, 15, 343, 40, 39, 344, 345, 346, 347, 142, 348, 349, 350, 149, 351, 352, 150, 152, 353, 354, 668, 669, 670, 671, 672, 673, 674, 719, 720, 721, 722, 723, 724, 725, 737, 738, 739, 740, 741, 742, 743, 744, 745, 746, 747, 713, 714, 732, 733, 734, 735, 736] (by decide +kernel) (by decide +kernel)
set_option maxRecDepth 20000 in
theorem gL_law_X9_counted : GoodIn wsL_law (wsV RL 52 RX9 yX9_counted wsX9_counted) := goodIn_app (goodIn_of _ (by decide +kernel)) ggL_law_X9_counted
set_option maxRecDepth 20000 in
theorem ggL_law_X10_counted : GoodIn wsL_law wsX10_counted := goodIn_r _ [362, 92, 90, 97, 86, 87, 98, 100, 322, 323, 324, 5, 325, 132, 93, 250, 251, 252, 253, 224, 133, 134, 135, 363, 364, 365, 366, 167, 96, 367, 368, 369, 294, 295, 296, 297, 115, 298, 299, 300, 301, 84, 85, 89, 95, 675, 676, 677, 678, 679, 680, 681, 682, 683, 684, 685, 686, 687, 688, 689, 690, 691, 692, 693, 694, 695, 696, 697, 698, 699, 700, 701, 702, 703, 704, 705, 706, 707, 708, 709, 710, 711, 712] (by decide +kernel) (by decide +kernel)
set_option maxRecDepth 20000 in
theorem gL_law_X10_counted : GoodIn wsL_law (wsV RL 55 RX10 yX10_counted wsX10_counted) := goodIn_app (goodIn_of _ (by decide +kernel)) ggL_law_X10_counted
set_option maxRecDepth 20000 in
theorem ggL_law_X9_told : GoodIn wsL_law wsX9_told := goodIn_r _ [378, 24, 379, 338, 380, 381, 382, 383, 384, 385, 386, 387, 339, 268, 269, 23, 270, 53, 241, 242, 243, 244, 54, 388, 389, 390, 2, 391, 20, 392, 393, 394, 192, 395, 197, 198, 396, 397, 398, 19, 399, 47, 44, 45, 46, 668, 669, 670, 671, 672, 673, 674, 737, 738, 739, 740, 741, 742, 743, 744, 745, 746, 747, 719, 720, 721, 722, 723, 724, 725, 715, 716, 717, 718] (by decide +kernel) (by decide +kernel)
set_option maxRecDepth 20000 in
theorem gL_law_X9_told : GoodIn wsL_law (wsV RL 56 RX9 yX9_told wsX9_told) := goodIn_app (goodIn_of _ (by decide +kernel)) ggL_law_X9_told
set_option maxRecDepth 20000 in
theorem ggL_law_X10_told : GoodIn wsL_law wsX10_told := goodIn_r _ [403, 404, 92, 93, 86, 87, 88, 89, 90, 91, 94, 250, 251, 252, 5, 253, 224, 133, 134, 135, 405, 406, 407, 408, 84, 85, 409, 410, 411, 412, 182, 101, 102, 103, 675, 676, 677, 678, 679, 680, 681, 682, 683, 684, 685, 686, 687, 688, 689, 690, 691, 692, 693, 694, 695, 696, 697, 698, 699, 700, 701, 702, 703, 704, 705, 706, 707, 708, 709, 710, 711, 712] (by decide +kernel) (by decide +kernel)
set_option maxRecDepth 20000 in
theorem gL_law_X10_told : GoodIn wsL_law (wsV RL 59 RX10 yX10_told wsX10_told) := goodIn_app (goodIn_of _ (by decide +kernel)) ggL_law_X10_told
set_option maxRecDepth 20000 in
theorem ggL_law_X9_index : GoodIn wsL_law wsX9_index := goodIn_r _ [416, 28, 417, 418, 419, 27, 420, 71, 126, 2, 127, 668, 669, 670, 671, 672, 673, 674, 726, 727, 728] (by decide +kernel) (by decide +kernel)
set_option maxRecDepth 20000 in
theorem gL_law_X9_index : GoodIn wsL_law (wsV RL 60 RX9 yX9_index wsX9_index) := goodIn_app (goodIn_of _ (by decide +kernel)) ggL_law_X9_index
set_option maxRecDepth 20000 in
theorem ggL_law_X10_index : GoodIn wsL_law wsX10_index := goodIn_r _ [424, 104, 133, 134, 5, 135, 675, 676, 677, 678, 679, 680, 681, 682, 683, 684, 685, 686, 687, 688, 689, 690, 691, 692, 693, 694, 695, 696, 697, 698, 699, 700, 701, 702, 703, 704, 705, 706, 707, 708, 709, 710, 711, 712] (by decide +kernel) (by decide +kernel)
set_option maxRecDepth 20000 in
theorem gL_law_X10_index : GoodIn wsL_law (wsV RL 63 RX10 yX10_index wsX10_index) := goodIn_app (goodIn_of _ (by decide +kernel)) ggL_law_X10_index
set_option maxRecDepth 20000 in
theorem ggL_law_X9_sale : GoodIn wsL_law wsX9_sale := goodIn_r _ [428, 28, 429, 430, 431, 306, 307, 308, 2, 309, 12, 125, 126, 127, 432, 433, 434, 435, 10, 11, 436, 437, 438, 439, 440, 441, 442, 27, 443, 70, 69, 444, 445, 446, 447, 448, 449, 217, 218, 161, 162, 450, 451, 452, 453, 668, 669, 670, 671, 672, 673, 674, 748, 749, 750, 751, 726, 727, 728] (by decide +kernel) (by decide +kernel)
set_option maxRecDepth 20000 in
theorem gL_law_X9_sale : GoodIn wsL_law (wsV RL 64 RX9 yX9_sale wsX9_sale) := goodIn_app (goodIn_of _ (by decide +kernel)) ggL_law_X9_sale
set_option maxRecDepth 20000 in
theorem ggL_law_X10_sale : GoodIn wsL_law wsX10_sale := goodIn_r _ [457, 132, 116, 458, 105, 106, 107, 108, 133, 134, 5, 135, 675, 676, 677, 678, 679, 680, 681, 682, 683, 684, 685, 686, 687, 688, 689, 690, 691, 692, 693, 694, 695, 696, 697, 698, 699, 700, 701, 702, 703, 704, 705, 706, 707, 708, 709, 710, 711, 712] (by decide +kernel) (by decide +kernel)
set_option maxRecDepth 20000 in
theorem gL_law_X10_sale : GoodIn wsL_law (wsV RL 67 RX10 yX10_sale wsX10_sale) := goodIn_app (goodIn_of _ (by decide +kernel)) ggL_law_X10_sale
set_option maxRecDepth 20000 in
theorem ggL_law_X9_worth : GoodIn wsL_law wsX9_worth := goodIn_r _ [462, 24, 339, 268, 269, 23, 270, 53, 241, 242, 243, 244, 54, 463, 464, 465, 2, 466, 28, 381, 383, 12, 467, 353, 354, 468, 469, 470, 27, 471, 70, 69, 444, 472, 473, 474, 475, 123, 476, 477, 478, 479, 480, 481, 482, 483, 484, 485, 486, 71, 668, 669, 670, 671, 672, 673, 674, 719, 720, 721, 722, 723, 724, 725, 737, 738, 739, 740, 741, 742, 743, 744, 745, 746, 747, 726, 727, 728, 748, 749, 750, 751] (by decide +kernel) (by decide +kernel)
set_option maxRecDepth 20000 in
theorem gL_law_X9_worth : GoodIn wsL_law (wsV RL 68 RX9 yX9_worth wsX9_worth) := goodIn_app (goodIn_of _ (by decide +kernel)) ggL_law_X9_worth
set_option maxRecDepth 20000 in
theorem ggL_law_X10_worth : GoodIn wsL_law wsX10_worth := goodIn_r _ [490, 458, 105, 86, 108, 104, 132, 106, 107, 88, 491, 116, 250, 251, 252, 5, 253, 224, 133, 134, 135, 367, 368, 369, 675, 676, 677, 678, 679, 680, 681, 682, 683, 684, 685, 686, 687, 688, 689, 690, 691, 692, 693, 694, 695, 696, 697, 698, 699, 700, 701, 702, 703, 704, 705, 706, 707, 708, 709, 710, 711, 712] (by decide +kernel) (by decide +kernel)
set_option maxRecDepth 20000 in
theorem gL_law_X10_worth : GoodIn wsL_law (wsV RL 71 RX10 yX10_worth wsX10_worth) := goodIn_app (goodIn_of _ (by decide +kernel)) ggL_law_X10_worth
set_option maxRecDepth 20000 in
theorem ggL_law_X9_share : GoodIn wsL_law wsX9_share := goodIn_r _ [495, 24, 12, 496, 176, 2, 177, 125, 126, 127, 258, 259, 260, 23, 261, 57, 58, 60, 61, 62, 63, 262, 263, 264, 265, 54, 266, 267, 268, 269, 270, 53, 241, 242, 243, 244, 271, 272, 273, 274, 59, 275, 276, 277, 278, 55, 279, 280, 281, 192, 282, 197, 283, 284, 123, 285, 198, 203, 204, 233, 234, 235, 236, 237, 238, 239, 240, 122, 124, 497, 498, 499, 500, 501, 386, 339, 334, 335, 336, 337, 16, 338, 314, 315, 316, 317, 340, 341, 342, 15, 343, 40, 39, 344, 345, 346, 347, 142, 348, 349, 350, 149, 351, 352, 150, 152, 353, 354, 463, 464, 465, 466, 28, 381, 383, 467, 468, 469, 470, 27, 471, 70, 69, 444, 472, 473, 474, 475, 476, 477, 478, 479, 480, 481, 482, 483, 484, 485, 486, 71, 388, 389, 390, 391, 20, 392, 393, 394, 395, 396, 397, 398, 19, 399, 47, 44, 45, 46, 668, 669, 670, 671, 672, 673, 674, 719, 720, 721, 722, 723, 724, 725, 737, 738, 739, 740, 741, 742, 743, 744, 745, 746, 747, 732, 733, 734, 735, 736, 713, 714, 726, 727, 728, 748, 749, 750, 751, 715, 716, 717, 718] (by decide +kernel) (by decide +kernel)
set_option maxRecDepth 20000 in
theorem gL_law_X9_share : GoodIn wsL_law (wsV RL 72 RX9 yX9_share wsX9_share) := goodIn_app (goodIn_of _ (by decide +kernel)) ggL_law_X9_share
set_option maxRecDepth 20000 in
theorem ggL_law_X10_share : GoodIn wsL_law wsX10_share := goodIn_r _ [505, 99, 92, 506, 91, 250, 251, 252, 5, 253, 224, 133, 134, 135, 183, 184, 185, 507, 356, 357, 358, 132, 359, 360, 361, 362, 90, 97, 86, 87, 98, 100, 322, 323, 324, 325, 93, 363, 364, 365, 366, 167, 96, 367, 368, 369, 294, 295, 296, 297, 115, 298, 299, 300, 301, 84, 85, 89, 95, 508, 488, 489, 490, 458, 105, 108, 104, 106, 107, 88, 491, 116, 405, 406, 407, 408, 409, 410, 411, 412, 182, 101, 102, 103, 675, 676, 677, 678, 679, 680, 681, 682, 683, 684, 685, 686, 687, 688, 689, 690, 691, 692, 693, 694, 695, 696, 697, 698, 699, 700, 701, 702, 703, 704, 705, 706, 707, 708, 709, 710, 711, 712] (by decide +kernel) (by decide +kernel)
set_option maxRecDepth 20000 in
theorem gL_law_X10_share : GoodIn wsL_law (wsV RL 75 RX10 yX10_share wsX10_share) := goodIn_app (goodIn_of _ (by decide +kernel)) ggL_law_X10_share
set_option maxRecDepth 20000 in
theorem ggL_law_X9_due : GoodIn wsL_law wsX9_due := goodIn_r _ [512, 496, 176, 2, 177, 125, 126, 127, 513, 514, 515, 516, 24, 12, 34, 517, 258, 259, 260, 23, 261, 57, 58, 60, 61, 62, 63, 262, 263, 264, 265, 54, 266, 267, 268, 269, 270, 53, 241, 242, 243, 244, 271, 272, 273, 274, 59, 275, 276, 277, 278, 55, 279, 280, 281, 192, 282, 197, 283, 284, 123, 285, 198, 203, 204, 233, 234, 235, 236, 237, 238, 239, 240, 122, 124, 497, 498, 499, 500, 501, 386, 339, 334, 335, 336, 337, 16, 338, 314, 315, 316, 317, 340, 341, 342, 15, 343, 40, 39, 344, 345, 346, 347, 142, 348, 349, 350, 149, 351, 352, 150, 152, 353, 354, 463, 464, 465, 466, 28, 381, 383, 467, 468, 469, 470, 27, 471, 70, 69, 444, 472, 473, 474, 475, 476, 477, 478, 479, 480, 481, 482, 483, 484, 485, 486, 71, 388, 389, 390, 391, 20, 392, 393, 394, 395, 396, 397, 398, 19, 399, 47, 44, 45, 46, 668, 669, 670, 671, 672, 673, 674, 719, 720, 721, 722, 723, 724, 725, 737, 738, 739, 740, 741, 742, 743, 744, 745, 746, 747, 732, 733, 734, 735, 736, 713, 714, 726, 727, 728, 748, 749, 750, 751, 715, 716, 717, 718] (by decide +kernel) (by decide +kernel)
set_option maxRecDepth 20000 in
theorem gL_law_X9_due : GoodIn wsL_law (wsV RL 76 RX9 yX9_due wsX9_due) := goodIn_app (goodIn_of _ (by decide +kernel)) ggL_law_X9_due
set_option maxRecDepth 20000 in
theorem ggL_law_X10_due : GoodIn wsL_law wsX10_due := goodIn_r _ [521, 109, 224, 183, 184, 5, 185, 133, 134, 135, 522, 503, 504, 505, 99, 92, 506, 91, 250, 251, 252, 253, 507, 356, 357, 358, 132, 359, 360, 361, 362, 90, 97, 86, 87, 98, 100, 322, 323, 324, 325, 93, 363, 364, 365, 366, 167, 96, 367, 368, 369, 294, 295, 296, 297, 115, 298, 299, 300, 301, 84, 85, 89, 95, 508, 488, 489, 490, 458, 105, 108, 104, 106, 107, 88, 491, 116, 405, 406, 407, 408, 409, 410, 411, 412, 182, 101, 102, 103, 675, 676, 677, 678, 679, 680, 681, 682, 683, 684, 685, 686, 687, 688, 689, 690, 691, 692, 693, 694, 695, 696, 697, 698, 699, 700, 701, 702, 703, 704, 705, 706, 707, 708, 709, 710, 711, 712] (by decide +kernel) (by decide +kernel)
set_option maxRecDepth 20000 in
theorem gL_law_X10_due : GoodIn wsL_law (wsV RL 79 RX10 yX10_due wsX10_due) := goodIn_app (goodIn_of _ (by decide +kernel)) ggL_law_X10_due
set_option maxRecDepth 20000 in
theorem ggL_law_X9_settle : GoodIn wsL_law wsX9_settle := goodIn_r _ [526, 34, 496, 176, 2, 177, 125, 126, 127, 513, 514, 515, 516, 24, 12, 517, 258, 259, 260, 23, 261, 57, 58, 60, 61, 62, 63, 262, 263, 264, 265, 54, 266, 267, 268, 269, 270, 53, 241, 242, 243, 244, 271, 272, 273, 274, 59, 275, 276, 277, 278, 55, 279, 280, 281, 192, 282, 197, 283, 284, 123, 285, 198, 203, 204, 233, 234, 235, 236, 237, 238, 239, 240, 122, 124, 497, 498, 499, 500, 501, 386, 339, 334, 335, 336, 337, 16, 338, 314, 315, 316, 317, 340, 341, 342, 15, 343, 40, 39, 344, 345, 346, 347, 142, 348, 349, 350, 149, 351, 352, 150, 152, 353, 354, 463, 464, 465, 466, 28, 381, 383, 467, 468, 469, 470, 27, 471, 70, 69, 444, 472, 473, 474, 475, 476, 477, 478, 479, 480, 481, 482, 483, 484, 485, 486, 71, 388, 389, 390, 391, 20, 392, 393, 394, 395, 396, 397, 398, 19, 399, 47, 44, 45, 46, 668, 669, 670, 671, 672, 673, 674, 719, 720, 721, 722, 723, 724, 725, 737, 738, 739, 740, 741, 742, 743, 744, 745, 746, 747, 732, 733, 734, 735, 736, 713, 714, 726, 727, 728, 748, 749, 750, 751, 715, 716, 717, 718] (by decide +kernel) (by decide +kernel)
set_option maxRecDepth 20000 in
theorem gL_law_X9_settle : GoodIn wsL_law (wsV RL 80 RX9 yX9_settle wsX9_settle) := goodIn_app (goodIn_of _ (by decide +kernel)) ggL_law_X9_settle
set_option maxRecDepth 20000 in
theorem ggL_law_X10_settle : GoodIn wsL_law wsX10_settle := goodIn_r _ [530, 109, 531, 519, 520, 5, 521, 224, 183, 184, 185, 133, 134, 135, 522, 503, 504, 505, 99, 92, 506, 91, 250, 251, 252, 253, 507, 356, 357, 358, 132, 359, 360, 361, 362, 90, 97, 86, 87, 98, 100, 322, 323, 324, 325, 93, 363, 364, 365, 366, 167, 96, 367, 368, 369, 294, 295, 296, 297, 115, 298, 299, 300, 301, 84, 85, 89, 95, 508, 488, 489, 490, 458, 105, 108, 104, 106, 107, 88, 491, 116, 405, 406, 407, 408, 409, 410, 411, 412, 182, 101, 102, 103, 675, 676, 677, 678, 679, 680, 681, 682, 683, 684, 685, 686, 687, 688, 689, 690, 691, 692, 693, 694, 695, 696, 697, 698, 699, 700, 701, 702, 703, 704, 705, 706, 707, 708, 709, 710, 711, 712] (by decide +kernel) (by decide +kernel)
set_option maxRecDepth 20000 in
theorem gL_law_X10_settle : GoodIn wsL_law (wsV RL 83 RX10 yX10_settle wsX10_settle) := goodIn_app (goodIn_of _ (by decide +kernel)) ggL_law_X10_settle
set_option maxRecDepth 20000 in
theorem ggL_law_X9_paid : GoodIn wsL_law wsX9_paid := goodIn_r _ [535, 34, 496, 176, 2, 177, 125, 126, 127, 668, 669, 670, 671, 672, 673, 674] (by decide +kernel) (by decide +kernel)
set_option maxRecDepth 20000 in
theorem gL_law_X9_paid : GoodIn wsL_law (wsV RL 84 RX9 yX9_paid wsX9_paid) := goodIn_app (goodIn_of _ (by decide +kernel)) ggL_law_X9_paid
set_option maxRecDepth 20000 in
theorem ggL_law_X10_paid : GoodIn wsL_law wsX10_paid := goodIn_r _ [539, 109, 183, 184, 5, 185, 133, 134, 135, 675, 676, 677, 678, 679, 680, 681, 682, 683, 684, 685, 686, 687, 688, 689, 690, 691, 692, 693, 694, 695, 696, 697, 698, 699, 700, 701, 702, 703, 704, 705, 706, 707, 708, 709, 710, 711, 712] (by decide +kernel) (by decide +kernel)
set_option maxRecDepth 20000 in
theorem gL_law_X10_paid : GoodIn wsL_law (wsV RL 87 RX10 yX10_paid wsX10_paid) := goodIn_app (goodIn_of _ (by decide +kernel)) ggL_law_X10_paid
set_option maxRecDepth 20000 in
theorem ggL_law_X9_place : GoodIn wsL_law wsX9_place := goodIn_r _ [543, 24, 544, 545, 339, 268, 269, 23, 270, 53, 241, 242, 243, 244, 54, 546, 547, 2, 548, 549, 125, 126, 127, 550, 551, 552, 668, 669, 670, 671, 672, 673, 674, 737, 738, 739, 740, 741, 742, 743, 744, 745, 746, 747, 719, 720, 721, 722, 723, 724, 725] (by decide +kernel) (by decide +kernel)
set_option maxRecDepth 20000 in
theorem gL_law_X9_place : GoodIn wsL_law (wsV RL 88 RX9 yX9_place wsX9_place) := goodIn_app (goodIn_of _ (by decide +kernel)) ggL_law_X9_place
set_option maxRecDepth 20000 in
theorem ggL_law_X10_place : GoodIn wsL_law wsX10_place := goodIn_r _ [556, 84, 85, 250, 251, 252, 5, 253, 224, 133, 134, 135, 557, 558, 559, 675, 676, 677, 678, 679, 680, 681, 682, 683, 684, 685, 686, 687, 688, 689, 690, 691, 692, 693, 694, 695, 696, 697, 698, 699, 700, 701, 702, 703, 704, 705, 706, 707, 708, 709, 710, 711, 712] (by decide +kernel) (by decide +kernel)
set_option maxRecDepth 20000 in
theorem gL_law_X10_place : GoodIn wsL_law (wsV RL 91 RX10 yX10_place wsX10_place) := goodIn_app (goodIn_of _ (by decide +kernel)) ggL_law_X10_place
set_option maxRecDepth 20000 in
theorem ggL_law_X9_within : GoodIn wsL_law wsX9_within := goodIn_r _ [563, 24, 546, 547, 2, 548, 549, 125, 126, 127, 564, 565, 566, 567, 550, 551, 552, 568, 569, 570, 23, 571, 54, 572, 573, 267, 268, 269, 270, 53, 241, 242, 243, 244, 668, 669, 670, 671, 672, 673, 674, 719, 720, 721, 722, 723, 724, 725, 737, 738, 739, 740, 741, 742, 743, 744, 745, 746, 747] (by decide +kernel) (by decide +kernel)
set_option maxRecDepth 20000 in
theorem gL_law_X9_within : GoodIn wsL_law (wsV RL 92 RX9 yX9_within wsX9_within) := goodIn_app (goodIn_of _ (by decide +kernel)) ggL_law_X9_within
set_option maxRecDepth 20000 in
theorem ggL_law_X10_within : GoodIn wsL_law wsX10_within := goodIn_r _ [577, 578, 224, 84, 85, 133, 134, 5, 135, 557, 558, 559, 675, 676, 677, 678, 679, 680, 681, 682, 683, 684, 685, 686, 687, 688, 689, 690, 691, 692, 693, 694, 695, 696, 697, 698, 699, 700, 701, 702, 703, 704, 705, 706, 707, 708, 709, 710, 711, 712] (by decide +kernel) (by decide +kernel)
set_option maxRecDepth 20000 in
theorem gL_law_X10_within : GoodIn wsL_law (wsV RL 95 RX10 yX10_within wsX10_within) := goodIn_app (goodIn_of _ (by decide +kernel)) ggL_law_X10_within
set_option maxRecDepth 20000 in
theorem ggL_law_X9_museum : GoodIn wsL_law wsX9_museum := goodIn_r _ [582, 32, 583, 584, 585, 586, 587, 588, 589, 10, 11, 590, 591, 592, 593, 594, 595, 31, 596, 78, 77, 597, 598, 599, 600, 601, 126, 2, 127, 668, 669, 670, 671, 672, 673, 674, 752, 753, 754, 729, 730, 731] (by decide +kernel) (by decide +kernel)
set_option maxRecDepth 20000 in
theorem gL_law_X9_museum : GoodIn wsL_law (wsV RL 96 RX9 yX9_museum wsX9_museum) := goodIn_app (goodIn_of _ (by decide +kernel)) ggL_law_X9_museum
set_option maxRecDepth 20000 in
theorem ggL_law_X10_museum : GoodIn wsL_law wsX10_museum := goodIn_r _ [605, 116, 606, 110, 111, 133, 134, 5, 135, 675, 676, 677, 678, 679, 680, 681, 682, 683, 684, 685, 686, 687, 688, 689, 690, 691, 692, 693, 694, 695, 696, 697, 698, 699, 700, 701, 702, 703, 704, 705, 706, 707, 708, 709, 710, 711, 712] (by decide +kernel) (by decide +kernel)
set_option maxRecDepth 20000 in
theorem gL_law_X10_museum : GoodIn wsL_law (wsV RL 99 RX10 yX10_museum wsX10_museum) := goodIn_app (goodIn_of _ (by decide +kernel)) ggL_law_X10_museum
set_option maxRecDepth 20000 in
theorem ggL_law_X9_offer : GoodIn wsL_law wsX9_offer := goodIn_r _ [610, 24, 387, 12, 32, 381, 339, 268, 269, 23, 270, 53, 241, 242, 243, 244, 54, 330, 331, 332, 2, 333, 258, 259, 260, 261, 57, 58, 60, 61, 62, 63, 262, 263, 264, 265, 266, 267, 271, 272, 273, 274, 59, 275, 276, 277, 278, 55, 279, 280, 281, 192, 282, 197, 283, 284, 123, 285, 198, 203, 204, 233, 234, 235, 236, 237, 238, 239, 240, 122, 124, 334, 335, 336, 337, 16, 338, 314, 315, 316, 317, 340, 341, 342, 15, 343, 40, 39, 344, 345, 346, 347, 142, 348, 349, 350, 149, 351, 352, 150, 152, 353, 354, 463, 464, 465, 466, 28, 383, 467, 468, 469, 470, 27, 471, 70, 69, 444, 472, 473, 474, 475, 476, 477, 478, 479, 480, 481, 482, 483, 484, 485, 486, 71, 611, 612, 613, 31, 614, 78, 615, 79, 616, 617, 618, 619, 620, 621, 622, 623, 77, 624, 625, 626, 585, 627, 590, 591, 668, 669, 670, 671, 672, 673, 674, 737, 738, 739, 740, 741, 742, 743, 744, 745, 746, 747, 719, 720, 721, 722, 723, 724, 725, 713, 714, 732, 733, 734, 735, 736, 726, 727, 728, 748, 749, 750, 751, 729, 730, 731, 752, 753, 754] (by decide +kernel) (by decide +kernel)
set_option maxRecDepth 20000 in
theorem gL_law_X9_offer : GoodIn wsL_law (wsV RL 100 RX9 yX9_offer wsX9_offer) := goodIn_app (goodIn_of _ (by decide +kernel)) ggL_law_X9_offer
set_option maxRecDepth 20000 in
theorem ggL_law_X10_offer : GoodIn wsL_law wsX10_offer := goodIn_r _ [631, 94, 606, 110, 86, 111, 112, 113, 250, 251, 252, 5, 253, 224, 133, 134, 135, 507, 356, 357, 358, 132, 359, 360, 361, 362, 92, 90, 97, 87, 98, 100, 322, 323, 324, 325, 93, 363, 364, 365, 366, 167, 96, 367, 368, 369, 294, 295, 296, 297, 115, 298, 299, 300, 301, 84, 85, 89, 95, 508, 488, 489, 490, 458, 105, 108, 104, 106, 107, 88, 491, 116, 632, 633, 634, 635, 675, 676, 677, 678, 679, 680, 681, 682, 683, 684, 685, 686, 687, 688, 689, 690, 691, 692, 693, 694, 695, 696, 697, 698, 699, 700, 701, 702, 703, 704, 705, 706, 707, 708, 709, 710, 711, 712] (by decide +kernel) (by decide +kernel)
set_option maxRecDepth 20000 in
theorem gL_law_X10_offer : GoodIn wsL_law (wsV RL 103 RX10 yX10_offer wsX10_offer) := goodIn_app (goodIn_of _ (by decide +kernel)) ggL_law_X10_offer
set_option maxRecDepth 20000 in
theorem ggL_law_X9_spent : GoodIn wsL_law wsX9_spent := goodIn_r _ [639, 32, 640, 641, 621, 622, 31, 623, 78, 77, 668, 669, 670, 671, 672, 673, 674, 752, 753, 754, 729, 730, 731] (by decide +kernel) (by decide +kernel)
set_option maxRecDepth 20000 in
theorem gL_law_X9_spent : GoodIn wsL_law (wsV RL 104 RX9 yX9_spent wsX9_spent) := goodIn_app (goodIn_of _ (by decide +kernel)) ggL_law_X9_spent
set_option maxRecDepth 20000 in
theorem ggL_law_X10_spent : GoodIn wsL_law wsX10_spent := goodIn_r _ [645, 606, 112, 133, 134, 5, 135, 675, 676, 677, 678, 679, 680, 681, 682, 683, 684, 685, 686, 687, 688, 689, 690, 691, 692, 693, 694, 695, 696, 697, 698, 699, 700, 701, 702, 703, 704, 705, 706, 707, 708, 709, 710, 711, 712] (by decide +kernel) (by decide +kernel)
set_option maxRecDepth 20000 in
theorem gL_law_X10_spent : GoodIn wsL_law (wsV RL 107 RX10 yX10_spent wsX10_spent) := goodIn_app (goodIn_of _ (by decide +kernel)) ggL_law_X10_spent
set_option maxRecDepth 20000 in
theorem ggL_law_X9_count : GoodIn wsL_law wsX9_count := goodIn_r _ [649, 12, 24, 517, 16, 650, 28, 651, 32, 652, 653, 654, 655, 656, 2, 657, 258, 259, 260, 23, 261, 57, 58, 60, 61, 62, 63, 262, 263, 264, 265, 54, 266, 267, 268, 269, 270, 53, 241, 242, 243, 244, 271, 272, 273, 274, 59, 275, 276, 277, 278, 55, 279, 280, 281, 192, 282, 197, 283, 284, 123, 285, 198, 203, 204, 233, 234, 235, 236, 237, 238, 239, 240, 122, 124, 286, 287, 288, 289, 658, 659, 660, 661, 334, 335, 336, 337, 338, 339, 314, 315, 316, 317, 340, 341, 342, 15, 343, 40, 39, 344, 345, 346, 347, 142, 348, 349, 350, 149, 351, 352, 150, 152, 353, 354, 662, 617, 618, 31, 619, 78, 79, 668, 669, 670, 671, 672, 673, 674, 719, 720, 721, 722, 723, 724, 725, 713, 714, 726, 727, 728, 729, 730, 731, 737, 738, 739, 740, 741, 742, 743, 744, 745, 746, 747, 732, 733, 734, 735, 736] (by decide +kernel) (by decide +kernel)
set_option maxRecDepth 20000 in
theorem gL_law_X9_count : GoodIn wsL_law (wsV RL 108 RX9 yX9_count wsX9_count) := goodIn_app (goodIn_of _ (by decide +kernel)) ggL_law_X9_count
set_option maxRecDepth 20000 in
theorem ggL_law_X10_count : GoodIn wsL_law wsX10_count := goodIn_r _ [666, 132, 224, 167, 458, 606, 249, 667, 291, 292, 5, 293, 115, 250, 251, 252, 253, 133, 134, 135, 294, 295, 296, 297, 93, 298, 299, 300, 301, 84, 85, 89, 90, 95, 507, 356, 357, 358, 359, 360, 361, 362, 92, 97, 86, 87, 98, 100, 322, 323, 324, 325, 363, 364, 365, 366, 96, 367, 368, 369, 632, 633, 634, 635, 113, 675, 676, 677, 678, 679, 680, 681, 682, 683, 684, 685, 686, 687, 688, 689, 690, 691, 692, 693, 694, 695, 696, 697, 698, 699, 700, 701, 702, 703, 704, 705, 706, 707, 708, 709, 710, 711, 712] (by decide +kernel) (by decide +kernel)
set_option maxRecDepth 20000 in
theorem gL_law_X10_count : GoodIn wsL_law (wsV RL 111 RX10 yX10_count wsX10_count) := goodIn_app (goodIn_of _ (by decide +kernel)) ggL_law_X10_count
theorem dL_law_0 : decode cL_law 0 = .ok (.new 7, 3) := by decide +kernel
theorem dL_law_3 : decode cL_law 3 = .ok (.dup, 1) := by decide +kernel
theorem dL_law_4 : decode cL_law 4 = .ok (.invokespecial 9, 3) := by decide +kernel
theorem dL_law_7 : decode cL_law 7 = .ok (.astore_n 1, 1) := by decide +kernel
theorem dL_law_8 : decode cL_law 8 = .ok (.new 10, 3) := by decide +kernel
theorem dL_law_11 : decode cL_law 11 = .ok (.dup, 1) := by decide +kernel
theorem dL_law_12 : decode cL_law 12 = .ok (.invokespecial 12, 3) := by decide +kernel
theorem dL_law_15 : decode cL_law 15 = .ok (.astore_n 2, 1) := by decide +kernel
theorem dL_law_16 : decode cL_law 16 = .ok (.iconst 0, 1) := by decide +kernel
theorem dL_law_17 : decode cL_law 17 = .ok (.istore_n 3, 1) := by decide +kernel
theorem dL_law_18 : decode cL_law 18 = .ok (.iload_n 3, 1) := by decide +kernel
theorem dL_law_19 : decode cL_law 19 = .ok (.aload_n 0, 1) := by decide +kernel
theorem dL_law_20 : decode cL_law 20 = .ok (.arraylength, 1) := by decide +kernel
theorem dL_law_21 : decode cL_law 21 = .ok (.iconst 5, 1) := by decide +kernel
theorem dL_law_22 : decode cL_law 22 = .ok (.isub, 1) := by decide +kernel
theorem dL_law_23 : decode cL_law 23 = .ok (.if_icmp .gt 852, 3) := by decide +kernel
theorem dL_law_26 : decode cL_law 26 = .ok (.aload_n 0, 1) := by decide +kernel
theorem dL_law_27 : decode cL_law 27 = .ok (.iload_n 3, 1) := by decide +kernel
theorem dL_law_28 : decode cL_law 28 = .ok (.iaload, 1) := by decide +kernel
theorem dL_law_29 : decode cL_law 29 = .ok (.bipush 31, 2) := by decide +kernel
theorem dL_law_31 : decode cL_law 31 = .ok (.iand, 1) := by decide +kernel
theorem dL_law_32 : decode cL_law 32 = .ok (.tableswitch 837 0 22 #[108, 131, 174, 217, 270, 303, 326, 359, 382, 415, 448, 481, 534, 557, 590, 613, 636, 659, 692, 735, 768, 791, 814], 108) := by decide +kernel
theorem dL_law_140 : decode cL_law 140 = .ok (.aload_n 1, 1) := by decide +kernel
theorem dL_law_141 : decode cL_law 141 = .ok (.aload_n 0, 1) := by decide +kernel
theorem dL_law_142 : decode cL_law 142 = .ok (.iload_n 3, 1) := by decide +kernel
theorem dL_law_143 : decode cL_law 143 = .ok (.iconst 1, 1) := by decide +kernel
theorem dL_law_144 : decode cL_law 144 = .ok (.iadd, 1) := by decide +kernel
theorem dL_law_145 : decode cL_law 145 = .ok (.iaload, 1) := by decide +kernel
theorem dL_law_146 : decode cL_law 146 = .ok (.invokevirtual 13, 3) := by decide +kernel
theorem dL_law_149 : decode cL_law 149 = .ok (.aload_n 2, 1) := by decide +kernel
theorem dL_law_150 : decode cL_law 150 = .ok (.aload_n 0, 1) := by decide +kernel
theorem dL_law_151 : decode cL_law 151 = .ok (.iload_n 3, 1) := by decide +kernel
theorem dL_law_152 : decode cL_law 152 = .ok (.iconst 1, 1) := by decide +kernel
theorem dL_law_153 : decode cL_law 153 = .ok (.iadd, 1) := by decide +kernel
theorem dL_law_154 : decode cL_law 154 = .ok (.iaload, 1) := by decide +kernel
theorem dL_law_155 : decode cL_law 155 = .ok (.invokevirtual 17, 3) := by decide +kernel
theorem dL_law_158 : decode cL_law 158 = .ok (.if_icmp .eq 711, 3) := by decide +kernel
theorem dL_law_161 : decode cL_law 161 = .ok (.iconst 0, 1) := by decide +kernel
theorem dL_law_162 : decode cL_law 162 = .ok (.ireturn, 1) := by decide +kernel
theorem dL_law_163 : decode cL_law 163 = .ok (.aload_n 1, 1) := by decide +kernel
theorem dL_law_164 : decode cL_law 164 = .ok (.aload_n 0, 1) := by decide +kernel
theorem dL_law_165 : decode cL_law 165 = .ok (.iload_n 3, 1) := by decide +kernel
theorem dL_law_166 : decode cL_law 166 = .ok (.iconst 1, 1) := by decide +kernel
theorem dL_law_167 : decode cL_law 167 = .ok (.iadd, 1) := by decide +kernel
theorem dL_law_168 : decode cL_law 168 = .ok (.iaload, 1) := by decide +kernel
theorem dL_law_169 : decode cL_law 169 = .ok (.aload_n 0, 1) := by decide +kernel
theorem dL_law_170 : decode cL_law 170 = .ok (.iload_n 3, 1) := by decide +kernel
theorem dL_law_171 : decode cL_law 171 = .ok (.iconst 2, 1) := by decide +kernel
theorem dL_law_172 : decode cL_law 172 = .ok (.iadd, 1) := by decide +kernel
theorem dL_law_173 : decode cL_law 173 = .ok (.iaload, 1) := by decide +kernel
theorem dL_law_174 : decode cL_law 174 = .ok (.aload_n 0, 1) := by decide +kernel
theorem dL_law_175 : decode cL_law 175 = .ok (.iload_n 3, 1) := by decide +kernel
theorem dL_law_176 : decode cL_law 176 = .ok (.iconst 3, 1) := by decide +kernel
theorem dL_law_177 : decode cL_law 177 = .ok (.iadd, 1) := by decide +kernel
theorem dL_law_178 : decode cL_law 178 = .ok (.iaload, 1) := by decide +kernel
theorem dL_law_179 : decode cL_law 179 = .ok (.invokevirtual 18, 3) := by decide +kernel
theorem dL_law_182 : decode cL_law 182 = .ok (.aload_n 2, 1) := by decide +kernel
theorem dL_law_183 : decode cL_law 183 = .ok (.aload_n 0, 1) := by decide +kernel
theorem dL_law_184 : decode cL_law 184 = .ok (.iload_n 3, 1) := by decide +kernel
theorem dL_law_185 : decode cL_law 185 = .ok (.iconst 1, 1) := by decide +kernel
theorem dL_law_186 : decode cL_law 186 = .ok (.iadd, 1) := by decide +kernel
theorem dL_law_187 : decode cL_law 187 = .ok (.iaload, 1) := by decide +kernel
theorem dL_law_188 : decode cL_law 188 = .ok (.aload_n 0, 1) := by decide +kernel
theorem dL_law_189 : decode cL_law 189 = .ok (.iload_n 3, 1) := by decide +kernel
theorem dL_law_190 : decode cL_law 190 = .ok (.iconst 2, 1) := by decide +kernel
theorem dL_law_191 : decode cL_law 191 = .ok (.iadd, 1) := by decide +kernel
theorem dL_law_192 : decode cL_law 192 = .ok (.iaload, 1) := by decide +kernel
theorem dL_law_193 : decode cL_law 193 = .ok (.aload_n 0, 1) := by decide +kernel
theorem dL_law_194 : decode cL_law 194 = .ok (.iload_n 3, 1) := by decide +kernel
theorem dL_law_195 : decode cL_law 195 = .ok (.iconst 3, 1) := by decide +kernel
theorem dL_law_196 : decode cL_law 196 = .ok (.iadd, 1) := by decide +kernel
theorem dL_law_197 : decode cL_law 197 = .ok (.iaload, 1) := by decide +kernel
theorem dL_law_198 : decode cL_law 198 = .ok (.invokevirtual 22, 3) := by decide +kernel
theorem dL_law_201 : decode cL_law 201 = .ok (.if_icmp .eq 668, 3) := by decide +kernel
theorem dL_law_204 : decode cL_law 204 = .ok (.iconst 0, 1) := by decide +kernel
theorem dL_law_205 : decode cL_law 205 = .ok (.ireturn, 1) := by decide +kernel
theorem dL_law_206 : decode cL_law 206 = .ok (.aload_n 1, 1) := by decide +kernel
theorem dL_law_207 : decode cL_law 207 = .ok (.aload_n 0, 1) := by decide +kernel
