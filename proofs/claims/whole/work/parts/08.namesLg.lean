set_option maxRecDepth 20000 in
theorem ggL_law_X3_init : GoodIn wsL_law wsX3_init := goodIn_r _ [10, 11, 12, 13, 14, 15, 16, 17, 18, 19, 20, 21, 22, 23, 24, 25, 26, 27, 28, 29, 30, 31, 32, 33, 34, 35, 36, 37, 38, 39, 40, 41, 42, 43, 44, 45, 46, 47, 48, 49, 50, 51, 52, 53, 54, 55, 56, 57, 58, 59, 60, 61, 62, 63, 64, 65, 66, 67, 68, 69, 70, 71, 72, 733, 734, 735, 736, 737, 738, 739, 740, 741, 742, 743, 744, 712, 713, 714, 745, 746, 747, 748, 749, 750, 751, 752, 753, 754, 755, 756, 757, 758, 759, 760, 761, 762, 763, 764, 765, 766] (by decide +kernel) (by decide +kernel)
set_option maxRecDepth 20000 in
theorem gL_law_X3_init : GoodIn wsL_law (wsX3_init) := ggL_law_X3_init
set_option maxRecDepth 20000 in
theorem ggL_law_X4_init : GoodIn wsL_law wsX4_init := goodIn_r _ [75, 76, 12, 13, 31, 77, 78, 79, 80, 81, 82, 83, 84, 85, 86, 87, 88, 89, 90, 715, 716, 717, 718, 719, 720, 721, 722, 723, 724, 725, 726, 727, 728, 729, 730, 731, 732] (by decide +kernel) (by decide +kernel)
set_option maxRecDepth 20000 in
theorem gL_law_X4_init : GoodIn wsL_law (wsX4_init) := ggL_law_X4_init
set_option maxRecDepth 20000 in
theorem ggL_law_L_addExpression : GoodIn wsL_law wsL_addExpression := goodIn_ca (goodIn_ca (goodIn_r _ [94, 95, 96, 97, 98, 99, 2, 100, 101, 102, 103, 104, 17, 105, 106, 107, 108, 16, 109, 30, 32, 33, 42, 712, 713, 714, 733, 734, 735, 736, 737, 738, 739, 740, 741, 742, 743, 744] (by decide +kernel) (by decide +kernel)) (goodIn_sub (fun _ h => List.mem_append_left _ (List.mem_append_left _ (List.mem_append_right _ h))) (by decide +kernel))) (goodIn_sub (fun _ h => List.mem_append_left _ (List.mem_append_right _ h)) (by decide +kernel))
set_option maxRecDepth 20000 in
theorem gL_law_L_addExpression : GoodIn wsL_law (va_wsS RL 96 yL_addExpression wsL_addExpression) := goodIn_app (goodIn_of _ (by decide +kernel)) ggL_law_L_addExpression
set_option maxRecDepth 20000 in
theorem ggL_law_X4_addExpression : GoodIn wsL_law wsX4_addExpression := goodIn_r _ [113, 114, 115, 77, 116, 117, 118, 5, 119, 715, 716, 717, 718, 719, 720, 721, 722, 723, 724, 725, 726, 727, 728, 729, 730, 731, 732] (by decide +kernel) (by decide +kernel)
set_option maxRecDepth 20000 in
theorem gL_law_X4_addExpression : GoodIn wsL_law (wsV RL 101 RX4 yX4_addExpression wsX4_addExpression) := goodIn_app (goodIn_of _ (by decide +kernel)) ggL_law_X4_addExpression
set_option maxRecDepth 20000 in
theorem ggL_law_X4_thrown : GoodIn wsL_law wsX4_thrown := goodIn_r _ [123, 114, 715, 716, 717, 718, 719, 720, 721, 722, 723, 724, 725, 726, 727, 728, 729, 730, 731, 732] (by decide +kernel) (by decide +kernel)
set_option maxRecDepth 20000 in
theorem gL_law_X4_thrown : GoodIn wsL_law (wsV RL 102 RX4 yX4_thrown wsX4_thrown) := goodIn_app (goodIn_of _ (by decide +kernel)) ggL_law_X4_thrown
set_option maxRecDepth 20000 in
theorem ggL_law_L_addBlock : GoodIn wsL_law wsL_addBlock := goodIn_ca (goodIn_r _ [126, 96, 127, 128, 129, 2, 130, 103, 104, 17, 131, 132, 133, 134, 16, 135, 34, 42, 712, 713, 714, 733, 734, 735, 736, 737, 738, 739, 740, 741, 742, 743, 744] (by decide +kernel) (by decide +kernel)) (goodIn_sub (fun _ h => List.mem_append_left _ (List.mem_append_right _ h)) (by decide +kernel))
set_option maxRecDepth 20000 in
theorem gL_law_L_addBlock : GoodIn wsL_law (va_wsS RL 105 yL_addBlock wsL_addBlock) := goodIn_app (goodIn_of _ (by decide +kernel)) ggL_law_L_addBlock
set_option maxRecDepth 20000 in
theorem ggL_law_X4_addBlock : GoodIn wsL_law wsX4_addBlock := goodIn_r _ [139, 114, 78, 116, 117, 118, 5, 119, 715, 716, 717, 718, 719, 720, 721, 722, 723, 724, 725, 726, 727, 728, 729, 730, 731, 732] (by decide +kernel) (by decide +kernel)
set_option maxRecDepth 20000 in
theorem gL_law_X4_addBlock : GoodIn wsL_law (wsV RL 108 RX4 yX4_addBlock wsX4_addBlock) := goodIn_app (goodIn_of _ (by decide +kernel)) ggL_law_X4_addBlock
set_option maxRecDepth 20000 in
theorem ggL_law_L_addEdge : GoodIn wsL_law wsL_addEdge := goodIn_ca (goodIn_ca (goodIn_ca (goodIn_r _ [142, 143, 95, 96, 144, 145, 146, 2, 147, 101, 102, 103, 104, 17, 148, 149, 150, 151, 152, 153, 154, 155, 131, 156, 157, 158, 16, 159, 40, 41, 39, 160, 161, 162, 163, 37, 38, 42, 712, 713, 714, 733, 734, 735, 736, 737, 738, 739, 740, 741, 742, 743, 744] (by decide +kernel) (by decide +kernel)) (goodIn_sub (fun _ h => List.mem_append_left _ (List.mem_append_left _ (List.mem_append_right _ h))) (by decide +kernel))) (goodIn_sub (fun _ h => List.mem_append_left _ (List.mem_append_right _ h)) (by decide +kernel))) (goodIn_sub (fun _ h => List.mem_append_right _ h) (by decide +kernel))
set_option maxRecDepth 20000 in
theorem gL_law_L_addEdge : GoodIn wsL_law (va_wsS RL 109 yL_addEdge wsL_addEdge) := goodIn_app (goodIn_of _ (by decide +kernel)) ggL_law_L_addEdge
set_option maxRecDepth 20000 in
theorem ggL_law_X4_addEdge : GoodIn wsL_law wsX4_addEdge := goodIn_r _ [167, 114, 168, 81, 82, 169, 170, 171, 5, 172, 78, 116, 117, 118, 119, 173, 174, 175, 176, 715, 716, 717, 718, 719, 720, 721, 722, 723, 724, 725, 726, 727, 728, 729, 730, 731, 732] (by decide +kernel) (by decide +kernel)
set_option maxRecDepth 20000 in
theorem gL_law_X4_addEdge : GoodIn wsL_law (wsV RL 112 RX4 yX4_addEdge wsX4_addEdge) := goodIn_app (goodIn_of _ (by decide +kernel)) ggL_law_X4_addEdge
set_option maxRecDepth 20000 in
theorem ggL_law_L_compute : GoodIn wsL_law wsL_compute := goodIn_ca (goodIn_ca (goodIn_r _ [179, 143, 96, 180, 181, 182, 2, 183, 17, 150, 151, 152, 153, 154, 155, 131, 184, 185, 186, 187, 105, 188, 189, 190, 191, 103, 104, 192, 193, 194, 195, 16, 196, 36, 35, 42, 712, 713, 714, 733, 734, 735, 736, 737, 738, 739, 740, 741, 742, 743, 744] (by decide +kernel) (by decide +kernel)) (goodIn_sub (fun _ h => List.mem_append_right _ h) (by decide +kernel))) (goodIn_sub (fun _ h => List.mem_append_left _ (List.mem_append_right _ h)) (by decide +kernel))
set_option maxRecDepth 20000 in
theorem gL_law_L_compute : GoodIn wsL_law (va_wsS RL 113 yL_compute wsL_compute) := goodIn_app (goodIn_of _ (by decide +kernel)) ggL_law_L_compute
set_option maxRecDepth 20000 in
theorem ggL_law_X4_compute : GoodIn wsL_law wsX4_compute := goodIn_r _ [200, 114, 169, 170, 171, 5, 172, 78, 201, 202, 203, 204, 115, 205, 206, 207, 208, 79, 80, 116, 117, 118, 119, 715, 716, 717, 718, 719, 720, 721, 722, 723, 724, 725, 726, 727, 728, 729, 730, 731, 732] (by decide +kernel) (by decide +kernel)
set_option maxRecDepth 20000 in
theorem gL_law_X4_compute : GoodIn wsL_law (wsV RL 115 RX4 yX4_compute wsX4_compute) := goodIn_app (goodIn_of _ (by decide +kernel)) ggL_law_X4_compute
set_option maxRecDepth 20000 in
theorem ggL_law_L_use : GoodIn wsL_law wsL_use := goodIn_ca (goodIn_ca (goodIn_r _ [211, 143, 96, 212, 213, 214, 2, 215, 17, 150, 151, 152, 153, 154, 155, 131, 184, 185, 186, 187, 105, 188, 189, 190, 191, 103, 104, 192, 193, 194, 195, 16, 196, 36, 35, 42, 712, 713, 714, 733, 734, 735, 736, 737, 738, 739, 740, 741, 742, 743, 744] (by decide +kernel) (by decide +kernel)) (goodIn_sub (fun _ h => List.mem_append_right _ h) (by decide +kernel))) (goodIn_sub (fun _ h => List.mem_append_left _ (List.mem_append_right _ h)) (by decide +kernel))
set_option maxRecDepth 20000 in
theorem gL_law_L_use : GoodIn wsL_law (va_wsS RL 116 yL_use wsL_use) := goodIn_app (goodIn_of _ (by decide +kernel)) ggL_law_L_use
set_option maxRecDepth 20000 in
theorem ggL_law_X4_use : GoodIn wsL_law wsX4_use := goodIn_r _ [219, 114, 169, 170, 171, 5, 172, 78, 201, 202, 203, 204, 115, 205, 206, 207, 208, 79, 80, 116, 117, 118, 119, 715, 716, 717, 718, 719, 720, 721, 722, 723, 724, 725, 726, 727, 728, 729, 730, 731, 732] (by decide +kernel) (by decide +kernel)
set_option maxRecDepth 20000 in
theorem gL_law_X4_use : GoodIn wsL_law (wsV RL 118 RX4 yX4_use wsX4_use) := goodIn_app (goodIn_of _ (by decide +kernel)) ggL_law_X4_use
set_option maxRecDepth 20000 in
theorem ggL_law_L_assign : GoodIn wsL_law wsL_assign := goodIn_ca (goodIn_ca (goodIn_r _ [222, 143, 96, 223, 224, 225, 2, 226, 154, 155, 17, 150, 151, 152, 153, 131, 188, 189, 190, 191, 103, 104, 192, 193, 194, 195, 16, 196, 36, 35, 42, 712, 713, 714, 733, 734, 735, 736, 737, 738, 739, 740, 741, 742, 743, 744] (by decide +kernel) (by decide +kernel)) (goodIn_sub (fun _ h => List.mem_append_right _ h) (by decide +kernel))) (goodIn_sub (fun _ h => List.mem_append_left _ (List.mem_append_right _ h)) (by decide +kernel))
set_option maxRecDepth 20000 in
theorem gL_law_L_assign : GoodIn wsL_law (va_wsS RL 119 yL_assign wsL_assign) := goodIn_app (goodIn_of _ (by decide +kernel)) ggL_law_L_assign
set_option maxRecDepth 20000 in
theorem ggL_law_X4_assign : GoodIn wsL_law wsX4_assign := goodIn_r _ [230, 114, 169, 170, 171, 5, 172, 78, 205, 206, 207, 208, 79, 80, 116, 117, 118, 119, 715, 716, 717, 718, 719, 720, 721, 722, 723, 724, 725, 726, 727, 728, 729, 730, 731, 732] (by decide +kernel) (by decide +kernel)
set_option maxRecDepth 20000 in
theorem gL_law_X4_assign : GoodIn wsL_law (wsV RL 121 RX4 yX4_assign wsX4_assign) := goodIn_app (goodIn_of _ (by decide +kernel)) ggL_law_X4_assign
set_option maxRecDepth 20000 in
theorem ggL_law_L_drop : GoodIn wsL_law wsL_drop := goodIn_ca (goodIn_ca (goodIn_r _ [233, 143, 96, 234, 235, 236, 2, 237, 103, 104, 17, 192, 150, 151, 152, 153, 154, 155, 131, 238, 239, 240, 16, 241, 35, 42, 712, 713, 714, 733, 734, 735, 736, 737, 738, 739, 740, 741, 742, 743, 744] (by decide +kernel) (by decide +kernel)) (goodIn_sub (fun _ h => List.mem_append_left _ (List.mem_append_right _ h)) (by decide +kernel))) (goodIn_sub (fun _ h => List.mem_append_right _ h) (by decide +kernel))
set_option maxRecDepth 20000 in
theorem gL_law_L_drop : GoodIn wsL_law (va_wsS RL 122 yL_drop wsL_drop) := goodIn_app (goodIn_of _ (by decide +kernel)) ggL_law_L_drop
set_option maxRecDepth 20000 in
theorem ggL_law_X4_drop : GoodIn wsL_law wsX4_drop := goodIn_r _ [245, 114, 79, 169, 170, 171, 5, 172, 78, 116, 117, 118, 119, 715, 716, 717, 718, 719, 720, 721, 722, 723, 724, 725, 726, 727, 728, 729, 730, 731, 732] (by decide +kernel) (by decide +kernel)
set_option maxRecDepth 20000 in
theorem gL_law_X4_drop : GoodIn wsL_law (wsV RL 124 RX4 yX4_drop wsX4_drop) := goodIn_app (goodIn_of _ (by decide +kernel)) ggL_law_X4_drop
set_option maxRecDepth 20000 in
theorem ggL_law_X3_blockCount : GoodIn wsL_law wsX3_blockCount := goodIn_r _ [249, 17, 131, 712, 713, 714, 733, 734, 735, 736, 737, 738, 739, 740, 741, 742, 743, 744] (by decide +kernel) (by decide +kernel)
set_option maxRecDepth 20000 in
theorem gL_law_X3_blockCount : GoodIn wsL_law (wsV RL 125 RX3 yX3_blockCount wsX3_blockCount) := goodIn_app (goodIn_of _ (by decide +kernel)) ggL_law_X3_blockCount
set_option maxRecDepth 20000 in
theorem ggL_law_X4_blockCount : GoodIn wsL_law wsX4_blockCount := goodIn_r _ [253, 114, 78, 715, 716, 717, 718, 719, 720, 721, 722, 723, 724, 725, 726, 727, 728, 729, 730, 731, 732] (by decide +kernel) (by decide +kernel)
set_option maxRecDepth 20000 in
theorem gL_law_X4_blockCount : GoodIn wsL_law (wsV RL 128 RX4 yX4_blockCount wsX4_blockCount) := goodIn_app (goodIn_of _ (by decide +kernel)) ggL_law_X4_blockCount
set_option maxRecDepth 20000 in
theorem ggL_law_X3_edgeCount : GoodIn wsL_law wsX3_edgeCount := goodIn_r _ [257, 17, 149, 712, 713, 714, 733, 734, 735, 736, 737, 738, 739, 740, 741, 742, 743, 744] (by decide +kernel) (by decide +kernel)
set_option maxRecDepth 20000 in
theorem gL_law_X3_edgeCount : GoodIn wsL_law (wsV RL 129 RX3 yX3_edgeCount wsX3_edgeCount) := goodIn_app (goodIn_of _ (by decide +kernel)) ggL_law_X3_edgeCount
set_option maxRecDepth 20000 in
theorem ggL_law_X4_edgeCount : GoodIn wsL_law wsX4_edgeCount := goodIn_r _ [261, 114, 168, 715, 716, 717, 718, 719, 720, 721, 722, 723, 724, 725, 726, 727, 728, 729, 730, 731, 732] (by decide +kernel) (by decide +kernel)
set_option maxRecDepth 20000 in
theorem gL_law_X4_edgeCount : GoodIn wsL_law (wsV RL 132 RX4 yX4_edgeCount wsX4_edgeCount) := goodIn_app (goodIn_of _ (by decide +kernel)) ggL_law_X4_edgeCount
set_option maxRecDepth 20000 in
theorem ggL_law_L_size : GoodIn wsL_law wsL_size := goodIn_ca (goodIn_r _ [264, 143, 265, 266, 267, 2, 268, 17, 192, 150, 151, 152, 153, 154, 155, 131, 712, 713, 714, 733, 734, 735, 736, 737, 738, 739, 740, 741, 742, 743, 744] (by decide +kernel) (by decide +kernel)) (goodIn_sub (fun _ h => List.mem_append_right _ h) (by decide +kernel))
set_option maxRecDepth 20000 in
theorem gL_law_L_size : GoodIn wsL_law (va_wsS RL 133 yL_size wsL_size) := goodIn_app (goodIn_of _ (by decide +kernel)) ggL_law_L_size
set_option maxRecDepth 20000 in
theorem ggL_law_X4_size : GoodIn wsL_law wsX4_size := goodIn_r _ [272, 114, 79, 169, 170, 171, 5, 172, 78, 116, 117, 118, 119, 715, 716, 717, 718, 719, 720, 721, 722, 723, 724, 725, 726, 727, 728, 729, 730, 731, 732] (by decide +kernel) (by decide +kernel)
set_option maxRecDepth 20000 in
theorem gL_law_X4_size : GoodIn wsL_law (wsV RL 135 RX4 yX4_size wsX4_size) := goodIn_app (goodIn_of _ (by decide +kernel)) ggL_law_X4_size
set_option maxRecDepth 20000 in
theorem ggL_law_L_instruction : GoodIn wsL_law wsL_instruction := goodIn_ca (goodIn_r _ [275, 143, 276, 277, 278, 2, 279, 154, 155, 17, 192, 150, 151, 152, 153, 131, 280, 281, 282, 16, 283, 36, 712, 713, 714, 733, 734, 735, 736, 737, 738, 739, 740, 741, 742, 743, 744] (by decide +kernel) (by decide +kernel)) (goodIn_sub (fun _ h => List.mem_append_right _ h) (by decide +kernel))
set_option maxRecDepth 20000 in
theorem gL_law_L_instruction : GoodIn wsL_law (va_wsS RL 136 yL_instruction wsL_instruction) := goodIn_app (goodIn_of _ (by decide +kernel)) ggL_law_L_instruction
set_option maxRecDepth 20000 in
theorem ggL_law_X4_instruction : GoodIn wsL_law wsX4_instruction := goodIn_r _ [287, 114, 79, 169, 170, 171, 5, 172, 78, 288, 289, 290, 291, 80, 116, 117, 118, 119, 715, 716, 717, 718, 719, 720, 721, 722, 723, 724, 725, 726, 727, 728, 729, 730, 731, 732] (by decide +kernel) (by decide +kernel)
set_option maxRecDepth 20000 in
theorem gL_law_X4_instruction : GoodIn wsL_law (wsV RL 138 RX4 yX4_instruction wsX4_instruction) := goodIn_app (goodIn_of _ (by decide +kernel)) ggL_law_X4_instruction
set_option maxRecDepth 20000 in
theorem ggL_law_L_ends : GoodIn wsL_law wsL_ends := goodIn_ca (goodIn_r _ [294, 143, 295, 296, 297, 2, 298, 17, 299, 300, 301, 302, 154, 155, 149, 303, 304, 305, 16, 306, 38, 39, 712, 713, 714, 733, 734, 735, 736, 737, 738, 739, 740, 741, 742, 743, 744] (by decide +kernel) (by decide +kernel)) (goodIn_sub (fun _ h => List.mem_append_right _ h) (by decide +kernel))
set_option maxRecDepth 20000 in
theorem gL_law_L_ends : GoodIn wsL_law (va_wsS RL 139 yL_ends wsL_ends) := goodIn_app (goodIn_of _ (by decide +kernel)) ggL_law_L_ends
set_option maxRecDepth 20000 in
theorem ggL_law_X4_ends : GoodIn wsL_law wsX4_ends := goodIn_r _ [310, 114, 81, 82, 311, 312, 313, 5, 314, 168, 116, 117, 118, 119, 715, 716, 717, 718, 719, 720, 721, 722, 723, 724, 725, 726, 727, 728, 729, 730, 731, 732] (by decide +kernel) (by decide +kernel)
set_option maxRecDepth 20000 in
theorem gL_law_X4_ends : GoodIn wsL_law (wsV RL 141 RX4 yX4_ends wsX4_ends) := goodIn_app (goodIn_of _ (by decide +kernel)) ggL_law_X4_ends
set_option maxRecDepth 20000 in
theorem ggL_law_L_kept : GoodIn wsL_law wsL_kept := goodIn_ca (goodIn_r _ [317, 143, 318, 319, 320, 2, 321, 21, 322, 150, 151, 152, 153, 154, 155, 17, 131, 323, 324, 325, 20, 326, 59, 327, 328, 329, 330, 331, 332, 333, 334, 47, 48, 49, 335, 281, 282, 16, 283, 36, 336, 337, 338, 339, 30, 340, 341, 342, 343, 344, 345, 346, 347, 348, 51, 50, 349, 350, 351, 352, 353, 354, 355, 356, 357, 358, 359, 52, 360, 361, 362, 363, 364, 365, 366, 367, 53, 368, 369, 370, 371, 372, 373, 374, 375, 56, 376, 377, 378, 379, 54, 57, 380, 381, 382, 383, 384, 385, 386, 387, 388, 389, 390, 391, 58, 55, 712, 713, 714, 745, 746, 747, 748, 749, 750, 751, 752, 753, 754, 755, 756, 757, 733, 734, 735, 736, 737, 738, 739, 740, 741, 742, 743, 744] (by decide +kernel) (by decide +kernel)) (goodIn_sub (fun _ h => List.mem_append_right _ h) (by decide +kernel))
set_option maxRecDepth 20000 in
theorem gL_law_L_kept : GoodIn wsL_law (va_wsS RL 142 yL_kept wsL_kept) := goodIn_app (goodIn_of _ (by decide +kernel)) ggL_law_L_kept
set_option maxRecDepth 20000 in
theorem ggL_law_X4_kept : GoodIn wsL_law wsX4_kept := goodIn_r _ [395, 169, 170, 171, 5, 172, 78, 396, 397, 398, 399, 114, 400, 401, 402, 403, 83, 86, 87, 168, 82, 404, 405, 406, 407, 115, 408, 409, 410, 411, 81, 84, 173, 174, 175, 176, 412, 413, 414, 415, 79, 288, 289, 290, 291, 80, 416, 417, 418, 419, 77, 420, 421, 422, 423, 424, 425, 426, 427, 85, 428, 429, 430, 431, 432, 433, 434, 435, 436, 437, 438, 439, 715, 716, 717, 718, 719, 720, 721, 722, 723, 724, 725, 726, 727, 728, 729, 730, 731, 732] (by decide +kernel) (by decide +kernel)
set_option maxRecDepth 20000 in
theorem gL_law_X4_kept : GoodIn wsL_law (wsV RL 144 RX4 yX4_kept wsX4_kept) := goodIn_app (goodIn_of _ (by decide +kernel)) ggL_law_X4_kept
set_option maxRecDepth 20000 in
theorem ggL_law_L_early : GoodIn wsL_law wsL_early := goodIn_ca (goodIn_r _ [442, 143, 443, 444, 445, 2, 446, 21, 447, 150, 151, 152, 153, 154, 155, 17, 131, 323, 324, 325, 20, 326, 59, 327, 328, 329, 330, 331, 332, 333, 334, 47, 48, 49, 335, 281, 282, 16, 283, 36, 336, 337, 338, 339, 30, 340, 341, 342, 343, 344, 345, 346, 347, 348, 51, 50, 349, 350, 351, 352, 353, 354, 355, 356, 357, 358, 359, 52, 360, 361, 362, 363, 364, 365, 366, 367, 53, 368, 369, 370, 371, 372, 373, 374, 375, 56, 376, 377, 378, 379, 54, 57, 380, 381, 382, 383, 384, 385, 386, 387, 388, 389, 390, 391, 58, 55, 712, 713, 714, 745, 746, 747, 748, 749, 750, 751, 752, 753, 754, 755, 756, 757, 733, 734, 735, 736, 737, 738, 739, 740, 741, 742, 743, 744] (by decide +kernel) (by decide +kernel)) (goodIn_sub (fun _ h => List.mem_append_right _ h) (by decide +kernel))
set_option maxRecDepth 20000 in
theorem gL_law_L_early : GoodIn wsL_law (va_wsS RL 145 yL_early wsL_early) := goodIn_app (goodIn_of _ (by decide +kernel)) ggL_law_L_early
set_option maxRecDepth 20000 in
theorem ggL_law_X4_early : GoodIn wsL_law wsX4_early := goodIn_r _ [451, 169, 170, 171, 5, 172, 78, 396, 397, 398, 399, 114, 400, 401, 402, 403, 83, 86, 87, 168, 82, 404, 405, 406, 407, 115, 408, 409, 410, 411, 81, 84, 173, 174, 175, 176, 412, 413, 414, 415, 79, 288, 289, 290, 291, 80, 416, 417, 418, 419, 77, 420, 421, 422, 423, 424, 425, 426, 427, 85, 428, 429, 430, 431, 432, 433, 434, 435, 436, 437, 438, 439, 715, 716, 717, 718, 719, 720, 721, 722, 723, 724, 725, 726, 727, 728, 729, 730, 731, 732] (by decide +kernel) (by decide +kernel)
set_option maxRecDepth 20000 in
theorem gL_law_X4_early : GoodIn wsL_law (wsV RL 147 RX4 yX4_early wsX4_early) := goodIn_app (goodIn_of _ (by decide +kernel)) ggL_law_X4_early
set_option maxRecDepth 20000 in
theorem ggL_law_L_late : GoodIn wsL_law wsL_late := goodIn_ca (goodIn_r _ [454, 143, 455, 456, 457, 2, 458, 21, 459, 150, 151, 152, 153, 154, 155, 17, 131, 323, 324, 325, 20, 326, 59, 327, 328, 329, 330, 331, 332, 333, 334, 47, 48, 49, 335, 281, 282, 16, 283, 36, 336, 337, 338, 339, 30, 340, 341, 342, 343, 344, 345, 346, 347, 348, 51, 50, 349, 350, 351, 352, 353, 354, 355, 356, 357, 358, 359, 52, 360, 361, 362, 363, 364, 365, 366, 367, 53, 368, 369, 370, 371, 372, 373, 374, 375, 56, 376, 377, 378, 379, 54, 57, 380, 381, 382, 383, 384, 385, 386, 387, 388, 389, 390, 391, 58, 55, 712, 713, 714, 745, 746, 747, 748, 749, 750, 751, 752, 753, 754, 755, 756, 757, 733, 734, 735, 736, 737, 738, 739, 740, 741, 742, 743, 744] (by decide +kernel) (by decide +kernel)) (goodIn_sub (fun _ h => List.mem_append_right _ h) (by decide +kernel))
set_option maxRecDepth 20000 in
theorem gL_law_L_late : GoodIn wsL_law (va_wsS RL 148 yL_late wsL_late) := goodIn_app (goodIn_of _ (by decide +kernel)) ggL_law_L_late
set_option maxRecDepth 20000 in
theorem ggL_law_X4_late : GoodIn wsL_law wsX4_late := goodIn_r _ [463, 169, 170, 171, 5, 172, 78, 396, 397, 398, 399, 114, 400, 401, 402, 403, 83, 86, 87, 168, 82, 404, 405, 406, 407, 115, 408, 409, 410, 411, 81, 84, 173, 174, 175, 176, 412, 413, 414, 415, 79, 288, 289, 290, 291, 80, 416, 417, 418, 419, 77, 420, 421, 422, 423, 424, 425, 426, 427, 85, 428, 429, 430, 431, 432, 433, 434, 435, 436, 437, 438, 439, 715, 716, 717, 718, 719, 720, 721, 722, 723, 724, 725, 726, 727, 728, 729, 730, 731, 732] (by decide +kernel) (by decide +kernel)
set_option maxRecDepth 20000 in
theorem gL_law_X4_late : GoodIn wsL_law (wsV RL 150 RX4 yX4_late wsX4_late) := goodIn_app (goodIn_of _ (by decide +kernel)) ggL_law_X4_late
set_option maxRecDepth 20000 in
theorem ggL_law_L_needed : GoodIn wsL_law wsL_needed := goodIn_ca (goodIn_r _ [466, 143, 467, 468, 469, 2, 470, 21, 471, 472, 150, 151, 152, 153, 154, 155, 17, 131, 323, 324, 325, 20, 326, 59, 327, 328, 329, 330, 331, 332, 333, 334, 47, 48, 49, 335, 281, 282, 16, 283, 36, 336, 337, 338, 339, 30, 340, 341, 342, 343, 344, 345, 346, 347, 348, 51, 50, 349, 350, 351, 352, 353, 354, 355, 356, 357, 358, 359, 52, 360, 361, 362, 363, 364, 365, 366, 367, 53, 368, 369, 370, 371, 372, 373, 374, 375, 56, 376, 377, 378, 379, 54, 57, 380, 381, 382, 383, 384, 385, 386, 387, 388, 389, 390, 391, 58, 55, 712, 713, 714, 745, 746, 747, 748, 749, 750, 751, 752, 753, 754, 755, 756, 757, 733, 734, 735, 736, 737, 738, 739, 740, 741, 742, 743, 744] (by decide +kernel) (by decide +kernel)) (goodIn_sub (fun _ h => List.mem_append_right _ h) (by decide +kernel))
set_option maxRecDepth 20000 in
theorem gL_law_L_needed : GoodIn wsL_law (va_wsS RL 151 yL_needed wsL_needed) := goodIn_app (goodIn_of _ (by decide +kernel)) ggL_law_L_needed
set_option maxRecDepth 20000 in
theorem ggL_law_X4_needed : GoodIn wsL_law wsX4_needed := goodIn_r _ [476, 84, 83, 169, 170, 171, 5, 172, 78, 396, 397, 398, 399, 114, 400, 401, 402, 403, 86, 87, 168, 82, 404, 405, 406, 407, 115, 408, 409, 410, 411, 81, 173, 174, 175, 176, 412, 413, 414, 415, 79, 288, 289, 290, 291, 80, 416, 417, 418, 419, 77, 420, 421, 422, 423, 424, 425, 426, 427, 85, 428, 429, 430, 431, 432, 433, 434, 435, 436, 437, 438, 439, 715, 716, 717, 718, 719, 720, 721, 722, 723, 724, 725, 726, 727, 728, 729, 730, 731, 732] (by decide +kernel) (by decide +kernel)
set_option maxRecDepth 20000 in
theorem gL_law_X4_needed : GoodIn wsL_law (wsV RL 154 RX4 yX4_needed wsX4_needed) := goodIn_app (goodIn_of _ (by decide +kernel)) ggL_law_X4_needed
set_option maxRecDepth 20000 in
theorem ggL_law_L_there : GoodIn wsL_law wsL_there := goodIn_ca (goodIn_r _ [479, 143, 480, 481, 482, 2, 483, 21, 484, 485, 150, 151, 152, 153, 154, 155, 17, 131, 323, 324, 325, 20, 326, 59, 327, 328, 329, 330, 331, 332, 333, 334, 47, 48, 49, 335, 281, 282, 16, 283, 36, 336, 337, 338, 339, 30, 340, 341, 342, 343, 344, 345, 346, 347, 348, 51, 50, 349, 350, 351, 352, 353, 354, 355, 356, 357, 358, 359, 52, 360, 361, 362, 363, 364, 365, 366, 367, 53, 368, 369, 370, 371, 372, 373, 374, 375, 56, 376, 377, 378, 379, 54, 57, 380, 381, 382, 383, 384, 385, 386, 387, 388, 389, 390, 391, 58, 55, 712, 713, 714, 745, 746, 747, 748, 749, 750, 751, 752, 753, 754, 755, 756, 757, 733, 734, 735, 736, 737, 738, 739, 740, 741, 742, 743, 744] (by decide +kernel) (by decide +kernel)) (goodIn_sub (fun _ h => List.mem_append_right _ h) (by decide +kernel))
set_option maxRecDepth 20000 in
theorem gL_law_L_there : GoodIn wsL_law (va_wsS RL 155 yL_there wsL_there) := goodIn_app (goodIn_of _ (by decide +kernel)) ggL_law_L_there
set_option maxRecDepth 20000 in
theorem ggL_law_X4_there : GoodIn wsL_law wsX4_there := goodIn_r _ [489, 86, 85, 169, 170, 171, 5, 172, 78, 396, 397, 398, 399, 114, 400, 401, 402, 403, 83, 87, 168, 82, 404, 405, 406, 407, 115, 408, 409, 410, 411, 81, 84, 173, 174, 175, 176, 412, 413, 414, 415, 79, 288, 289, 290, 291, 80, 416, 417, 418, 419, 77, 420, 421, 422, 423, 424, 425, 426, 427, 428, 429, 430, 431, 432, 433, 434, 435, 436, 437, 438, 439, 715, 716, 717, 718, 719, 720, 721, 722, 723, 724, 725, 726, 727, 728, 729, 730, 731, 732] (by decide +kernel) (by decide +kernel)
set_option maxRecDepth 20000 in
theorem gL_law_X4_there : GoodIn wsL_law (wsV RL 157 RX4 yX4_there wsX4_there) := goodIn_app (goodIn_of _ (by decide +kernel)) ggL_law_X4_there
set_option maxRecDepth 20000 in
theorem ggL_law_L_earliest : GoodIn wsL_law wsL_earliest := goodIn_ca (goodIn_r _ [492, 143, 493, 494, 495, 2, 496, 21, 497, 299, 300, 301, 302, 154, 155, 17, 149, 323, 324, 325, 20, 326, 59, 327, 328, 329, 330, 331, 332, 333, 334, 47, 48, 49, 335, 281, 282, 16, 283, 36, 336, 337, 338, 339, 30, 340, 341, 342, 343, 344, 345, 346, 347, 348, 51, 50, 349, 350, 351, 352, 353, 354, 355, 356, 357, 358, 359, 52, 360, 361, 362, 363, 364, 365, 366, 367, 53, 368, 369, 370, 371, 372, 373, 374, 375, 56, 376, 377, 378, 379, 54, 57, 380, 381, 382, 383, 384, 385, 386, 387, 388, 389, 390, 391, 58, 55, 712, 713, 714, 745, 746, 747, 748, 749, 750, 751, 752, 753, 754, 755, 756, 757, 733, 734, 735, 736, 737, 738, 739, 740, 741, 742, 743, 744] (by decide +kernel) (by decide +kernel)) (goodIn_sub (fun _ h => List.mem_append_right _ h) (by decide +kernel))
set_option maxRecDepth 20000 in
theorem gL_law_L_earliest : GoodIn wsL_law (va_wsS RL 158 yL_earliest wsL_earliest) := goodIn_app (goodIn_of _ (by decide +kernel)) ggL_law_L_earliest
set_option maxRecDepth 20000 in
theorem ggL_law_X4_earliest : GoodIn wsL_law wsX4_earliest := goodIn_r _ [501, 311, 312, 313, 5, 314, 168, 396, 397, 398, 399, 114, 400, 401, 402, 403, 78, 83, 86, 87, 82, 404, 405, 406, 407, 115, 408, 409, 410, 411, 81, 84, 173, 174, 175, 176, 412, 413, 414, 415, 79, 288, 289, 290, 291, 80, 416, 417, 418, 419, 77, 420, 421, 422, 423, 424, 425, 426, 427, 85, 428, 429, 430, 431, 432, 433, 434, 435, 436, 437, 438, 439, 715, 716, 717, 718, 719, 720, 721, 722, 723, 724, 725, 726, 727, 728, 729, 730, 731, 732] (by decide +kernel) (by decide +kernel)
set_option maxRecDepth 20000 in
theorem gL_law_X4_earliest : GoodIn wsL_law (wsV RL 160 RX4 yX4_earliest wsX4_earliest) := goodIn_app (goodIn_of _ (by decide +kernel)) ggL_law_X4_earliest
set_option maxRecDepth 20000 in
theorem ggL_law_L_delayedOn : GoodIn wsL_law wsL_delayedOn := goodIn_ca (goodIn_r _ [504, 143, 505, 506, 507, 2, 508, 21, 509, 299, 300, 301, 302, 154, 155, 17, 149, 323, 324, 325, 20, 326, 59, 327, 328, 329, 330, 331, 332, 333, 334, 47, 48, 49, 335, 281, 282, 16, 283, 36, 336, 337, 338, 339, 30, 340, 341, 342, 343, 344, 345, 346, 347, 348, 51, 50, 349, 350, 351, 352, 353, 354, 355, 356, 357, 358, 359, 52, 360, 361, 362, 363, 364, 365, 366, 367, 53, 368, 369, 370, 371, 372, 373, 374, 375, 56, 376, 377, 378, 379, 54, 57, 380, 381, 382, 383, 384, 385, 386, 387, 388, 389, 390, 391, 58, 55, 712, 713, 714, 745, 746, 747, 748, 749, 750, 751, 752, 753, 754, 755, 756, 757, 733, 734, 735, 736, 737, 738, 739, 740, 741, 742, 743, 744] (by decide +kernel) (by decide +kernel)) (goodIn_sub (fun _ h => List.mem_append_right _ h) (by decide +kernel))
set_option maxRecDepth 20000 in
theorem gL_law_L_delayedOn : GoodIn wsL_law (va_wsS RL 161 yL_delayedOn wsL_delayedOn) := goodIn_app (goodIn_of _ (by decide +kernel)) ggL_law_L_delayedOn
set_option maxRecDepth 20000 in
theorem ggL_law_X4_delayedOn : GoodIn wsL_law wsX4_delayedOn := goodIn_r _ [513, 311, 312, 313, 5, 314, 168, 396, 397, 398, 399, 114, 400, 401, 402, 403, 78, 83, 86, 87, 82, 404, 405, 406, 407, 115, 408, 409, 410, 411, 81, 84, 173, 174, 175, 176, 412, 413, 414, 415, 79, 288, 289, 290, 291, 80, 416, 417, 418, 419, 77, 420, 421, 422, 423, 424, 425, 426, 427, 85, 428, 429, 430, 431, 432, 433, 434, 435, 436, 437, 438, 439, 715, 716, 717, 718, 719, 720, 721, 722, 723, 724, 725, 726, 727, 728, 729, 730, 731, 732] (by decide +kernel) (by decide +kernel)
set_option maxRecDepth 20000 in
theorem gL_law_X4_delayedOn : GoodIn wsL_law (wsV RL 163 RX4 yX4_delayedOn wsX4_delayedOn) := goodIn_app (goodIn_of _ (by decide +kernel)) ggL_law_X4_delayedOn
set_option maxRecDepth 20000 in
theorem ggL_law_L_delayedAt : GoodIn wsL_law wsL_delayedAt := goodIn_ca (goodIn_r _ [516, 143, 517, 518, 519, 2, 520, 21, 521, 150, 151, 152, 153, 154, 155, 17, 131, 323, 324, 325, 20, 326, 59, 327, 328, 329, 330, 331, 332, 333, 334, 47, 48, 49, 335, 281, 282, 16, 283, 36, 336, 337, 338, 339, 30, 340, 341, 342, 343, 344, 345, 346, 347, 348, 51, 50, 349, 350, 351, 352, 353, 354, 355, 356, 357, 358, 359, 52, 360, 361, 362, 363, 364, 365, 366, 367, 53, 368, 369, 370, 371, 372, 373, 374, 375, 56, 376, 377, 378, 379, 54, 57, 380, 381, 382, 383, 384, 385, 386, 387, 388, 389, 390, 391, 58, 55, 712, 713, 714, 745, 746, 747, 748, 749, 750, 751, 752, 753, 754, 755, 756, 757, 733, 734, 735, 736, 737, 738, 739, 740, 741, 742, 743, 744] (by decide +kernel) (by decide +kernel)) (goodIn_sub (fun _ h => List.mem_append_right _ h) (by decide +kernel))
set_option maxRecDepth 20000 in
theorem gL_law_L_delayedAt : GoodIn wsL_law (va_wsS RL 164 yL_delayedAt wsL_delayedAt) := goodIn_app (goodIn_of _ (by decide +kernel)) ggL_law_L_delayedAt
set_option maxRecDepth 20000 in
theorem ggL_law_X4_delayedAt : GoodIn wsL_law wsX4_delayedAt := goodIn_r _ [525, 87, 169, 170, 171, 5, 172, 78, 396, 397, 398, 399, 114, 400, 401, 402, 403, 83, 86, 168, 82, 404, 405, 406, 407, 115, 408, 409, 410, 411, 81, 84, 173, 174, 175, 176, 412, 413, 414, 415, 79, 288, 289, 290, 291, 80, 416, 417, 418, 419, 77, 420, 421, 422, 423, 424, 425, 426, 427, 85, 428, 429, 430, 431, 432, 433, 434, 435, 436, 437, 438, 439, 715, 716, 717, 718, 719, 720, 721, 722, 723, 724, 725, 726, 727, 728, 729, 730, 731, 732] (by decide +kernel) (by decide +kernel)
set_option maxRecDepth 20000 in
theorem gL_law_X4_delayedAt : GoodIn wsL_law (wsV RL 166 RX4 yX4_delayedAt wsX4_delayedAt) := goodIn_app (goodIn_of _ (by decide +kernel)) ggL_law_X4_delayedAt
set_option maxRecDepth 20000 in
theorem ggL_law_L_insertions : GoodIn wsL_law wsL_insertions := goodIn_ca (goodIn_r _ [528, 143, 529, 530, 531, 2, 532, 21, 533, 299, 300, 301, 302, 154, 155, 17, 149, 323, 324, 325, 20, 326, 59, 327, 328, 329, 330, 331, 332, 333, 334, 47, 48, 49, 335, 281, 282, 16, 283, 36, 336, 337, 338, 339, 30, 340, 341, 342, 343, 344, 345, 346, 347, 348, 51, 50, 349, 350, 351, 352, 353, 354, 355, 356, 357, 358, 359, 52, 360, 361, 362, 363, 364, 365, 366, 367, 53, 368, 369, 370, 371, 372, 373, 374, 375, 56, 376, 377, 378, 379, 54, 57, 380, 381, 382, 383, 384, 385, 386, 387, 388, 389, 390, 391, 58, 55, 712, 713, 714, 745, 746, 747, 748, 749, 750, 751, 752, 753, 754, 755, 756, 757, 733, 734, 735, 736, 737, 738, 739, 740, 741, 742, 743, 744] (by decide +kernel) (by decide +kernel)) (goodIn_sub (fun _ h => List.mem_append_right _ h) (by decide +kernel))
set_option maxRecDepth 20000 in
theorem gL_law_L_insertions : GoodIn wsL_law (va_wsS RL 167 yL_insertions wsL_insertions) := goodIn_app (goodIn_of _ (by decide +kernel)) ggL_law_L_insertions
set_option maxRecDepth 20000 in
theorem ggL_law_X4_insertions : GoodIn wsL_law wsX4_insertions := goodIn_r _ [537, 311, 312, 313, 5, 314, 168, 396, 397, 398, 399, 114, 400, 401, 402, 403, 78, 83, 86, 87, 82, 404, 405, 406, 407, 115, 408, 409, 410, 411, 81, 84, 173, 174, 175, 176, 412, 413, 414, 415, 79, 288, 289, 290, 291, 80, 416, 417, 418, 419, 77, 420, 421, 422, 423, 424, 425, 426, 427, 85, 428, 429, 430, 431, 432, 433, 434, 435, 436, 437, 438, 439, 538, 539, 540, 541, 715, 716, 717, 718, 719, 720, 721, 722, 723, 724, 725, 726, 727, 728, 729, 730, 731, 732] (by decide +kernel) (by decide +kernel)
set_option maxRecDepth 20000 in
theorem gL_law_X4_insertions : GoodIn wsL_law (wsV RL 169 RX4 yX4_insertions wsX4_insertions) := goodIn_app (goodIn_of _ (by decide +kernel)) ggL_law_X4_insertions
set_option maxRecDepth 20000 in
theorem ggL_law_L_deletions : GoodIn wsL_law wsL_deletions := goodIn_ca (goodIn_r _ [544, 143, 545, 546, 547, 2, 548, 21, 549, 150, 151, 152, 153, 154, 155, 17, 131, 323, 324, 325, 20, 326, 59, 327, 328, 329, 330, 331, 332, 333, 334, 47, 48, 49, 335, 281, 282, 16, 283, 36, 336, 337, 338, 339, 30, 340, 341, 342, 343, 344, 345, 346, 347, 348, 51, 50, 349, 350, 351, 352, 353, 354, 355, 356, 357, 358, 359, 52, 360, 361, 362, 363, 364, 365, 366, 367, 53, 368, 369, 370, 371, 372, 373, 374, 375, 56, 376, 377, 378, 379, 54, 57, 380, 381, 382, 383, 384, 385, 386, 387, 388, 389, 390, 391, 58, 55, 712, 713, 714, 745, 746, 747, 748, 749, 750, 751, 752, 753, 754, 755, 756, 757, 733, 734, 735, 736, 737, 738, 739, 740, 741, 742, 743, 744] (by decide +kernel) (by decide +kernel)) (goodIn_sub (fun _ h => List.mem_append_right _ h) (by decide +kernel))
set_option maxRecDepth 20000 in
theorem gL_law_L_deletions : GoodIn wsL_law (va_wsS RL 170 yL_deletions wsL_deletions) := goodIn_app (goodIn_of _ (by decide +kernel)) ggL_law_L_deletions
set_option maxRecDepth 20000 in
theorem ggL_law_X4_deletions : GoodIn wsL_law wsX4_deletions := goodIn_r _ [553, 169, 170, 171, 5, 172, 78, 396, 397, 398, 399, 114, 400, 401, 402, 403, 83, 86, 87, 168, 82, 404, 405, 406, 407, 115, 408, 409, 410, 411, 81, 84, 173, 174, 175, 176, 412, 413, 414, 415, 79, 288, 289, 290, 291, 80, 416, 417, 418, 419, 77, 420, 421, 422, 423, 424, 425, 426, 427, 85, 428, 429, 430, 431, 432, 433, 434, 435, 436, 437, 438, 439, 554, 555, 556, 557, 715, 716, 717, 718, 719, 720, 721, 722, 723, 724, 725, 726, 727, 728, 729, 730, 731, 732] (by decide +kernel) (by decide +kernel)
set_option maxRecDepth 20000 in
theorem gL_law_X4_deletions : GoodIn wsL_law (wsV RL 172 RX4 yX4_deletions wsX4_deletions) := goodIn_app (goodIn_of _ (by decide +kernel)) ggL_law_X4_deletions
set_option maxRecDepth 20000 in
theorem ggL_law_L_move : GoodIn wsL_law wsL_move := goodIn_ca (goodIn_r _ [560, 96, 561, 562, 563, 2, 564, 103, 104, 21, 17, 131, 149, 323, 324, 325, 20, 326, 59, 327, 328, 329, 330, 331, 332, 333, 334, 47, 48, 49, 335, 281, 282, 16, 283, 36, 336, 337, 338, 339, 30, 340, 341, 342, 343, 344, 345, 346, 347, 348, 51, 50, 349, 350, 351, 352, 353, 354, 355, 356, 357, 358, 359, 52, 360, 361, 362, 363, 364, 365, 366, 367, 53, 368, 369, 370, 371, 372, 373, 374, 375, 56, 376, 377, 378, 379, 54, 57, 380, 381, 382, 383, 384, 385, 386, 387, 388, 389, 390, 391, 58, 55, 565, 566, 567, 568, 569, 570, 571, 572, 549, 573, 574, 575, 576, 35, 42, 577, 578, 579, 580, 581, 533, 582, 583, 584, 585, 39, 586, 133, 134, 135, 34, 587, 194, 195, 196, 588, 161, 162, 163, 37, 38, 40, 41, 712, 713, 714, 733, 734, 735, 736, 737, 738, 739, 740, 741, 742, 743, 744, 745, 746, 747, 748, 749, 750, 751, 752, 753, 754, 755, 756, 757] (by decide +kernel) (by decide +kernel)) (goodIn_sub (fun _ h => List.mem_append_left _ (List.mem_append_right _ h)) (by decide +kernel))
set_option maxRecDepth 20000 in
theorem gL_law_L_move : GoodIn wsL_law (va_wsS RL 173 yL_move wsL_move) := goodIn_app (goodIn_of _ (by decide +kernel)) ggL_law_L_move
set_option maxRecDepth 20000 in
theorem ggL_law_X4_move : GoodIn wsL_law wsX4_move := goodIn_r _ [592, 114, 31, 168, 78, 400, 401, 402, 5, 403, 83, 86, 87, 82, 404, 405, 406, 407, 115, 408, 409, 410, 411, 81, 84, 173, 174, 175, 176, 412, 413, 414, 415, 79, 288, 289, 290, 291, 80, 416, 417, 418, 419, 77, 420, 421, 422, 423, 424, 425, 426, 427, 85, 428, 429, 430, 431, 432, 433, 434, 435, 436, 437, 438, 439, 538, 539, 540, 541, 116, 117, 118, 119, 554, 555, 556, 557, 593, 594, 595, 596, 597, 598, 599, 600, 205, 206, 207, 208, 715, 716, 717, 718, 719, 720, 721, 722, 723, 724, 725, 726, 727, 728, 729, 730, 731, 732] (by decide +kernel) (by decide +kernel)
set_option maxRecDepth 20000 in
theorem gL_law_X4_move : GoodIn wsL_law (wsV RL 175 RX4 yX4_move wsX4_move) := goodIn_app (goodIn_of _ (by decide +kernel)) ggL_law_X4_move
set_option maxRecDepth 20000 in
theorem ggL_law_L_walk : GoodIn wsL_law wsL_walk := goodIn_ca (goodIn_r _ [603, 95, 604, 605, 606, 2, 607, 101, 102, 25, 608, 609, 610, 24, 611, 67, 68, 612, 613, 614, 615, 64, 65, 66, 70, 71, 616, 617, 618, 619, 72, 620, 621, 622, 281, 282, 16, 283, 36, 623, 624, 625, 626, 69, 627, 628, 629, 630, 631, 632, 633, 634, 635, 636, 637, 638, 712, 713, 714, 758, 759, 760, 761, 762, 763, 764, 765, 766, 733, 734, 735, 736, 737, 738, 739, 740, 741, 742, 743, 744] (by decide +kernel) (by decide +kernel)) (goodIn_sub (fun _ h => List.mem_append_left _ (List.mem_append_left _ (List.mem_append_right _ h))) (by decide +kernel))
set_option maxRecDepth 20000 in
theorem gL_law_L_walk : GoodIn wsL_law (va_wsS RL 178 yL_walk wsL_walk) := goodIn_app (goodIn_of _ (by decide +kernel)) ggL_law_L_walk
set_option maxRecDepth 20000 in
theorem ggL_law_X4_walk : GoodIn wsL_law wsX4_walk := goodIn_r _ [642, 114, 88, 89, 643, 90, 79, 116, 117, 118, 5, 119, 288, 289, 290, 291, 80, 644, 645, 646, 647, 115, 416, 417, 418, 419, 77, 648, 649, 650, 651, 168, 81, 82, 715, 716, 717, 718, 719, 720, 721, 722, 723, 724, 725, 726, 727, 728, 729, 730, 731, 732] (by decide +kernel) (by decide +kernel)
set_option maxRecDepth 20000 in
theorem gL_law_X4_walk : GoodIn wsL_law (wsV RL 181 RX4 yX4_walk wsX4_walk) := goodIn_app (goodIn_of _ (by decide +kernel)) ggL_law_X4_walk
set_option maxRecDepth 20000 in
theorem ggL_law_L_computed : GoodIn wsL_law wsL_computed := goodIn_ca (goodIn_r _ [654, 143, 655, 656, 657, 2, 658, 25, 659, 184, 185, 186, 187, 154, 155, 17, 105, 712, 713, 714, 758, 759, 760, 761, 762, 763, 764, 765, 766, 733, 734, 735, 736, 737, 738, 739, 740, 741, 742, 743, 744] (by decide +kernel) (by decide +kernel)) (goodIn_sub (fun _ h => List.mem_append_right _ h) (by decide +kernel))
set_option maxRecDepth 20000 in
theorem gL_law_L_computed : GoodIn wsL_law (va_wsS RL 182 yL_computed wsL_computed) := goodIn_app (goodIn_of _ (by decide +kernel)) ggL_law_L_computed
set_option maxRecDepth 20000 in
theorem ggL_law_X4_computed : GoodIn wsL_law wsX4_computed := goodIn_r _ [663, 114, 88, 201, 202, 203, 5, 204, 115, 116, 117, 118, 119, 715, 716, 717, 718, 719, 720, 721, 722, 723, 724, 725, 726, 727, 728, 729, 730, 731, 732] (by decide +kernel) (by decide +kernel)
set_option maxRecDepth 20000 in
theorem gL_law_X4_computed : GoodIn wsL_law (wsV RL 184 RX4 yX4_computed wsX4_computed) := goodIn_app (goodIn_of _ (by decide +kernel)) ggL_law_X4_computed
set_option maxRecDepth 20000 in
theorem ggL_law_X3_misses : GoodIn wsL_law wsX3_misses := goodIn_r _ [667, 25, 668, 712, 713, 714, 758, 759, 760, 761, 762, 763, 764, 765, 766] (by decide +kernel) (by decide +kernel)
set_option maxRecDepth 20000 in
theorem gL_law_X3_misses : GoodIn wsL_law (wsV RL 185 RX3 yX3_misses wsX3_misses) := goodIn_app (goodIn_of _ (by decide +kernel)) ggL_law_X3_misses
set_option maxRecDepth 20000 in
theorem ggL_law_X4_misses : GoodIn wsL_law wsX4_misses := goodIn_r _ [672, 114, 643, 715, 716, 717, 718, 719, 720, 721, 722, 723, 724, 725, 726, 727, 728, 729, 730, 731, 732] (by decide +kernel) (by decide +kernel)
set_option maxRecDepth 20000 in
theorem gL_law_X4_misses : GoodIn wsL_law (wsV RL 188 RX4 yX4_misses wsX4_misses) := goodIn_app (goodIn_of _ (by decide +kernel)) ggL_law_X4_misses
set_option maxRecDepth 20000 in
theorem ggL_law_X3_lastBlock : GoodIn wsL_law wsX3_lastBlock := goodIn_r _ [676, 25, 677, 712, 713, 714, 758, 759, 760, 761, 762, 763, 764, 765, 766] (by decide +kernel) (by decide +kernel)
set_option maxRecDepth 20000 in
theorem gL_law_X3_lastBlock : GoodIn wsL_law (wsV RL 189 RX3 yX3_lastBlock wsX3_lastBlock) := goodIn_app (goodIn_of _ (by decide +kernel)) ggL_law_X3_lastBlock
set_option maxRecDepth 20000 in
theorem ggL_law_X4_lastBlock : GoodIn wsL_law wsX4_lastBlock := goodIn_r _ [681, 114, 90, 715, 716, 717, 718, 719, 720, 721, 722, 723, 724, 725, 726, 727, 728, 729, 730, 731, 732] (by decide +kernel) (by decide +kernel)
set_option maxRecDepth 20000 in
theorem gL_law_X4_lastBlock : GoodIn wsL_law (wsV RL 192 RX4 yX4_lastBlock wsX4_lastBlock) := goodIn_app (goodIn_of _ (by decide +kernel)) ggL_law_X4_lastBlock
set_option maxRecDepth 20000 in
theorem ggL_law_L_heldFor : GoodIn wsL_law wsL_heldFor := goodIn_ca (goodIn_r _ [684, 143, 685, 686, 687, 2, 688, 25, 689, 184, 185, 186, 187, 154, 155, 17, 105, 712, 713, 714, 758, 759, 760, 761, 762, 763, 764, 765, 766, 733, 734, 735, 736, 737, 738, 739, 740, 741, 742, 743, 744] (by decide +kernel) (by decide +kernel)) (goodIn_sub (fun _ h => List.mem_append_right _ h) (by decide +kernel))
set_option maxRecDepth 20000 in
theorem gL_law_L_heldFor : GoodIn wsL_law (va_wsS RL 193 yL_heldFor wsL_heldFor) := goodIn_app (goodIn_of _ (by decide +kernel)) ggL_law_L_heldFor
set_option maxRecDepth 20000 in
theorem ggL_law_X4_heldFor : GoodIn wsL_law wsX4_heldFor := goodIn_r _ [693, 114, 89, 201, 202, 203, 5, 204, 115, 116, 117, 118, 119, 715, 716, 717, 718, 719, 720, 721, 722, 723, 724, 725, 726, 727, 728, 729, 730, 731, 732] (by decide +kernel) (by decide +kernel)
set_option maxRecDepth 20000 in
theorem gL_law_X4_heldFor : GoodIn wsL_law (wsV RL 195 RX4 yX4_heldFor wsX4_heldFor) := goodIn_app (goodIn_of _ (by decide +kernel)) ggL_law_X4_heldFor
set_option maxRecDepth 20000 in
theorem ggL_law_X3_digest : GoodIn wsL_law wsX3_digest := goodIn_r _ [697, 17, 698, 699, 25, 668, 677, 700, 701, 702, 16, 703, 704, 30, 32, 34, 35, 37, 577, 281, 282, 283, 36, 705, 304, 305, 306, 38, 39, 712, 713, 714, 758, 759, 760, 761, 762, 763, 764, 765, 766, 733, 734, 735, 736, 737, 738, 739, 740, 741, 742, 743, 744] (by decide +kernel) (by decide +kernel)
set_option maxRecDepth 20000 in
theorem gL_law_X3_digest : GoodIn wsL_law (wsV RL 196 RX3 yX3_digest wsX3_digest) := goodIn_app (goodIn_of _ (by decide +kernel)) ggL_law_X3_digest
set_option maxRecDepth 20000 in
theorem ggL_law_X4_digest : GoodIn wsL_law wsX4_digest := goodIn_r _ [709, 114, 710, 115, 711, 77, 78, 79, 168, 81, 82, 643, 90, 288, 289, 290, 5, 291, 80, 715, 716, 717, 718, 719, 720, 721, 722, 723, 724, 725, 726, 727, 728, 729, 730, 731, 732] (by decide +kernel) (by decide +kernel)
set_option maxRecDepth 20000 in
theorem gL_law_X4_digest : GoodIn wsL_law (wsV RL 200 RX4 yX4_digest wsX4_digest) := goodIn_app (goodIn_of _ (by decide +kernel)) ggL_law_X4_digest
