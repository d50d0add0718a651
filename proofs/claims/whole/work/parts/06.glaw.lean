set_option maxRecDepth 20000 in
theorem ggL_law_X4_init : GoodIn wsL_law wsX4_init := goodIn_r _ [9, 10, 11, 12, 13, 14, 15, 16, 17, 18, 19, 20, 21, 22, 23, 24, 25, 26, 27, 28, 29, 30, 31, 32, 33, 34, 35, 36, 37, 38, 39, 40, 41, 42, 43, 44, 45, 46, 47, 48, 49, 50, 51, 52, 53, 54, 55, 56, 57, 58, 59, 60, 61, 62, 63, 795, 796, 754, 755, 756, 757, 758, 759, 760, 761, 762, 763, 764, 765, 766, 767, 797, 798, 799, 800, 801, 802, 803, 804, 805] (by decide +kernel) (by decide +kernel)
set_option maxRecDepth 20000 in
theorem gL_law_X4_init : GoodIn wsL_law (wsX4_init) := ggL_law_X4_init
set_option maxRecDepth 20000 in
theorem ggL_law_X5_init : GoodIn wsL_law wsX5_init := goodIn_r _ [66, 67, 11, 12, 68, 34, 69, 70, 71, 72, 73, 50, 74, 75, 76, 77, 78, 79, 80, 81, 82, 83, 84, 85, 86, 87, 88, 89, 90, 91, 92, 93, 94, 95, 5, 96, 768, 769, 770, 771, 772, 773, 774, 775, 776, 777, 778, 779, 780, 781, 782, 783, 784, 785, 786, 787, 788, 789, 790, 791, 792, 793, 794] (by decide +kernel) (by decide +kernel)
set_option maxRecDepth 20000 in
theorem gL_law_X5_init : GoodIn wsL_law (wsX5_init) := ggL_law_X5_init
set_option maxRecDepth 20000 in
theorem ggL_law_L_append : GoodIn wsL_law wsL_append := goodIn_ca (goodIn_ca (goodIn_ca (goodIn_r _ [100, 101, 102, 103, 104, 105, 106, 2, 107, 108, 109, 110, 111, 16, 112, 113, 114, 115, 116, 117, 118, 119, 120, 121, 122, 123, 15, 124, 43, 44, 754, 755, 756, 757, 758, 759, 760, 761, 762, 763, 764, 765, 766, 767, 795, 796] (by decide +kernel) (by decide +kernel)) (goodIn_sub (fun _ h => List.mem_append_left _ (List.mem_append_left _ (List.mem_append_right _ h))) (by decide +kernel))) (goodIn_sub (fun _ h => List.mem_append_left _ (List.mem_append_right _ h)) (by decide +kernel))) (goodIn_sub (fun _ h => List.mem_append_right _ h) (by decide +kernel))
set_option maxRecDepth 20000 in
theorem gL_law_L_append : GoodIn wsL_law (va_wsS RL 109 yL_append wsL_append) := goodIn_app (goodIn_of _ (by decide +kernel)) ggL_law_L_append
set_option maxRecDepth 20000 in
theorem ggL_law_X5_append : GoodIn wsL_law wsX5_append := goodIn_r _ [128, 69, 71, 129, 130, 5, 131, 132, 133, 134, 135, 136, 137, 138, 139, 140, 141, 142, 768, 769, 770, 771, 772, 773, 774, 775, 776, 777, 778, 779, 780, 781, 782, 783, 784, 785, 786, 787, 788, 789, 790, 791, 792, 793, 794] (by decide +kernel) (by decide +kernel)
set_option maxRecDepth 20000 in
theorem gL_law_X5_append : GoodIn wsL_law (wsV RL 114 RX5 yX5_append wsX5_append) := goodIn_app (goodIn_of _ (by decide +kernel)) ggL_law_X5_append
set_option maxRecDepth 20000 in
theorem ggL_law_X5_thrown : GoodIn wsL_law wsX5_thrown := goodIn_r _ [146, 142, 768, 769, 770, 771, 772, 773, 774, 775, 776, 777, 778, 779, 780, 781, 782, 783, 784, 785, 786, 787, 788, 789, 790, 791, 792, 793, 794] (by decide +kernel) (by decide +kernel)
set_option maxRecDepth 20000 in
theorem gL_law_X5_thrown : GoodIn wsL_law (wsV RL 115 RX5 yX5_thrown wsX5_thrown) := goodIn_app (goodIn_of _ (by decide +kernel)) ggL_law_X5_thrown
set_option maxRecDepth 20000 in
theorem ggL_law_L_read : GoodIn wsL_law wsL_read := goodIn_ca (goodIn_ca (goodIn_r _ [149, 101, 103, 150, 151, 152, 2, 153, 110, 111, 113, 114, 115, 116, 117, 154, 155, 156, 157, 20, 158, 16, 112, 24, 159, 160, 161, 15, 162, 44, 163, 164, 165, 166, 167, 168, 169, 36, 170, 171, 172, 173, 174, 175, 23, 176, 177, 178, 179, 180, 57, 181, 182, 183, 184, 185, 186, 187, 188, 189, 190, 191, 56, 754, 755, 756, 757, 758, 759, 760, 761, 762, 763, 764, 765, 766, 767, 797, 798, 799, 800, 795, 796, 801, 802, 803] (by decide +kernel) (by decide +kernel)) (goodIn_sub (fun _ h => List.mem_append_left _ (List.mem_append_right _ h)) (by decide +kernel))) (goodIn_sub (fun _ h => List.mem_append_right _ h) (by decide +kernel))
set_option maxRecDepth 20000 in
theorem gL_law_L_read : GoodIn wsL_law (va_wsS RL 118 yL_read wsL_read) := goodIn_app (goodIn_of _ (by decide +kernel)) ggL_law_L_read
set_option maxRecDepth 20000 in
theorem ggL_law_X5_read : GoodIn wsL_law wsX5_read := goodIn_r _ [195, 129, 130, 5, 131, 132, 133, 134, 196, 197, 198, 199, 70, 69, 73, 200, 201, 202, 203, 71, 204, 205, 206, 207, 68, 208, 209, 210, 211, 212, 213, 138, 139, 140, 141, 142, 214, 215, 216, 217, 218, 219, 220, 221, 72, 768, 769, 770, 771, 772, 773, 774, 775, 776, 777, 778, 779, 780, 781, 782, 783, 784, 785, 786, 787, 788, 789, 790, 791, 792, 793, 794] (by decide +kernel) (by decide +kernel)
set_option maxRecDepth 20000 in
theorem gL_law_X5_read : GoodIn wsL_law (wsV RL 121 RX5 yX5_read wsX5_read) := goodIn_app (goodIn_of _ (by decide +kernel)) ggL_law_X5_read
set_option maxRecDepth 20000 in
theorem ggL_law_L_sendBarrier : GoodIn wsL_law wsL_sendBarrier := goodIn_ca (goodIn_ca (goodIn_r _ [224, 101, 103, 225, 226, 227, 2, 228, 110, 111, 38, 20, 229, 36, 24, 113, 114, 115, 116, 117, 230, 231, 232, 233, 173, 174, 175, 23, 176, 177, 178, 179, 180, 57, 181, 182, 183, 188, 189, 190, 191, 56, 234, 235, 236, 19, 237, 51, 52, 48, 754, 755, 756, 757, 758, 759, 760, 761, 762, 763, 764, 765, 766, 767, 797, 798, 799, 800, 801, 802, 803] (by decide +kernel) (by decide +kernel)) (goodIn_sub (fun _ h => List.mem_append_left _ (List.mem_append_right _ h)) (by decide +kernel))) (goodIn_sub (fun _ h => List.mem_append_right _ h) (by decide +kernel))
set_option maxRecDepth 20000 in
theorem gL_law_L_sendBarrier : GoodIn wsL_law (va_wsS RL 122 yL_sendBarrier wsL_sendBarrier) := goodIn_app (goodIn_of _ (by decide +kernel)) ggL_law_L_sendBarrier
set_option maxRecDepth 20000 in
theorem ggL_law_X5_sendBarrier : GoodIn wsL_law wsX5_sendBarrier := goodIn_r _ [241, 86, 87, 70, 68, 84, 129, 130, 5, 131, 132, 133, 134, 242, 243, 244, 245, 73, 211, 212, 213, 138, 139, 140, 141, 142, 218, 219, 220, 221, 72, 768, 769, 770, 771, 772, 773, 774, 775, 776, 777, 778, 779, 780, 781, 782, 783, 784, 785, 786, 787, 788, 789, 790, 791, 792, 793, 794] (by decide +kernel) (by decide +kernel)
set_option maxRecDepth 20000 in
theorem gL_law_X5_sendBarrier : GoodIn wsL_law (wsV RL 124 RX5 yX5_sendBarrier wsX5_sendBarrier) := goodIn_app (goodIn_of _ (by decide +kernel)) ggL_law_X5_sendBarrier
set_option maxRecDepth 20000 in
theorem ggL_law_L_take : GoodIn wsL_law wsL_take := goodIn_ca (goodIn_ca (goodIn_r _ [248, 101, 103, 249, 250, 251, 2, 252, 110, 111, 24, 253, 254, 255, 256, 116, 117, 36, 113, 114, 115, 257, 258, 259, 23, 260, 177, 178, 179, 180, 57, 181, 182, 183, 261, 262, 263, 264, 58, 265, 266, 267, 268, 38, 269, 270, 271, 272, 56, 163, 164, 165, 273, 274, 275, 276, 277, 278, 279, 28, 29, 280, 281, 282, 283, 27, 284, 62, 63, 285, 286, 287, 288, 289, 290, 291, 292, 293, 294, 295, 296, 297, 298, 299, 300, 31, 30, 35, 166, 167, 168, 169, 170, 171, 172, 301, 302, 303, 304, 305, 306, 307, 308, 309, 310, 311, 312, 313, 314, 315, 316, 317, 318, 319, 320, 321, 322, 323, 324, 325, 32, 20, 39, 326, 327, 328, 329, 330, 331, 332, 19, 333, 49, 52, 754, 755, 756, 757, 758, 759, 760, 761, 762, 763, 764, 765, 766, 767, 801, 802, 803, 804, 805, 797, 798, 799, 800] (by decide +kernel) (by decide +kernel)) (goodIn_sub (fun _ h => List.mem_append_left _ (List.mem_append_right _ h)) (by decide +kernel))) (goodIn_sub (fun _ h => List.mem_append_right _ h) (by decide +kernel))
set_option maxRecDepth 20000 in
theorem gL_law_L_take : GoodIn wsL_law (va_wsS RL 125 yL_take wsL_take) := goodIn_app (goodIn_of _ (by decide +kernel)) ggL_law_L_take
set_option maxRecDepth 20000 in
theorem ggL_law_X5_take : GoodIn wsL_law wsX5_take := goodIn_r _ [337, 338, 339, 340, 5, 341, 68, 132, 133, 134, 129, 130, 131, 342, 343, 344, 345, 73, 74, 211, 212, 213, 138, 139, 140, 141, 142, 346, 347, 348, 349, 72, 75, 77, 76, 78, 84, 350, 351, 352, 353, 88, 89, 79, 80, 81, 204, 205, 206, 207, 208, 209, 210, 354, 355, 356, 357, 85, 87, 90, 91, 92, 358, 359, 360, 768, 769, 770, 771, 772, 773, 774, 775, 776, 777, 778, 779, 780, 781, 782, 783, 784, 785, 786, 787, 788, 789, 790, 791, 792, 793, 794] (by decide +kernel) (by decide +kernel)
set_option maxRecDepth 20000 in
theorem gL_law_X5_take : GoodIn wsL_law (wsV RL 128 RX5 yX5_take wsX5_take) := goodIn_app (goodIn_of _ (by decide +kernel)) ggL_law_X5_take
set_option maxRecDepth 20000 in
theorem ggL_law_L_pump : GoodIn wsL_law wsL_pump := goodIn_ca (goodIn_r _ [363, 102, 364, 365, 366, 2, 367, 108, 109, 368, 369, 370, 371, 154, 155, 156, 157, 20, 158, 16, 112, 24, 159, 160, 161, 15, 162, 44, 163, 164, 165, 166, 167, 168, 169, 36, 170, 171, 172, 173, 174, 175, 23, 176, 177, 178, 179, 180, 57, 181, 182, 183, 184, 185, 186, 187, 188, 189, 190, 191, 56, 372, 373, 374, 375, 257, 258, 259, 260, 261, 262, 263, 264, 58, 265, 266, 267, 268, 38, 269, 270, 271, 272, 273, 274, 275, 276, 277, 278, 279, 28, 29, 280, 281, 282, 283, 27, 284, 62, 63, 285, 286, 287, 288, 289, 290, 291, 292, 293, 294, 295, 296, 297, 298, 299, 300, 31, 30, 35, 301, 302, 303, 304, 305, 306, 307, 308, 309, 310, 311, 312, 313, 314, 315, 316, 317, 318, 319, 320, 321, 322, 323, 324, 325, 32, 39, 326, 327, 328, 329, 330, 331, 332, 19, 333, 49, 52, 754, 755, 756, 757, 758, 759, 760, 761, 762, 763, 764, 765, 766, 767, 797, 798, 799, 800, 795, 796, 801, 802, 803, 804, 805] (by decide +kernel) (by decide +kernel)) (goodIn_sub (fun _ h => List.mem_append_left _ (List.mem_append_left _ (List.mem_append_right _ h))) (by decide +kernel))
set_option maxRecDepth 20000 in
theorem gL_law_L_pump : GoodIn wsL_law (va_wsS RL 129 yL_pump wsL_pump) := goodIn_app (goodIn_of _ (by decide +kernel)) ggL_law_L_pump
set_option maxRecDepth 20000 in
theorem ggL_law_X5_pump : GoodIn wsL_law wsX5_pump := goodIn_r _ [379, 68, 132, 133, 5, 134, 138, 139, 140, 141, 142, 196, 197, 198, 199, 70, 69, 73, 200, 201, 202, 203, 71, 204, 205, 206, 207, 208, 209, 210, 211, 212, 213, 214, 215, 216, 217, 218, 219, 220, 221, 72, 342, 343, 344, 345, 74, 346, 347, 348, 349, 75, 77, 76, 78, 84, 350, 351, 352, 353, 88, 89, 79, 80, 81, 354, 355, 356, 357, 85, 87, 90, 91, 92, 358, 359, 360, 768, 769, 770, 771, 772, 773, 774, 775, 776, 777, 778, 779, 780, 781, 782, 783, 784, 785, 786, 787, 788, 789, 790, 791, 792, 793, 794] (by decide +kernel) (by decide +kernel)
set_option maxRecDepth 20000 in
theorem gL_law_X5_pump : GoodIn wsL_law (wsV RL 131 RX5 yX5_pump wsX5_pump) := goodIn_app (goodIn_of _ (by decide +kernel)) ggL_law_X5_pump
set_option maxRecDepth 20000 in
theorem ggL_law_L_commit : GoodIn wsL_law wsL_commit := goodIn_ca (goodIn_ca (goodIn_r _ [382, 101, 103, 383, 384, 385, 2, 386, 110, 111, 253, 254, 255, 256, 116, 117, 36, 387, 388, 389, 390, 35, 39, 391, 392, 393, 394, 30, 33, 305, 306, 307, 308, 280, 309, 166, 167, 168, 169, 170, 171, 172, 281, 282, 283, 27, 284, 62, 63, 310, 311, 312, 313, 754, 755, 756, 757, 758, 759, 760, 761, 762, 763, 764, 765, 766, 767, 804, 805] (by decide +kernel) (by decide +kernel)) (goodIn_sub (fun _ h => List.mem_append_left _ (List.mem_append_right _ h)) (by decide +kernel))) (goodIn_sub (fun _ h => List.mem_append_right _ h) (by decide +kernel))
set_option maxRecDepth 20000 in
theorem gL_law_L_commit : GoodIn wsL_law (va_wsS RL 132 yL_commit wsL_commit) := goodIn_app (goodIn_of _ (by decide +kernel)) ggL_law_L_commit
set_option maxRecDepth 20000 in
theorem ggL_law_X5_commit : GoodIn wsL_law wsX5_commit := goodIn_r _ [398, 338, 339, 340, 5, 341, 68, 132, 133, 134, 399, 400, 401, 402, 81, 84, 138, 139, 140, 141, 142, 403, 404, 405, 406, 79, 82, 83, 80, 204, 205, 206, 207, 208, 209, 210, 768, 769, 770, 771, 772, 773, 774, 775, 776, 777, 778, 779, 780, 781, 782, 783, 784, 785, 786, 787, 788, 789, 790, 791, 792, 793, 794] (by decide +kernel) (by decide +kernel)
set_option maxRecDepth 20000 in
theorem gL_law_X5_commit : GoodIn wsL_law (wsV RL 134 RX5 yX5_commit wsX5_commit) := goodIn_app (goodIn_of _ (by decide +kernel)) ggL_law_X5_commit
set_option maxRecDepth 20000 in
theorem ggL_law_L_beginCheckpoint : GoodIn wsL_law wsL_beginCheckpoint := goodIn_ca (goodIn_r _ [409, 103, 410, 411, 412, 2, 413, 110, 111, 38, 37, 20, 414, 415, 416, 417, 36, 35, 418, 419, 420, 19, 421, 51, 754, 755, 756, 757, 758, 759, 760, 761, 762, 763, 764, 765, 766, 767, 797, 798, 799, 800] (by decide +kernel) (by decide +kernel)) (goodIn_sub (fun _ h => List.mem_append_left _ (List.mem_append_right _ h)) (by decide +kernel))
set_option maxRecDepth 20000 in
theorem gL_law_L_beginCheckpoint : GoodIn wsL_law (va_wsS RL 135 yL_beginCheckpoint wsL_beginCheckpoint) := goodIn_app (goodIn_of _ (by decide +kernel)) ggL_law_L_beginCheckpoint
set_option maxRecDepth 20000 in
theorem ggL_law_X5_beginCheckpoint : GoodIn wsL_law wsX5_beginCheckpoint := goodIn_r _ [425, 84, 426, 427, 428, 429, 5, 430, 81, 138, 139, 140, 141, 142, 431, 432, 433, 434, 74, 86, 768, 769, 770, 771, 772, 773, 774, 775, 776, 777, 778, 779, 780, 781, 782, 783, 784, 785, 786, 787, 788, 789, 790, 791, 792, 793, 794] (by decide +kernel) (by decide +kernel)
set_option maxRecDepth 20000 in
theorem gL_law_X5_beginCheckpoint : GoodIn wsL_law (wsV RL 138 RX5 yX5_beginCheckpoint wsX5_beginCheckpoint) := goodIn_app (goodIn_of _ (by decide +kernel)) ggL_law_X5_beginCheckpoint
set_option maxRecDepth 20000 in
theorem ggL_law_L_abandon : GoodIn wsL_law wsL_abandon := goodIn_ca (goodIn_r _ [437, 103, 438, 439, 440, 2, 441, 110, 111, 38, 36, 24, 35, 30, 29, 314, 315, 316, 23, 317, 58, 181, 182, 183, 305, 306, 307, 308, 280, 309, 166, 167, 168, 169, 170, 171, 172, 281, 282, 283, 27, 284, 62, 63, 310, 311, 312, 313, 754, 755, 756, 757, 758, 759, 760, 761, 762, 763, 764, 765, 766, 767, 801, 802, 803, 804, 805] (by decide +kernel) (by decide +kernel)) (goodIn_sub (fun _ h => List.mem_append_left _ (List.mem_append_right _ h)) (by decide +kernel))
set_option maxRecDepth 20000 in
theorem gL_law_L_abandon : GoodIn wsL_law (va_wsS RL 139 yL_abandon wsL_abandon) := goodIn_app (goodIn_of _ (by decide +kernel)) ggL_law_L_abandon
set_option maxRecDepth 20000 in
theorem ggL_law_X5_abandon : GoodIn wsL_law wsX5_abandon := goodIn_r _ [445, 84, 81, 77, 79, 78, 80, 138, 139, 140, 5, 141, 142, 204, 205, 206, 207, 68, 208, 209, 210, 93, 94, 95, 96, 431, 432, 433, 434, 74, 86, 768, 769, 770, 771, 772, 773, 774, 775, 776, 777, 778, 779, 780, 781, 782, 783, 784, 785, 786, 787, 788, 789, 790, 791, 792, 793, 794] (by decide +kernel) (by decide +kernel)
set_option maxRecDepth 20000 in
theorem gL_law_X5_abandon : GoodIn wsL_law (wsV RL 141 RX5 yX5_abandon wsX5_abandon) := goodIn_app (goodIn_of _ (by decide +kernel)) ggL_law_X5_abandon
set_option maxRecDepth 20000 in
theorem ggL_law_X4_crash : GoodIn wsL_law wsX4_crash := goodIn_r _ [449, 36, 39, 450, 451, 452, 2, 453, 35, 38, 29, 30, 24, 20, 28, 32, 387, 388, 389, 390, 391, 392, 393, 394, 33, 305, 306, 307, 308, 280, 309, 166, 167, 168, 169, 170, 171, 172, 281, 282, 283, 27, 284, 62, 63, 310, 311, 312, 313, 454, 455, 456, 457, 458, 459, 460, 461, 23, 462, 57, 58, 463, 464, 465, 19, 466, 48, 49, 326, 327, 328, 329, 754, 755, 756, 757, 758, 759, 760, 761, 762, 763, 764, 765, 766, 767, 804, 805, 801, 802, 803, 797, 798, 799, 800] (by decide +kernel) (by decide +kernel)
set_option maxRecDepth 20000 in
theorem gL_law_X4_crash : GoodIn wsL_law (wsV RL 142 RX4 yX4_crash wsX4_crash) := goodIn_app (goodIn_of _ (by decide +kernel)) ggL_law_X4_crash
set_option maxRecDepth 20000 in
theorem ggL_law_X5_crash : GoodIn wsL_law wsX5_crash := goodIn_r _ [470, 142, 68, 85, 471, 472, 473, 5, 474, 84, 73, 77, 78, 90, 70, 91, 75, 92, 76, 399, 400, 401, 402, 81, 403, 404, 405, 406, 79, 82, 83, 80, 204, 205, 206, 207, 208, 209, 210, 93, 94, 95, 96, 431, 432, 433, 434, 74, 86, 475, 476, 477, 358, 359, 360, 768, 769, 770, 771, 772, 773, 774, 775, 776, 777, 778, 779, 780, 781, 782, 783, 784, 785, 786, 787, 788, 789, 790, 791, 792, 793, 794] (by decide +kernel) (by decide +kernel)
set_option maxRecDepth 20000 in
theorem gL_law_X5_crash : GoodIn wsL_law (wsV RL 145 RX5 yX5_crash wsX5_crash) := goodIn_app (goodIn_of _ (by decide +kernel)) ggL_law_X5_crash
set_option maxRecDepth 20000 in
theorem ggL_law_L_rescale : GoodIn wsL_law wsL_rescale := goodIn_ca (goodIn_r _ [480, 102, 481, 482, 483, 2, 484, 108, 109, 36, 170, 171, 172, 450, 451, 452, 453, 35, 38, 29, 30, 24, 20, 28, 32, 387, 388, 389, 390, 39, 391, 392, 393, 394, 33, 305, 306, 307, 308, 280, 309, 166, 167, 168, 169, 281, 282, 283, 27, 284, 62, 63, 310, 311, 312, 313, 454, 455, 456, 457, 458, 459, 460, 461, 23, 462, 57, 58, 463, 464, 465, 19, 466, 48, 49, 326, 327, 328, 329, 754, 755, 756, 757, 758, 759, 760, 761, 762, 763, 764, 765, 766, 767, 804, 805, 801, 802, 803, 797, 798, 799, 800] (by decide +kernel) (by decide +kernel)) (goodIn_sub (fun _ h => List.mem_append_left _ (List.mem_append_left _ (List.mem_append_right _ h))) (by decide +kernel))
set_option maxRecDepth 20000 in
theorem gL_law_L_rescale : GoodIn wsL_law (va_wsS RL 146 yL_rescale wsL_rescale) := goodIn_app (goodIn_of _ (by decide +kernel)) ggL_law_L_rescale
set_option maxRecDepth 20000 in
theorem ggL_law_X5_rescale : GoodIn wsL_law wsX5_rescale := goodIn_r _ [488, 68, 132, 133, 5, 134, 138, 139, 140, 141, 142, 208, 209, 210, 471, 472, 473, 474, 84, 73, 77, 78, 90, 70, 91, 75, 92, 76, 399, 400, 401, 402, 81, 403, 404, 405, 406, 79, 82, 83, 80, 204, 205, 206, 207, 93, 94, 95, 96, 431, 432, 433, 434, 74, 86, 475, 476, 477, 358, 359, 360, 768, 769, 770, 771, 772, 773, 774, 775, 776, 777, 778, 779, 780, 781, 782, 783, 784, 785, 786, 787, 788, 789, 790, 791, 792, 793, 794] (by decide +kernel) (by decide +kernel)
set_option maxRecDepth 20000 in
theorem gL_law_X5_rescale : GoodIn wsL_law (wsV RL 148 RX5 yX5_rescale wsX5_rescale) := goodIn_app (goodIn_of _ (by decide +kernel)) ggL_law_X5_rescale
set_option maxRecDepth 20000 in
theorem ggL_law_L_events : GoodIn wsL_law wsL_events := goodIn_ca (goodIn_r _ [491, 101, 492, 493, 494, 2, 495, 16, 112, 113, 114, 115, 116, 117, 754, 755, 756, 757, 758, 759, 760, 761, 762, 763, 764, 765, 766, 767, 795, 796] (by decide +kernel) (by decide +kernel)) (goodIn_sub (fun _ h => List.mem_append_right _ h) (by decide +kernel))
set_option maxRecDepth 20000 in
theorem gL_law_L_events : GoodIn wsL_law (va_wsS RL 149 yL_events wsL_events) := goodIn_app (goodIn_of _ (by decide +kernel)) ggL_law_L_events
set_option maxRecDepth 20000 in
theorem ggL_law_X5_events : GoodIn wsL_law wsX5_events := goodIn_r _ [499, 69, 129, 130, 5, 131, 132, 133, 134, 138, 139, 140, 141, 142, 768, 769, 770, 771, 772, 773, 774, 775, 776, 777, 778, 779, 780, 781, 782, 783, 784, 785, 786, 787, 788, 789, 790, 791, 792, 793, 794] (by decide +kernel) (by decide +kernel)
set_option maxRecDepth 20000 in
theorem gL_law_X5_events : GoodIn wsL_law (wsV RL 151 RX5 yX5_events wsX5_events) := goodIn_app (goodIn_of _ (by decide +kernel)) ggL_law_X5_events
set_option maxRecDepth 20000 in
theorem ggL_law_L_offset : GoodIn wsL_law wsL_offset := goodIn_ca (goodIn_r _ [502, 101, 503, 504, 505, 2, 506, 20, 158, 113, 114, 115, 116, 117, 754, 755, 756, 757, 758, 759, 760, 761, 762, 763, 764, 765, 766, 767, 797, 798, 799, 800] (by decide +kernel) (by decide +kernel)) (goodIn_sub (fun _ h => List.mem_append_right _ h) (by decide +kernel))
set_option maxRecDepth 20000 in
theorem gL_law_L_offset : GoodIn wsL_law (va_wsS RL 152 yL_offset wsL_offset) := goodIn_app (goodIn_of _ (by decide +kernel)) ggL_law_L_offset
set_option maxRecDepth 20000 in
theorem ggL_law_X5_offset : GoodIn wsL_law wsX5_offset := goodIn_r _ [510, 70, 129, 130, 5, 131, 132, 133, 134, 138, 139, 140, 141, 142, 768, 769, 770, 771, 772, 773, 774, 775, 776, 777, 778, 779, 780, 781, 782, 783, 784, 785, 786, 787, 788, 789, 790, 791, 792, 793, 794] (by decide +kernel) (by decide +kernel)
set_option maxRecDepth 20000 in
theorem gL_law_X5_offset : GoodIn wsL_law (wsV RL 154 RX5 yX5_offset wsX5_offset) := goodIn_app (goodIn_of _ (by decide +kernel)) ggL_law_X5_offset
set_option maxRecDepth 20000 in
theorem ggL_law_L_eventAt : GoodIn wsL_law wsL_eventAt := goodIn_ca (goodIn_r _ [513, 101, 514, 515, 516, 2, 517, 116, 117, 16, 112, 113, 114, 115, 159, 160, 161, 15, 162, 44, 754, 755, 756, 757, 758, 759, 760, 761, 762, 763, 764, 765, 766, 767, 795, 796] (by decide +kernel) (by decide +kernel)) (goodIn_sub (fun _ h => List.mem_append_right _ h) (by decide +kernel))
set_option maxRecDepth 20000 in
theorem gL_law_L_eventAt : GoodIn wsL_law (va_wsS RL 155 yL_eventAt wsL_eventAt) := goodIn_app (goodIn_of _ (by decide +kernel)) ggL_law_L_eventAt
set_option maxRecDepth 20000 in
theorem ggL_law_X5_eventAt : GoodIn wsL_law wsX5_eventAt := goodIn_r _ [521, 69, 71, 129, 130, 5, 131, 132, 133, 134, 138, 139, 140, 141, 142, 768, 769, 770, 771, 772, 773, 774, 775, 776, 777, 778, 779, 780, 781, 782, 783, 784, 785, 786, 787, 788, 789, 790, 791, 792, 793, 794] (by decide +kernel) (by decide +kernel)
set_option maxRecDepth 20000 in
theorem gL_law_X5_eventAt : GoodIn wsL_law (wsV RL 157 RX5 yX5_eventAt wsX5_eventAt) := goodIn_app (goodIn_of _ (by decide +kernel)) ggL_law_X5_eventAt
set_option maxRecDepth 20000 in
theorem ggL_law_L_queued : GoodIn wsL_law wsL_queued := goodIn_ca (goodIn_r _ [524, 101, 525, 526, 527, 2, 528, 24, 113, 114, 115, 116, 117, 253, 254, 255, 256, 36, 529, 178, 179, 23, 180, 57, 181, 182, 183, 754, 755, 756, 757, 758, 759, 760, 761, 762, 763, 764, 765, 766, 767, 801, 802, 803] (by decide +kernel) (by decide +kernel)) (goodIn_sub (fun _ h => List.mem_append_right _ h) (by decide +kernel))
set_option maxRecDepth 20000 in
theorem gL_law_L_queued : GoodIn wsL_law (va_wsS RL 158 yL_queued wsL_queued) := goodIn_app (goodIn_of _ (by decide +kernel)) ggL_law_L_queued
set_option maxRecDepth 20000 in
theorem ggL_law_X5_queued : GoodIn wsL_law wsX5_queued := goodIn_r _ [533, 73, 534, 535, 536, 5, 537, 129, 130, 131, 132, 133, 134, 338, 339, 340, 341, 68, 138, 139, 140, 141, 142, 211, 212, 213, 768, 769, 770, 771, 772, 773, 774, 775, 776, 777, 778, 779, 780, 781, 782, 783, 784, 785, 786, 787, 788, 789, 790, 791, 792, 793, 794] (by decide +kernel) (by decide +kernel)
set_option maxRecDepth 20000 in
theorem gL_law_X5_queued : GoodIn wsL_law (wsV RL 160 RX5 yX5_queued wsX5_queued) := goodIn_app (goodIn_of _ (by decide +kernel)) ggL_law_X5_queued
set_option maxRecDepth 20000 in
theorem ggL_law_L_itemAt : GoodIn wsL_law wsL_itemAt := goodIn_ca (goodIn_r _ [540, 101, 541, 542, 543, 2, 544, 116, 117, 24, 113, 114, 115, 253, 254, 255, 256, 36, 529, 178, 179, 23, 180, 57, 181, 182, 183, 545, 546, 547, 548, 56, 754, 755, 756, 757, 758, 759, 760, 761, 762, 763, 764, 765, 766, 767, 801, 802, 803] (by decide +kernel) (by decide +kernel)) (goodIn_sub (fun _ h => List.mem_append_right _ h) (by decide +kernel))
set_option maxRecDepth 20000 in
theorem gL_law_L_itemAt : GoodIn wsL_law (va_wsS RL 161 yL_itemAt wsL_itemAt) := goodIn_app (goodIn_of _ (by decide +kernel)) ggL_law_L_itemAt
set_option maxRecDepth 20000 in
theorem ggL_law_X5_itemAt : GoodIn wsL_law wsX5_itemAt := goodIn_r _ [552, 73, 72, 534, 535, 536, 5, 537, 129, 130, 131, 132, 133, 134, 338, 339, 340, 341, 68, 211, 212, 213, 138, 139, 140, 141, 142, 768, 769, 770, 771, 772, 773, 774, 775, 776, 777, 778, 779, 780, 781, 782, 783, 784, 785, 786, 787, 788, 789, 790, 791, 792, 793, 794] (by decide +kernel) (by decide +kernel)
set_option maxRecDepth 20000 in
theorem gL_law_X5_itemAt : GoodIn wsL_law (wsV RL 163 RX5 yX5_itemAt wsX5_itemAt) := goodIn_app (goodIn_of _ (by decide +kernel)) ggL_law_X5_itemAt
set_option maxRecDepth 20000 in
theorem ggL_law_L_isBlocked : GoodIn wsL_law wsL_isBlocked := goodIn_ca (goodIn_r _ [555, 101, 556, 557, 558, 2, 559, 24, 113, 114, 115, 116, 117, 253, 254, 255, 256, 36, 560, 262, 263, 23, 264, 58, 181, 182, 183, 754, 755, 756, 757, 758, 759, 760, 761, 762, 763, 764, 765, 766, 767, 801, 802, 803] (by decide +kernel) (by decide +kernel)) (goodIn_sub (fun _ h => List.mem_append_right _ h) (by decide +kernel))
set_option maxRecDepth 20000 in
theorem gL_law_L_isBlocked : GoodIn wsL_law (va_wsS RL 164 yL_isBlocked wsL_isBlocked) := goodIn_app (goodIn_of _ (by decide +kernel)) ggL_law_L_isBlocked
set_option maxRecDepth 20000 in
theorem ggL_law_X5_isBlocked : GoodIn wsL_law wsX5_isBlocked := goodIn_r _ [564, 74, 534, 535, 536, 5, 537, 129, 130, 131, 132, 133, 134, 338, 339, 340, 341, 68, 138, 139, 140, 141, 142, 211, 212, 213, 768, 769, 770, 771, 772, 773, 774, 775, 776, 777, 778, 779, 780, 781, 782, 783, 784, 785, 786, 787, 788, 789, 790, 791, 792, 793, 794] (by decide +kernel) (by decide +kernel)
set_option maxRecDepth 20000 in
theorem gL_law_X5_isBlocked : GoodIn wsL_law (wsV RL 166 RX5 yX5_isBlocked wsX5_isBlocked) := goodIn_app (goodIn_of _ (by decide +kernel)) ggL_law_X5_isBlocked
set_option maxRecDepth 20000 in
theorem ggL_law_X4_workers : GoodIn wsL_law wsX4_workers := goodIn_r _ [568, 36, 754, 755, 756, 757, 758, 759, 760, 761, 762, 763, 764, 765, 766, 767] (by decide +kernel) (by decide +kernel)
set_option maxRecDepth 20000 in
theorem gL_law_X4_workers : GoodIn wsL_law (wsV RL 167 RX4 yX4_workers wsX4_workers) := goodIn_app (goodIn_of _ (by decide +kernel)) ggL_law_X4_workers
set_option maxRecDepth 20000 in
theorem ggL_law_X5_workers : GoodIn wsL_law wsX5_workers := goodIn_r _ [572, 142, 68, 768, 769, 770, 771, 772, 773, 774, 775, 776, 777, 778, 779, 780, 781, 782, 783, 784, 785, 786, 787, 788, 789, 790, 791, 792, 793, 794] (by decide +kernel) (by decide +kernel)
set_option maxRecDepth 20000 in
theorem gL_law_X5_workers : GoodIn wsL_law (wsV RL 170 RX5 yX5_workers wsX5_workers) := goodIn_app (goodIn_of _ (by decide +kernel)) ggL_law_X5_workers
set_option maxRecDepth 20000 in
theorem ggL_law_L_workerOf : GoodIn wsL_law wsL_workerOf := goodIn_ca (goodIn_r _ [575, 101, 576, 577, 578, 2, 579, 118, 119, 120, 116, 117, 166, 167, 168, 169, 36, 170, 171, 172, 754, 755, 756, 757, 758, 759, 760, 761, 762, 763, 764, 765, 766, 767] (by decide +kernel) (by decide +kernel)) (goodIn_sub (fun _ h => List.mem_append_right _ h) (by decide +kernel))
set_option maxRecDepth 20000 in
theorem gL_law_L_workerOf : GoodIn wsL_law (va_wsS RL 171 yL_workerOf wsL_workerOf) := goodIn_app (goodIn_of _ (by decide +kernel)) ggL_law_L_workerOf
set_option maxRecDepth 20000 in
theorem ggL_law_X5_workerOf : GoodIn wsL_law wsX5_workerOf := goodIn_r _ [583, 135, 136, 5, 137, 132, 133, 134, 138, 139, 140, 141, 142, 204, 205, 206, 207, 68, 208, 209, 210, 768, 769, 770, 771, 772, 773, 774, 775, 776, 777, 778, 779, 780, 781, 782, 783, 784, 785, 786, 787, 788, 789, 790, 791, 792, 793, 794] (by decide +kernel) (by decide +kernel)
set_option maxRecDepth 20000 in
theorem gL_law_X5_workerOf : GoodIn wsL_law (wsV RL 173 RX5 yX5_workerOf wsX5_workerOf) := goodIn_app (goodIn_of _ (by decide +kernel)) ggL_law_X5_workerOf
set_option maxRecDepth 20000 in
theorem ggL_law_L_groupsOf : GoodIn wsL_law wsL_groupsOf := goodIn_ca (goodIn_r _ [586, 101, 587, 588, 589, 2, 590, 36, 253, 254, 255, 256, 116, 117, 170, 171, 172, 754, 755, 756, 757, 758, 759, 760, 761, 762, 763, 764, 765, 766, 767] (by decide +kernel) (by decide +kernel)) (goodIn_sub (fun _ h => List.mem_append_right _ h) (by decide +kernel))
set_option maxRecDepth 20000 in
theorem gL_law_L_groupsOf : GoodIn wsL_law (va_wsS RL 174 yL_groupsOf wsL_groupsOf) := goodIn_app (goodIn_of _ (by decide +kernel)) ggL_law_L_groupsOf
set_option maxRecDepth 20000 in
theorem ggL_law_X5_groupsOf : GoodIn wsL_law wsX5_groupsOf := goodIn_r _ [594, 68, 338, 339, 340, 5, 341, 132, 133, 134, 138, 139, 140, 141, 142, 208, 209, 210, 768, 769, 770, 771, 772, 773, 774, 775, 776, 777, 778, 779, 780, 781, 782, 783, 784, 785, 786, 787, 788, 789, 790, 791, 792, 793, 794] (by decide +kernel) (by decide +kernel)
set_option maxRecDepth 20000 in
theorem gL_law_X5_groupsOf : GoodIn wsL_law (wsV RL 176 RX5 yX5_groupsOf wsX5_groupsOf) := goodIn_app (goodIn_of _ (by decide +kernel)) ggL_law_X5_groupsOf
set_option maxRecDepth 20000 in
theorem ggL_law_L_count : GoodIn wsL_law wsL_count := goodIn_ca (goodIn_r _ [597, 101, 598, 599, 600, 2, 601, 28, 280, 118, 119, 120, 116, 117, 754, 755, 756, 757, 758, 759, 760, 761, 762, 763, 764, 765, 766, 767, 804, 805] (by decide +kernel) (by decide +kernel)) (goodIn_sub (fun _ h => List.mem_append_right _ h) (by decide +kernel))
set_option maxRecDepth 20000 in
theorem gL_law_L_count : GoodIn wsL_law (va_wsS RL 177 yL_count wsL_count) := goodIn_app (goodIn_of _ (by decide +kernel)) ggL_law_L_count
set_option maxRecDepth 20000 in
theorem ggL_law_X5_count : GoodIn wsL_law wsX5_count := goodIn_r _ [605, 75, 606, 607, 608, 5, 609, 135, 136, 137, 132, 133, 134, 138, 139, 140, 141, 142, 768, 769, 770, 771, 772, 773, 774, 775, 776, 777, 778, 779, 780, 781, 782, 783, 784, 785, 786, 787, 788, 789, 790, 791, 792, 793, 794] (by decide +kernel) (by decide +kernel)
set_option maxRecDepth 20000 in
theorem gL_law_X5_count : GoodIn wsL_law (wsV RL 179 RX5 yX5_count wsX5_count) := goodIn_app (goodIn_of _ (by decide +kernel)) ggL_law_X5_count
set_option maxRecDepth 20000 in
theorem ggL_law_L_sum : GoodIn wsL_law wsL_sum := goodIn_ca (goodIn_r _ [612, 101, 613, 614, 615, 2, 616, 28, 309, 118, 119, 120, 116, 117, 754, 755, 756, 757, 758, 759, 760, 761, 762, 763, 764, 765, 766, 767, 804, 805] (by decide +kernel) (by decide +kernel)) (goodIn_sub (fun _ h => List.mem_append_right _ h) (by decide +kernel))
set_option maxRecDepth 20000 in
theorem gL_law_L_sum : GoodIn wsL_law (va_wsS RL 180 yL_sum wsL_sum) := goodIn_app (goodIn_of _ (by decide +kernel)) ggL_law_L_sum
set_option maxRecDepth 20000 in
theorem ggL_law_X5_sum : GoodIn wsL_law wsX5_sum := goodIn_r _ [620, 76, 606, 607, 608, 5, 609, 135, 136, 137, 132, 133, 134, 138, 139, 140, 141, 142, 768, 769, 770, 771, 772, 773, 774, 775, 776, 777, 778, 779, 780, 781, 782, 783, 784, 785, 786, 787, 788, 789, 790, 791, 792, 793, 794] (by decide +kernel) (by decide +kernel)
set_option maxRecDepth 20000 in
theorem gL_law_X5_sum : GoodIn wsL_law (wsV RL 182 RX5 yX5_sum wsX5_sum) := goodIn_app (goodIn_of _ (by decide +kernel)) ggL_law_X5_sum
set_option maxRecDepth 20000 in
theorem ggL_law_L_open : GoodIn wsL_law wsL_open := goodIn_ca (goodIn_r _ [623, 101, 624, 625, 626, 2, 627, 29, 280, 253, 254, 255, 256, 116, 117, 36, 166, 167, 168, 169, 170, 171, 172, 754, 755, 756, 757, 758, 759, 760, 761, 762, 763, 764, 765, 766, 767, 804, 805] (by decide +kernel) (by decide +kernel)) (goodIn_sub (fun _ h => List.mem_append_right _ h) (by decide +kernel))
set_option maxRecDepth 20000 in
theorem gL_law_L_open : GoodIn wsL_law (va_wsS RL 183 yL_open wsL_open) := goodIn_app (goodIn_of _ (by decide +kernel)) ggL_law_L_open
set_option maxRecDepth 20000 in
theorem ggL_law_X5_open : GoodIn wsL_law wsX5_open := goodIn_r _ [631, 77, 338, 339, 340, 5, 341, 68, 132, 133, 134, 138, 139, 140, 141, 142, 204, 205, 206, 207, 208, 209, 210, 768, 769, 770, 771, 772, 773, 774, 775, 776, 777, 778, 779, 780, 781, 782, 783, 784, 785, 786, 787, 788, 789, 790, 791, 792, 793, 794] (by decide +kernel) (by decide +kernel)
set_option maxRecDepth 20000 in
theorem gL_law_X5_open : GoodIn wsL_law (wsV RL 185 RX5 yX5_open wsX5_open) := goodIn_app (goodIn_of _ (by decide +kernel)) ggL_law_X5_open
set_option maxRecDepth 20000 in
theorem ggL_law_L_sealed : GoodIn wsL_law wsL_sealed := goodIn_ca (goodIn_r _ [634, 101, 635, 636, 637, 2, 638, 35, 253, 254, 255, 256, 116, 117, 36, 754, 755, 756, 757, 758, 759, 760, 761, 762, 763, 764, 765, 766, 767] (by decide +kernel) (by decide +kernel)) (goodIn_sub (fun _ h => List.mem_append_right _ h) (by decide +kernel))
set_option maxRecDepth 20000 in
theorem gL_law_L_sealed : GoodIn wsL_law (va_wsS RL 186 yL_sealed wsL_sealed) := goodIn_app (goodIn_of _ (by decide +kernel)) ggL_law_L_sealed
set_option maxRecDepth 20000 in
theorem ggL_law_X5_sealed : GoodIn wsL_law wsX5_sealed := goodIn_r _ [642, 81, 338, 339, 340, 5, 341, 68, 132, 133, 134, 138, 139, 140, 141, 142, 768, 769, 770, 771, 772, 773, 774, 775, 776, 777, 778, 779, 780, 781, 782, 783, 784, 785, 786, 787, 788, 789, 790, 791, 792, 793, 794] (by decide +kernel) (by decide +kernel)
set_option maxRecDepth 20000 in
theorem gL_law_X5_sealed : GoodIn wsL_law (wsV RL 188 RX5 yX5_sealed wsX5_sealed) := goodIn_app (goodIn_of _ (by decide +kernel)) ggL_law_X5_sealed
set_option maxRecDepth 20000 in
theorem ggL_law_X4_underWay : GoodIn wsL_law wsX4_underWay := goodIn_r _ [646, 38, 754, 755, 756, 757, 758, 759, 760, 761, 762, 763, 764, 765, 766, 767] (by decide +kernel) (by decide +kernel)
set_option maxRecDepth 20000 in
theorem gL_law_X4_underWay : GoodIn wsL_law (wsV RL 189 RX4 yX4_underWay wsX4_underWay) := goodIn_app (goodIn_of _ (by decide +kernel)) ggL_law_X4_underWay
set_option maxRecDepth 20000 in
theorem ggL_law_X5_underWay : GoodIn wsL_law wsX5_underWay := goodIn_r _ [650, 142, 84, 768, 769, 770, 771, 772, 773, 774, 775, 776, 777, 778, 779, 780, 781, 782, 783, 784, 785, 786, 787, 788, 789, 790, 791, 792, 793, 794] (by decide +kernel) (by decide +kernel)
set_option maxRecDepth 20000 in
theorem gL_law_X5_underWay : GoodIn wsL_law (wsV RL 192 RX5 yX5_underWay wsX5_underWay) := goodIn_app (goodIn_of _ (by decide +kernel)) ggL_law_X5_underWay
set_option maxRecDepth 20000 in
theorem ggL_law_X4_complete : GoodIn wsL_law wsX4_complete := goodIn_r _ [654, 39, 754, 755, 756, 757, 758, 759, 760, 761, 762, 763, 764, 765, 766, 767] (by decide +kernel) (by decide +kernel)
set_option maxRecDepth 20000 in
theorem gL_law_X4_complete : GoodIn wsL_law (wsV RL 193 RX4 yX4_complete wsX4_complete) := goodIn_app (goodIn_of _ (by decide +kernel)) ggL_law_X4_complete
set_option maxRecDepth 20000 in
theorem ggL_law_X5_complete : GoodIn wsL_law wsX5_complete := goodIn_r _ [658, 142, 85, 768, 769, 770, 771, 772, 773, 774, 775, 776, 777, 778, 779, 780, 781, 782, 783, 784, 785, 786, 787, 788, 789, 790, 791, 792, 793, 794] (by decide +kernel) (by decide +kernel)
set_option maxRecDepth 20000 in
theorem gL_law_X5_complete : GoodIn wsL_law (wsV RL 196 RX5 yX5_complete wsX5_complete) := goodIn_app (goodIn_of _ (by decide +kernel)) ggL_law_X5_complete
set_option maxRecDepth 20000 in
theorem ggL_law_L_hasSent : GoodIn wsL_law wsL_hasSent := goodIn_ca (goodIn_r _ [661, 101, 662, 663, 664, 2, 665, 38, 20, 229, 113, 114, 115, 116, 117, 754, 755, 756, 757, 758, 759, 760, 761, 762, 763, 764, 765, 766, 767, 797, 798, 799, 800] (by decide +kernel) (by decide +kernel)) (goodIn_sub (fun _ h => List.mem_append_right _ h) (by decide +kernel))
set_option maxRecDepth 20000 in
theorem gL_law_L_hasSent : GoodIn wsL_law (va_wsS RL 197 yL_hasSent wsL_hasSent) := goodIn_app (goodIn_of _ (by decide +kernel)) ggL_law_L_hasSent
set_option maxRecDepth 20000 in
theorem ggL_law_X5_hasSent : GoodIn wsL_law wsX5_hasSent := goodIn_r _ [669, 84, 86, 129, 130, 5, 131, 132, 133, 134, 138, 139, 140, 141, 142, 768, 769, 770, 771, 772, 773, 774, 775, 776, 777, 778, 779, 780, 781, 782, 783, 784, 785, 786, 787, 788, 789, 790, 791, 792, 793, 794] (by decide +kernel) (by decide +kernel)
set_option maxRecDepth 20000 in
theorem gL_law_X5_hasSent : GoodIn wsL_law (wsV RL 199 RX5 yX5_hasSent wsX5_hasSent) := goodIn_app (goodIn_of _ (by decide +kernel)) ggL_law_X5_hasSent
set_option maxRecDepth 20000 in
theorem ggL_law_L_keptOffset : GoodIn wsL_law wsL_keptOffset := goodIn_ca (goodIn_r _ [672, 101, 673, 674, 675, 2, 676, 20, 677, 113, 114, 115, 116, 117, 754, 755, 756, 757, 758, 759, 760, 761, 762, 763, 764, 765, 766, 767, 797, 798, 799, 800] (by decide +kernel) (by decide +kernel)) (goodIn_sub (fun _ h => List.mem_append_right _ h) (by decide +kernel))
set_option maxRecDepth 20000 in
theorem gL_law_L_keptOffset : GoodIn wsL_law (va_wsS RL 200 yL_keptOffset wsL_keptOffset) := goodIn_app (goodIn_of _ (by decide +kernel)) ggL_law_L_keptOffset
set_option maxRecDepth 20000 in
theorem ggL_law_X5_keptOffset : GoodIn wsL_law wsX5_keptOffset := goodIn_r _ [681, 90, 129, 130, 5, 131, 132, 133, 134, 138, 139, 140, 141, 142, 768, 769, 770, 771, 772, 773, 774, 775, 776, 777, 778, 779, 780, 781, 782, 783, 784, 785, 786, 787, 788, 789, 790, 791, 792, 793, 794] (by decide +kernel) (by decide +kernel)
set_option maxRecDepth 20000 in
theorem gL_law_X5_keptOffset : GoodIn wsL_law (wsV RL 202 RX5 yX5_keptOffset wsX5_keptOffset) := goodIn_app (goodIn_of _ (by decide +kernel)) ggL_law_X5_keptOffset
set_option maxRecDepth 20000 in
theorem ggL_law_L_keptSum : GoodIn wsL_law wsL_keptSum := goodIn_ca (goodIn_r _ [684, 101, 685, 686, 687, 2, 688, 32, 309, 118, 119, 120, 116, 117, 754, 755, 756, 757, 758, 759, 760, 761, 762, 763, 764, 765, 766, 767, 804, 805] (by decide +kernel) (by decide +kernel)) (goodIn_sub (fun _ h => List.mem_append_right _ h) (by decide +kernel))
set_option maxRecDepth 20000 in
theorem gL_law_L_keptSum : GoodIn wsL_law (va_wsS RL 203 yL_keptSum wsL_keptSum) := goodIn_app (goodIn_of _ (by decide +kernel)) ggL_law_L_keptSum
set_option maxRecDepth 20000 in
theorem ggL_law_X5_keptSum : GoodIn wsL_law wsX5_keptSum := goodIn_r _ [692, 92, 606, 607, 608, 5, 609, 135, 136, 137, 132, 133, 134, 138, 139, 140, 141, 142, 768, 769, 770, 771, 772, 773, 774, 775, 776, 777, 778, 779, 780, 781, 782, 783, 784, 785, 786, 787, 788, 789, 790, 791, 792, 793, 794] (by decide +kernel) (by decide +kernel)
set_option maxRecDepth 20000 in
theorem gL_law_X5_keptSum : GoodIn wsL_law (wsV RL 205 RX5 yX5_keptSum wsX5_keptSum) := goodIn_app (goodIn_of _ (by decide +kernel)) ggL_law_X5_keptSum
set_option maxRecDepth 20000 in
theorem ggL_law_L_committedCount : GoodIn wsL_law wsL_committedCount := goodIn_ca (goodIn_r _ [695, 101, 696, 697, 698, 2, 699, 33, 280, 118, 119, 120, 116, 117, 754, 755, 756, 757, 758, 759, 760, 761, 762, 763, 764, 765, 766, 767, 804, 805] (by decide +kernel) (by decide +kernel)) (goodIn_sub (fun _ h => List.mem_append_right _ h) (by decide +kernel))
set_option maxRecDepth 20000 in
theorem gL_law_L_committedCount : GoodIn wsL_law (va_wsS RL 206 yL_committedCount wsL_committedCount) := goodIn_app (goodIn_of _ (by decide +kernel)) ggL_law_L_committedCount
set_option maxRecDepth 20000 in
theorem ggL_law_X5_committedCount : GoodIn wsL_law wsX5_committedCount := goodIn_r _ [703, 82, 606, 607, 608, 5, 609, 135, 136, 137, 132, 133, 134, 138, 139, 140, 141, 142, 768, 769, 770, 771, 772, 773, 774, 775, 776, 777, 778, 779, 780, 781, 782, 783, 784, 785, 786, 787, 788, 789, 790, 791, 792, 793, 794] (by decide +kernel) (by decide +kernel)
set_option maxRecDepth 20000 in
theorem gL_law_X5_committedCount : GoodIn wsL_law (wsV RL 208 RX5 yX5_committedCount wsX5_committedCount) := goodIn_app (goodIn_of _ (by decide +kernel)) ggL_law_X5_committedCount
set_option maxRecDepth 20000 in
theorem ggL_law_L_committedSum : GoodIn wsL_law wsL_committedSum := goodIn_ca (goodIn_r _ [706, 101, 707, 708, 709, 2, 710, 33, 309, 118, 119, 120, 116, 117, 754, 755, 756, 757, 758, 759, 760, 761, 762, 763, 764, 765, 766, 767, 804, 805] (by decide +kernel) (by decide +kernel)) (goodIn_sub (fun _ h => List.mem_append_right _ h) (by decide +kernel))
set_option maxRecDepth 20000 in
theorem gL_law_L_committedSum : GoodIn wsL_law (va_wsS RL 209 yL_committedSum wsL_committedSum) := goodIn_app (goodIn_of _ (by decide +kernel)) ggL_law_L_committedSum
set_option maxRecDepth 20000 in
theorem ggL_law_X5_committedSum : GoodIn wsL_law wsX5_committedSum := goodIn_r _ [714, 83, 606, 607, 608, 5, 609, 135, 136, 137, 132, 133, 134, 138, 139, 140, 141, 142, 768, 769, 770, 771, 772, 773, 774, 775, 776, 777, 778, 779, 780, 781, 782, 783, 784, 785, 786, 787, 788, 789, 790, 791, 792, 793, 794] (by decide +kernel) (by decide +kernel)
set_option maxRecDepth 20000 in
theorem gL_law_X5_committedSum : GoodIn wsL_law (wsV RL 211 RX5 yX5_committedSum wsX5_committedSum) := goodIn_app (goodIn_of _ (by decide +kernel)) ggL_law_X5_committedSum
set_option maxRecDepth 20000 in
theorem ggL_law_X4_committed : GoodIn wsL_law wsX4_committed := goodIn_r _ [718, 33, 280, 754, 755, 756, 757, 758, 759, 760, 761, 762, 763, 764, 765, 766, 767, 804, 805] (by decide +kernel) (by decide +kernel)
set_option maxRecDepth 20000 in
theorem gL_law_X4_committed : GoodIn wsL_law (wsV RL 212 RX4 yX4_committed wsX4_committed) := goodIn_app (goodIn_of _ (by decide +kernel)) ggL_law_X4_committed
set_option maxRecDepth 20000 in
theorem ggL_law_X5_committed : GoodIn wsL_law wsX5_committed := goodIn_r _ [722, 142, 82, 768, 769, 770, 771, 772, 773, 774, 775, 776, 777, 778, 779, 780, 781, 782, 783, 784, 785, 786, 787, 788, 789, 790, 791, 792, 793, 794] (by decide +kernel) (by decide +kernel)
set_option maxRecDepth 20000 in
theorem gL_law_X5_committed : GoodIn wsL_law (wsV RL 215 RX5 yX5_committed wsX5_committed) := goodIn_app (goodIn_of _ (by decide +kernel)) ggL_law_X5_committed
set_option maxRecDepth 20000 in
theorem ggL_law_L_readSum : GoodIn wsL_law wsL_readSum := goodIn_ca (goodIn_r _ [725, 101, 726, 727, 728, 2, 729, 16, 20, 158, 118, 119, 120, 116, 117, 730, 731, 732, 15, 733, 734, 160, 161, 162, 44, 164, 165, 274, 275, 754, 755, 756, 757, 758, 759, 760, 761, 762, 763, 764, 765, 766, 767, 797, 798, 799, 800, 795, 796] (by decide +kernel) (by decide +kernel)) (goodIn_sub (fun _ h => List.mem_append_right _ h) (by decide +kernel))
set_option maxRecDepth 20000 in
theorem gL_law_L_readSum : GoodIn wsL_law (va_wsS RL 216 yL_readSum wsL_readSum) := goodIn_app (goodIn_of _ (by decide +kernel)) ggL_law_L_readSum
set_option maxRecDepth 20000 in
theorem ggL_law_X5_readSum : GoodIn wsL_law wsX5_readSum := goodIn_r _ [738, 70, 71, 135, 136, 5, 137, 132, 133, 134, 138, 139, 140, 141, 142, 768, 769, 770, 771, 772, 773, 774, 775, 776, 777, 778, 779, 780, 781, 782, 783, 784, 785, 786, 787, 788, 789, 790, 791, 792, 793, 794] (by decide +kernel) (by decide +kernel)
set_option maxRecDepth 20000 in
theorem gL_law_X5_readSum : GoodIn wsL_law (wsV RL 218 RX5 yX5_readSum wsX5_readSum) := goodIn_app (goodIn_of _ (by decide +kernel)) ggL_law_X5_readSum
set_option maxRecDepth 20000 in
theorem ggL_law_L_sumInChannels : GoodIn wsL_law wsL_sumInChannels := goodIn_ca (goodIn_r _ [741, 101, 742, 743, 744, 2, 745, 24, 118, 119, 120, 116, 117, 746, 747, 748, 23, 749, 57, 56, 164, 165, 274, 275, 754, 755, 756, 757, 758, 759, 760, 761, 762, 763, 764, 765, 766, 767, 801, 802, 803] (by decide +kernel) (by decide +kernel)) (goodIn_sub (fun _ h => List.mem_append_right _ h) (by decide +kernel))
set_option maxRecDepth 20000 in
theorem gL_law_L_sumInChannels : GoodIn wsL_law (va_wsS RL 219 yL_sumInChannels wsL_sumInChannels) := goodIn_app (goodIn_of _ (by decide +kernel)) ggL_law_L_sumInChannels
set_option maxRecDepth 20000 in
theorem ggL_law_X5_sumInChannels : GoodIn wsL_law wsX5_sumInChannels := goodIn_r _ [753, 73, 72, 135, 136, 5, 137, 132, 133, 134, 138, 139, 140, 141, 142, 768, 769, 770, 771, 772, 773, 774, 775, 776, 777, 778, 779, 780, 781, 782, 783, 784, 785, 786, 787, 788, 789, 790, 791, 792, 793, 794] (by decide +kernel) (by decide +kernel)
set_option maxRecDepth 20000 in
theorem gL_law_X5_sumInChannels : GoodIn wsL_law (wsV RL 221 RX5 yX5_sumInChannels wsX5_sumInChannels) := goodIn_app (goodIn_of _ (by decide +kernel)) ggL_law_X5_sumInChannels
