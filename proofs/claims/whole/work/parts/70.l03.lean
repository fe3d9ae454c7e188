set_option maxRecDepth 20000 in
theorem gL_mostAt_X7_mostAt : GoodIn wsL_mostAt (wsV RL 51 RX7 yX7_mostAt wsX7_mostAt) := goodIn_app (goodIn_of _ (by decide +kernel)) ggL_mostAt_X7_mostAt
theorem dL_mostAt_0 : decode cL_mostAt 0 = .ok (.aload 5, 2) := by decide +kernel
theorem dL_mostAt_2 : decode cL_mostAt 2 = .ok (.iconst 0, 1) := by decide +kernel
theorem dL_mostAt_3 : decode cL_mostAt 3 = .ok (.aload_n 0, 1) := by decide +kernel
theorem dL_mostAt_4 : decode cL_mostAt 4 = .ok (.iload_n 1, 1) := by decide +kernel
theorem dL_mostAt_5 : decode cL_mostAt 5 = .ok (.iload_n 2, 1) := by decide +kernel
theorem dL_mostAt_6 : decode cL_mostAt 6 = .ok (.iload_n 3, 1) := by decide +kernel
theorem dL_mostAt_7 : decode cL_mostAt 7 = .ok (.iload 4, 2) := by decide +kernel
theorem dL_mostAt_9 : decode cL_mostAt 9 = .ok (.invokevirtual 51, 3) := by decide +kernel
theorem dL_mostAt_12 : decode cL_mostAt 12 = .ok (.i2l, 1) := by decide +kernel
theorem dL_mostAt_13 : decode cL_mostAt 13 = .ok (.lastore, 1) := by decide +kernel
theorem dL_mostAt_14 : decode cL_mostAt 14 = .ok (.goto 11, 3) := by decide +kernel
theorem dL_mostAt_17 : decode cL_mostAt 17 = .ok (.astore 6, 2) := by decide +kernel
theorem dL_mostAt_19 : decode cL_mostAt 19 = .ok (.iconst 1, 1) := by decide +kernel
theorem dL_mostAt_20 : decode cL_mostAt 20 = .ok (.ireturn, 1) := by decide +kernel
theorem dL_mostAt_21 : decode cL_mostAt 21 = .ok (.astore 6, 2) := by decide +kernel
theorem dL_mostAt_23 : decode cL_mostAt 23 = .ok (.iconst 2, 1) := by decide +kernel
theorem dL_mostAt_24 : decode cL_mostAt 24 = .ok (.ireturn, 1) := by decide +kernel
theorem dL_mostAt_25 : decode cL_mostAt 25 = .ok (.iconst 0, 1) := by decide +kernel
theorem dL_mostAt_26 : decode cL_mostAt 26 = .ok (.ireturn, 1) := by decide +kernel
set_option maxRecDepth 20000 in
theorem ggL_law_X7_init : GoodIn wsL_law wsX7_init := goodIn_r _ [9, 10, 11, 12, 13, 14, 15, 16, 17, 18, 19, 20, 21, 22, 23, 24, 25, 26, 27, 28, 29, 30, 31, 32, 33, 34, 35, 36, 37, 38, 39, 40, 41, 42, 43, 44, 45, 46, 47, 48, 49, 50, 51, 52, 53, 54, 55, 56, 57, 58, 59, 60, 61, 62, 63, 64, 65, 66, 67, 68, 69, 70, 71, 72, 73, 74, 75, 76, 77, 78, 79, 80, 81, 82, 83, 84, 85, 86, 87, 88, 89, 90, 91, 92, 93, 94, 95, 96, 97, 98, 99, 100, 101, 102, 103, 104, 105, 106, 107, 108, 109, 110, 111, 112, 113, 114, 115, 116, 707, 708, 709, 682, 683, 684, 685, 686, 687, 688, 689, 710, 711, 712, 713, 714, 715, 716, 717, 718, 719, 720, 721, 722, 723, 724, 725, 726, 727, 728, 729, 730, 731, 732, 733, 734, 735, 736, 737, 738, 739, 740, 741, 742, 743, 744, 745, 746, 747, 748, 749, 750, 751, 752] rfl (by decide +kernel)
set_option maxRecDepth 20000 in
theorem gL_law_X7_init : GoodIn wsL_law (wsX7_init) := ggL_law_X7_init
set_option maxRecDepth 20000 in
theorem ggL_law_X8_init : GoodIn wsL_law wsX8_init := goodIn_r _ [119, 120, 11, 12, 55, 121, 122, 123, 124, 125, 126, 127, 128, 129, 130, 690, 691, 692, 693, 694, 695, 696, 697, 698, 699, 700, 701, 702, 703, 704, 705, 706] rfl (by decide +kernel)
set_option maxRecDepth 20000 in
theorem gL_law_X8_init : GoodIn wsL_law (wsX8_init) := ggL_law_X8_init
set_option maxRecDepth 20000 in
theorem ggL_law_L_move : GoodIn wsL_law wsL_move := goodIn_ca (goodIn_ca (goodIn_r _ [134, 135, 136, 137, 138, 139, 2, 140, 141, 142, 16, 143, 144, 145, 146, 147, 148, 149, 150, 151, 152, 35, 153, 154, 155, 15, 156, 42, 45, 157, 158, 159, 44, 160, 49, 50, 51, 52, 53, 54, 161, 162, 163, 164, 56, 682, 683, 684, 685, 686, 687, 688, 689, 707, 708, 709, 729, 730, 731, 732, 733, 734, 735, 736] rfl (by decide +kernel)) (goodIn_sub (fun _ h => List.mem_append_left _ (List.mem_append_left _ (List.mem_append_right _ h))) (by decide +kernel))) (goodIn_sub (fun _ h => List.mem_append_left _ (List.mem_append_right _ h)) (by decide +kernel))
set_option maxRecDepth 20000 in
theorem gL_law_L_move : GoodIn wsL_law (va_wsS RL 59 yL_move wsL_move) := goodIn_app (goodIn_of _ (by decide +kernel)) ggL_law_L_move
set_option maxRecDepth 20000 in
theorem ggL_law_X8_move : GoodIn wsL_law wsX8_move := goodIn_r _ [168, 169, 170, 121, 171, 172, 5, 173, 174, 175, 176, 177, 178, 690, 691, 692, 693, 694, 695, 696, 697, 698, 699, 700, 701, 702, 703, 704, 705, 706] rfl (by decide +kernel)
set_option maxRecDepth 20000 in
theorem gL_law_X8_move : GoodIn wsL_law (wsV RL 64 RX8 yX8_move wsX8_move) := goodIn_app (goodIn_of _ (by decide +kernel)) ggL_law_X8_move
set_option maxRecDepth 20000 in
theorem ggL_law_X8_thrown : GoodIn wsL_law wsX8_thrown := goodIn_r _ [182, 178, 690, 691, 692, 693, 694, 695, 696, 697, 698, 699, 700, 701, 702, 703, 704, 705, 706] rfl (by decide +kernel)
set_option maxRecDepth 20000 in
theorem gL_law_X8_thrown : GoodIn wsL_law (wsV RL 65 RX8 yX8_thrown wsX8_thrown) := goodIn_app (goodIn_of _ (by decide +kernel)) ggL_law_X8_thrown
set_option maxRecDepth 20000 in
theorem ggL_law_L_patch : GoodIn wsL_law wsL_patch := goodIn_ca (goodIn_ca (goodIn_ca (goodIn_r _ [185, 186, 135, 136, 187, 188, 189, 2, 190, 16, 191, 192, 193, 194, 195, 196, 197, 198, 199, 15, 200, 40, 144, 145, 146, 147, 148, 149, 150, 151, 152, 141, 142, 35, 153, 154, 155, 156, 42, 45, 201, 202, 203, 44, 204, 56, 205, 162, 163, 164, 682, 683, 684, 685, 686, 687, 688, 689, 707, 708, 709, 729, 730, 731, 732, 733, 734, 735, 736] rfl (by decide +kernel)) (goodIn_sub (fun _ h => List.mem_append_right _ h) (by decide +kernel))) (goodIn_sub (fun _ h => List.mem_append_left _ (List.mem_append_right _ h)) (by decide +kernel))) (goodIn_sub (fun _ h => List.mem_append_left _ (List.mem_append_left _ (List.mem_append_right _ h))) (by decide +kernel))
set_option maxRecDepth 20000 in
theorem gL_law_L_patch : GoodIn wsL_law (va_wsS RL 69 yL_patch wsL_patch) := goodIn_app (goodIn_of _ (by decide +kernel)) ggL_law_L_patch
set_option maxRecDepth 20000 in
theorem ggL_law_X8_patch : GoodIn wsL_law wsX8_patch := goodIn_r _ [209, 170, 121, 210, 211, 212, 5, 213, 169, 171, 172, 173, 174, 175, 176, 177, 178, 690, 691, 692, 693, 694, 695, 696, 697, 698, 699, 700, 701, 702, 703, 704, 705, 706] rfl (by decide +kernel)
set_option maxRecDepth 20000 in
theorem gL_law_X8_patch : GoodIn wsL_law (wsV RL 72 RX8 yX8_patch wsX8_patch) := goodIn_app (goodIn_of _ (by decide +kernel)) ggL_law_X8_patch
set_option maxRecDepth 20000 in
theorem ggL_law_L_cancel : GoodIn wsL_law wsL_cancel := goodIn_ca (goodIn_ca (goodIn_r _ [216, 186, 136, 217, 218, 219, 2, 220, 16, 191, 192, 193, 194, 195, 196, 197, 198, 199, 15, 200, 40, 149, 150, 151, 152, 141, 142, 35, 153, 154, 155, 156, 42, 45, 221, 222, 223, 44, 224, 58, 225, 226, 227, 228, 682, 683, 684, 685, 686, 687, 688, 689, 707, 708, 709, 729, 730, 731, 732, 733, 734, 735, 736] rfl (by decide +kernel)) (goodIn_sub (fun _ h => List.mem_append_right _ h) (by decide +kernel))) (goodIn_sub (fun _ h => List.mem_append_left _ (List.mem_append_left _ (List.mem_append_right _ h))) (by decide +kernel))
set_option maxRecDepth 20000 in
theorem gL_law_L_cancel : GoodIn wsL_law (va_wsS RL 73 yL_cancel wsL_cancel) := goodIn_app (goodIn_of _ (by decide +kernel)) ggL_law_L_cancel
set_option maxRecDepth 20000 in
theorem ggL_law_X8_cancel : GoodIn wsL_law wsX8_cancel := goodIn_r _ [232, 170, 121, 210, 211, 212, 5, 213, 169, 171, 172, 173, 174, 175, 176, 177, 178, 690, 691, 692, 693, 694, 695, 696, 697, 698, 699, 700, 701, 702, 703, 704, 705, 706] rfl (by decide +kernel)
set_option maxRecDepth 20000 in
theorem gL_law_X8_cancel : GoodIn wsL_law (wsV RL 76 RX8 yX8_cancel wsX8_cancel) := goodIn_app (goodIn_of _ (by decide +kernel)) ggL_law_X8_cancel
set_option maxRecDepth 20000 in
theorem ggL_law_L_begin : GoodIn wsL_law wsL_begin := goodIn_ca (goodIn_ca (goodIn_r _ [235, 135, 136, 236, 237, 238, 2, 239, 147, 148, 30, 240, 17, 16, 26, 21, 241, 242, 243, 35, 144, 145, 146, 149, 150, 151, 152, 141, 142, 244, 245, 246, 29, 247, 102, 103, 248, 249, 250, 251, 101, 252, 253, 254, 15, 255, 40, 42, 256, 257, 258, 44, 259, 49, 50, 51, 52, 53, 54, 56, 260, 261, 262, 263, 58, 264, 265, 266, 25, 267, 93, 94, 95, 92, 268, 269, 270, 271, 272, 273, 274, 20, 275, 66, 67, 276, 277, 278, 65, 279, 73, 75, 74, 77, 280, 281, 282, 283, 76, 81, 284, 285, 286, 287, 78, 79, 80, 288, 289, 290, 291, 82, 83, 682, 683, 684, 685, 686, 687, 688, 689, 719, 720, 721, 710, 711, 712, 737, 738, 739, 740, 741, 742, 743, 744, 745, 746, 747, 748, 749, 750, 751, 752, 707, 708, 709, 729, 730, 731, 732, 733, 734, 735, 736, 713, 714, 715, 716, 717, 718] rfl (by decide +kernel)) (goodIn_sub (fun _ h => List.mem_append_left _ (List.mem_append_right _ h)) (by decide +kernel))) (goodIn_sub (fun _ h => List.mem_append_left _ (List.mem_append_left _ (List.mem_append_right _ h))) (by decide +kernel))
set_option maxRecDepth 20000 in
theorem gL_law_L_begin : GoodIn wsL_law (va_wsS RL 77 yL_begin wsL_begin) := goodIn_app (goodIn_of _ (by decide +kernel)) ggL_law_L_begin
set_option maxRecDepth 20000 in
theorem ggL_law_X8_begin : GoodIn wsL_law wsX8_begin := goodIn_r _ [295, 170, 296, 128, 126, 123, 127, 171, 172, 5, 173, 174, 175, 176, 177, 178, 297, 298, 299, 300, 122, 301, 302, 303, 304, 125, 690, 691, 692, 693, 694, 695, 696, 697, 698, 699, 700, 701, 702, 703, 704, 705, 706] rfl (by decide +kernel)
set_option maxRecDepth 20000 in
theorem gL_law_X8_begin : GoodIn wsL_law (wsV RL 80 RX8 yX8_begin wsX8_begin) := goodIn_app (goodIn_of _ (by decide +kernel)) ggL_law_X8_begin
set_option maxRecDepth 20000 in
theorem ggL_law_L_play : GoodIn wsL_law wsL_play := goodIn_ca (goodIn_ca (goodIn_r _ [307, 135, 136, 308, 309, 310, 2, 311, 141, 142, 35, 26, 21, 312, 144, 145, 146, 147, 148, 313, 314, 315, 316, 16, 197, 198, 199, 15, 200, 40, 317, 318, 319, 25, 320, 92, 96, 97, 321, 322, 323, 20, 324, 66, 67, 68, 325, 326, 327, 65, 328, 84, 85, 82, 83, 329, 330, 331, 332, 75, 76, 78, 79, 80, 333, 154, 155, 156, 42, 45, 334, 202, 203, 44, 204, 56, 335, 336, 337, 338, 339, 222, 223, 224, 58, 288, 289, 290, 291, 340, 341, 342, 343, 344, 345, 346, 347, 348, 349, 350, 351, 352, 353, 354, 355, 73, 88, 356, 357, 358, 359, 360, 361, 362, 363, 364, 365, 366, 367, 368, 369, 370, 371, 372, 373, 374, 375, 376, 377, 378, 49, 50, 379, 380, 381, 382, 383, 384, 385, 386, 387, 388, 389, 390, 391, 392, 393, 394, 86, 77, 87, 395, 396, 397, 398, 399, 400, 401, 402, 403, 404, 405, 406, 53, 407, 408, 409, 410, 74, 411, 81, 412, 413, 414, 415, 284, 285, 286, 287, 416, 417, 418, 419, 420, 421, 422, 423, 51, 424, 425, 426, 427, 280, 281, 282, 283, 428, 429, 430, 431, 241, 432, 243, 30, 433, 434, 435, 29, 436, 102, 103, 682, 683, 684, 685, 686, 687, 688, 689, 713, 714, 715, 716, 717, 718, 707, 708, 709, 710, 711, 712, 737, 738, 739, 740, 741, 742, 743, 744, 745, 746, 747, 748, 749, 750, 751, 752, 729, 730, 731, 732, 733, 734, 735, 736, 719, 720, 721] rfl (by decide +kernel)) (goodIn_sub (fun _ h => List.mem_append_left _ (List.mem_append_left _ (List.mem_append_right _ h))) (by decide +kernel))) (goodIn_sub (fun _ h => List.mem_append_left _ (List.mem_append_right _ h)) (by decide +kernel))
set_option maxRecDepth 20000 in
theorem gL_law_L_play : GoodIn wsL_law (va_wsS RL 81 yL_play wsL_play) := goodIn_app (goodIn_of _ (by decide +kernel)) ggL_law_L_play
set_option maxRecDepth 20000 in
theorem ggL_law_X8_play : GoodIn wsL_law wsX8_play := goodIn_r _ [440, 170, 127, 122, 171, 172, 5, 173, 441, 442, 443, 444, 169, 174, 175, 176, 177, 178, 445, 446, 447, 448, 123, 449, 450, 451, 452, 453, 454, 455, 456, 457, 458, 459, 460, 461, 462, 463, 464, 465, 121, 466, 467, 468, 469, 470, 471, 472, 473, 474, 475, 476, 477, 478, 479, 480, 481, 482, 483, 484, 485, 486, 487, 488, 489, 301, 302, 303, 304, 125, 490, 491, 492, 493, 126, 128, 690, 691, 692, 693, 694, 695, 696, 697, 698, 699, 700, 701, 702, 703, 704, 705, 706] rfl (by decide +kernel)
set_option maxRecDepth 20000 in
theorem gL_law_X8_play : GoodIn wsL_law (wsV RL 83 RX8 yX8_play wsX8_play) := goodIn_app (goodIn_of _ (by decide +kernel)) ggL_law_X8_play
set_option maxRecDepth 20000 in
theorem ggL_law_L_of : GoodIn wsL_law wsL_of := goodIn_ca (goodIn_ca (goodIn_r _ [496, 186, 135, 497, 498, 499, 2, 500, 30, 21, 501, 502, 503, 195, 196, 144, 145, 146, 147, 148, 504, 505, 506, 29, 507, 102, 103, 508, 509, 510, 20, 511, 66, 67, 512, 513, 514, 65, 515, 73, 74, 75, 76, 78, 79, 81, 77, 682, 683, 684, 685, 686, 687, 688, 689, 719, 720, 721, 710, 711, 712, 737, 738, 739, 740, 741, 742, 743, 744, 745, 746, 747, 748, 749, 750, 751, 752] rfl (by decide +kernel)) (goodIn_sub (fun _ h => List.mem_append_right _ h) (by decide +kernel))) (goodIn_sub (fun _ h => List.mem_append_left _ (List.mem_append_right _ h)) (by decide +kernel))
set_option maxRecDepth 20000 in
theorem gL_law_L_of : GoodIn wsL_law (va_wsS RL 84 yL_of wsL_of) := goodIn_app (goodIn_of _ (by decide +kernel)) ggL_law_L_of
set_option maxRecDepth 20000 in
theorem ggL_law_X8_of : GoodIn wsL_law wsX8_of := goodIn_r _ [519, 126, 123, 171, 172, 5, 173, 174, 175, 176, 177, 178, 690, 691, 692, 693, 694, 695, 696, 697, 698, 699, 700, 701, 702, 703, 704, 705, 706] rfl (by decide +kernel)
set_option maxRecDepth 20000 in
theorem gL_law_X8_of : GoodIn wsL_law (wsV RL 87 RX8 yX8_of wsX8_of) := goodIn_app (goodIn_of _ (by decide +kernel)) ggL_law_X8_of
set_option maxRecDepth 20000 in
theorem ggL_law_L_again : GoodIn wsL_law wsL_again := goodIn_ca (goodIn_ca (goodIn_r _ [522, 186, 135, 523, 524, 525, 2, 526, 195, 196, 30, 240, 26, 312, 22, 501, 502, 503, 144, 145, 146, 147, 148, 527, 528, 529, 25, 530, 92, 96, 97, 531, 269, 270, 271, 93, 94, 95, 272, 273, 274, 20, 275, 66, 67, 276, 277, 278, 65, 279, 73, 75, 74, 77, 280, 281, 282, 283, 76, 81, 284, 285, 286, 287, 78, 79, 80, 288, 289, 290, 291, 82, 83, 532, 322, 323, 324, 68, 325, 326, 327, 328, 84, 85, 329, 330, 331, 332, 333, 154, 155, 15, 156, 42, 45, 334, 202, 203, 44, 204, 56, 335, 336, 337, 338, 339, 222, 223, 224, 58, 340, 341, 342, 343, 344, 345, 346, 347, 348, 349, 350, 351, 352, 353, 354, 355, 88, 356, 357, 358, 359, 360, 361, 362, 363, 364, 365, 366, 367, 368, 369, 370, 371, 372, 373, 374, 375, 376, 377, 378, 49, 50, 379, 380, 381, 382, 383, 384, 385, 386, 387, 388, 389, 390, 391, 392, 393, 394, 86, 87, 395, 396, 397, 398, 399, 400, 401, 402, 403, 404, 405, 406, 53, 407, 408, 409, 410, 411, 412, 413, 414, 415, 416, 417, 418, 419, 420, 421, 422, 423, 51, 424, 425, 426, 427, 508, 509, 510, 511, 512, 513, 514, 515, 682, 683, 684, 685, 686, 687, 688, 689, 719, 720, 721, 713, 714, 715, 716, 717, 718, 710, 711, 712, 737, 738, 739, 740, 741, 742, 743, 744, 745, 746, 747, 748, 749, 750, 751, 752, 707, 708, 709, 729, 730, 731, 732, 733, 734, 735, 736] rfl (by decide +kernel)) (goodIn_sub (fun _ h => List.mem_append_right _ h) (by decide +kernel))) (goodIn_sub (fun _ h => List.mem_append_left _ (List.mem_append_right _ h)) (by decide +kernel))
set_option maxRecDepth 20000 in
theorem gL_law_L_again : GoodIn wsL_law (va_wsS RL 88 yL_again wsL_again) := goodIn_app (goodIn_of _ (by decide +kernel)) ggL_law_L_again
set_option maxRecDepth 20000 in
theorem ggL_law_X8_again : GoodIn wsL_law wsX8_again := goodIn_r _ [536, 127, 125, 171, 172, 5, 173, 174, 175, 176, 177, 178, 690, 691, 692, 693, 694, 695, 696, 697, 698, 699, 700, 701, 702, 703, 704, 705, 706] rfl (by decide +kernel)
set_option maxRecDepth 20000 in
theorem gL_law_X8_again : GoodIn wsL_law (wsV RL 90 RX8 yX8_again wsX8_again) := goodIn_app (goodIn_of _ (by decide +kernel)) ggL_law_X8_again
set_option maxRecDepth 20000 in
theorem ggL_law_X7_goesOn : GoodIn wsL_law wsX7_goesOn := goodIn_r _ [540, 35, 682, 683, 684, 685, 686, 687, 688, 689] rfl (by decide +kernel)
set_option maxRecDepth 20000 in
theorem gL_law_X7_goesOn : GoodIn wsL_law (wsV RL 91 RX7 yX7_goesOn wsX7_goesOn) := goodIn_app (goodIn_of _ (by decide +kernel)) ggL_law_X7_goesOn
set_option maxRecDepth 20000 in
theorem ggL_law_X8_goesOn : GoodIn wsL_law wsX8_goesOn := goodIn_r _ [544, 170, 174, 175, 176, 5, 177, 178, 690, 691, 692, 693, 694, 695, 696, 697, 698, 699, 700, 701, 702, 703, 704, 705, 706] rfl (by decide +kernel)
set_option maxRecDepth 20000 in
theorem gL_law_X8_goesOn : GoodIn wsL_law (wsV RL 95 RX8 yX8_goesOn wsX8_goesOn) := goodIn_app (goodIn_of _ (by decide +kernel)) ggL_law_X8_goesOn
set_option maxRecDepth 20000 in
theorem ggL_law_X7_winner : GoodIn wsL_law wsX7_winner := goodIn_r _ [548, 30, 244, 245, 246, 29, 247, 102, 103, 682, 683, 684, 685, 686, 687, 688, 689, 719, 720, 721] rfl (by decide +kernel)
set_option maxRecDepth 20000 in
theorem gL_law_X7_winner : GoodIn wsL_law (wsV RL 96 RX7 yX7_winner wsX7_winner) := goodIn_app (goodIn_of _ (by decide +kernel)) ggL_law_X7_winner
set_option maxRecDepth 20000 in
theorem ggL_law_X8_winner : GoodIn wsL_law wsX8_winner := goodIn_r _ [552, 128, 174, 175, 176, 5, 177, 178, 690, 691, 692, 693, 694, 695, 696, 697, 698, 699, 700, 701, 702, 703, 704, 705, 706] rfl (by decide +kernel)
set_option maxRecDepth 20000 in
theorem gL_law_X8_winner : GoodIn wsL_law (wsV RL 99 RX8 yX8_winner wsX8_winner) := goodIn_app (goodIn_of _ (by decide +kernel)) ggL_law_X8_winner
set_option maxRecDepth 20000 in
theorem ggL_law_L_advantage : GoodIn wsL_law wsL_advantage := goodIn_ca (goodIn_r _ [555, 186, 556, 557, 558, 2, 559, 34, 191, 192, 193, 194, 195, 196, 16, 197, 198, 199, 15, 200, 40, 560, 561, 562, 33, 563, 115, 564, 565, 566, 567, 273, 274, 20, 275, 66, 67, 276, 277, 278, 65, 279, 73, 75, 74, 77, 280, 281, 282, 283, 76, 81, 284, 285, 286, 287, 78, 79, 80, 288, 289, 290, 291, 82, 83, 568, 569, 570, 571, 572, 573, 114, 574, 575, 576, 154, 155, 156, 42, 45, 577, 322, 323, 324, 68, 325, 326, 327, 328, 84, 85, 329, 330, 331, 332, 333, 334, 202, 203, 44, 204, 56, 335, 336, 337, 338, 339, 222, 223, 224, 58, 340, 341, 342, 343, 344, 345, 346, 347, 348, 349, 350, 351, 352, 353, 354, 355, 88, 356, 357, 358, 359, 360, 361, 362, 363, 364, 365, 366, 367, 368, 369, 370, 371, 372, 373, 374, 375, 376, 377, 378, 49, 50, 379, 380, 381, 382, 383, 384, 385, 386, 387, 388, 389, 390, 391, 392, 393, 394, 86, 87, 395, 396, 397, 398, 399, 400, 401, 402, 403, 404, 405, 406, 53, 407, 408, 409, 410, 411, 412, 413, 414, 415, 416, 417, 418, 419, 420, 421, 422, 423, 51, 424, 425, 426, 427, 682, 683, 684, 685, 686, 687, 688, 689, 707, 708, 709, 722, 723, 724, 725, 726, 727, 728, 710, 711, 712, 737, 738, 739, 740, 741, 742, 743, 744, 745, 746, 747, 748, 749, 750, 751, 752, 729, 730, 731, 732, 733, 734, 735, 736] rfl (by decide +kernel)) (goodIn_sub (fun _ h => List.mem_append_right _ h) (by decide +kernel))
set_option maxRecDepth 20000 in
theorem gL_law_L_advantage : GoodIn wsL_law (va_wsS RL 100 yL_advantage wsL_advantage) := goodIn_app (goodIn_of _ (by decide +kernel)) ggL_law_L_advantage
set_option maxRecDepth 20000 in
theorem ggL_law_X8_advantage : GoodIn wsL_law wsX8_advantage := goodIn_r _ [581, 122, 210, 211, 212, 5, 213, 169, 171, 172, 173, 174, 175, 176, 177, 178, 297, 298, 299, 300, 582, 583, 584, 585, 462, 463, 464, 465, 121, 449, 450, 451, 452, 453, 454, 455, 456, 457, 458, 459, 460, 461, 466, 467, 468, 469, 470, 471, 472, 473, 474, 475, 476, 477, 478, 479, 480, 481, 482, 483, 484, 485, 486, 487, 488, 489, 690, 691, 692, 693, 694, 695, 696, 697, 698, 699, 700, 701, 702, 703, 704, 705, 706] rfl (by decide +kernel)
