set_option maxRecDepth 20000 in
theorem gL_law_X8_advantage : GoodIn wsL_law (wsV RL 103 RX8 yX8_advantage wsX8_advantage) := goodIn_app (goodIn_of _ (by decide +kernel)) ggL_law_X8_advantage
set_option maxRecDepth 20000 in
theorem ggL_law_L_punish : GoodIn wsL_law wsL_punish := goodIn_ca (goodIn_r _ [588, 186, 589, 590, 591, 2, 592, 34, 593, 350, 347, 351, 191, 192, 193, 194, 195, 196, 16, 197, 198, 199, 15, 200, 40, 594, 595, 596, 33, 597, 115, 566, 565, 564, 598, 567, 273, 274, 20, 275, 66, 67, 276, 277, 278, 65, 279, 73, 75, 74, 77, 280, 281, 282, 283, 76, 81, 284, 285, 286, 287, 78, 79, 80, 288, 289, 290, 291, 82, 83, 570, 571, 572, 573, 114, 574, 575, 576, 154, 155, 156, 42, 45, 568, 569, 577, 322, 323, 324, 68, 325, 326, 327, 328, 84, 85, 329, 330, 331, 332, 333, 334, 202, 203, 44, 204, 56, 335, 336, 337, 338, 339, 222, 223, 224, 58, 340, 341, 342, 343, 344, 345, 346, 348, 349, 352, 353, 354, 355, 88, 356, 357, 358, 359, 360, 361, 362, 363, 364, 365, 366, 367, 368, 369, 370, 371, 372, 373, 374, 375, 376, 377, 378, 49, 50, 379, 380, 381, 382, 383, 384, 385, 386, 387, 388, 389, 390, 391, 392, 393, 394, 86, 87, 395, 396, 397, 398, 399, 400, 401, 402, 403, 404, 405, 406, 53, 407, 408, 409, 410, 411, 412, 413, 414, 415, 416, 417, 418, 419, 420, 421, 422, 423, 51, 424, 425, 426, 427, 682, 683, 684, 685, 686, 687, 688, 689, 707, 708, 709, 722, 723, 724, 725, 726, 727, 728, 710, 711, 712, 737, 738, 739, 740, 741, 742, 743, 744, 745, 746, 747, 748, 749, 750, 751, 752, 729, 730, 731, 732, 733, 734, 735, 736] rfl (by decide +kernel)) (goodIn_sub (fun _ h => List.mem_append_right _ h) (by decide +kernel))
set_option maxRecDepth 20000 in
theorem gL_law_L_punish : GoodIn wsL_law (va_wsS RL 104 yL_punish wsL_punish) := goodIn_app (goodIn_of _ (by decide +kernel)) ggL_law_L_punish
set_option maxRecDepth 20000 in
theorem ggL_law_X8_punish : GoodIn wsL_law wsX8_punish := goodIn_r _ [602, 210, 211, 212, 5, 213, 169, 171, 172, 173, 174, 175, 176, 177, 178, 603, 604, 605, 606, 122, 297, 298, 299, 300, 582, 583, 584, 585, 462, 463, 464, 465, 121, 449, 450, 451, 452, 453, 454, 455, 456, 457, 458, 459, 460, 461, 466, 467, 468, 469, 470, 471, 472, 473, 474, 475, 476, 477, 478, 479, 480, 481, 482, 483, 484, 485, 486, 487, 488, 489, 690, 691, 692, 693, 694, 695, 696, 697, 698, 699, 700, 701, 702, 703, 704, 705, 706] rfl (by decide +kernel)
set_option maxRecDepth 20000 in
theorem gL_law_X8_punish : GoodIn wsL_law (wsV RL 106 RX8 yX8_punish wsX8_punish) := goodIn_app (goodIn_of _ (by decide +kernel)) ggL_law_X8_punish
set_option maxRecDepth 20000 in
theorem ggL_law_L_most : GoodIn wsL_law wsL_most := goodIn_ca (goodIn_ca (goodIn_r _ [609, 186, 135, 610, 611, 612, 2, 613, 34, 614, 191, 192, 193, 194, 195, 196, 16, 197, 198, 199, 15, 200, 40, 144, 145, 146, 147, 148, 615, 616, 617, 33, 618, 108, 113, 110, 567, 273, 274, 20, 275, 66, 67, 276, 277, 278, 65, 279, 73, 75, 74, 77, 280, 281, 282, 283, 76, 81, 284, 285, 286, 287, 78, 79, 80, 288, 289, 290, 291, 82, 83, 619, 620, 111, 566, 598, 114, 621, 622, 623, 624, 625, 626, 627, 628, 629, 630, 631, 632, 633, 564, 634, 568, 569, 577, 322, 323, 324, 68, 325, 326, 327, 328, 84, 85, 329, 330, 331, 332, 333, 154, 155, 156, 42, 45, 334, 202, 203, 44, 204, 56, 335, 336, 337, 338, 339, 222, 223, 224, 58, 340, 341, 342, 343, 344, 345, 346, 347, 348, 349, 350, 351, 352, 353, 354, 355, 88, 356, 357, 358, 359, 360, 361, 362, 363, 364, 365, 366, 367, 368, 369, 370, 371, 372, 373, 374, 375, 376, 377, 378, 49, 50, 379, 380, 381, 382, 383, 384, 385, 386, 387, 388, 389, 390, 391, 392, 393, 394, 86, 87, 395, 396, 397, 398, 399, 400, 401, 402, 403, 404, 405, 406, 53, 407, 408, 409, 410, 411, 412, 413, 414, 415, 416, 417, 418, 419, 420, 421, 422, 423, 51, 424, 425, 426, 427, 635, 636, 637, 638, 112, 639, 261, 262, 263, 640, 682, 683, 684, 685, 686, 687, 688, 689, 722, 723, 724, 725, 726, 727, 728, 707, 708, 709, 710, 711, 712, 737, 738, 739, 740, 741, 742, 743, 744, 745, 746, 747, 748, 749, 750, 751, 752, 729, 730, 731, 732, 733, 734, 735, 736] rfl (by decide +kernel)) (goodIn_sub (fun _ h => List.mem_append_right _ h) (by decide +kernel))) (goodIn_sub (fun _ h => List.mem_append_left _ (List.mem_append_right _ h)) (by decide +kernel))
set_option maxRecDepth 20000 in
theorem gL_law_L_most : GoodIn wsL_law (va_wsS RL 107 yL_most wsL_most) := goodIn_app (goodIn_of _ (by decide +kernel)) ggL_law_L_most
set_option maxRecDepth 20000 in
theorem ggL_law_X8_most : GoodIn wsL_law wsX8_most := goodIn_r _ [644, 645, 210, 211, 212, 5, 213, 169, 171, 172, 173, 174, 175, 176, 177, 178, 646, 647, 648, 649, 650, 129, 297, 298, 299, 300, 122, 651, 652, 653, 654, 453, 449, 450, 451, 452, 454, 455, 456, 457, 458, 459, 460, 461, 462, 463, 464, 465, 121, 466, 467, 468, 469, 470, 471, 472, 473, 474, 475, 476, 477, 478, 479, 480, 481, 482, 483, 484, 485, 486, 487, 488, 489, 655, 656, 657, 658, 124, 659, 660, 661, 662, 130, 663, 664, 665, 666, 690, 691, 692, 693, 694, 695, 696, 697, 698, 699, 700, 701, 702, 703, 704, 705, 706] rfl (by decide +kernel)
set_option maxRecDepth 20000 in
theorem gL_law_X8_most : GoodIn wsL_law (wsV RL 109 RX8 yX8_most wsX8_most) := goodIn_app (goodIn_of _ (by decide +kernel)) ggL_law_X8_most
set_option maxRecDepth 20000 in
theorem ggL_law_L_mostAt : GoodIn wsL_law wsL_mostAt := goodIn_ca (goodIn_ca (goodIn_r _ [669, 186, 135, 670, 671, 672, 2, 673, 195, 196, 34, 191, 192, 193, 194, 16, 197, 198, 199, 15, 200, 40, 144, 145, 146, 147, 148, 615, 616, 617, 33, 618, 108, 113, 110, 567, 273, 274, 20, 275, 66, 67, 276, 277, 278, 65, 279, 73, 75, 74, 77, 280, 281, 282, 283, 76, 81, 284, 285, 286, 287, 78, 79, 80, 288, 289, 290, 291, 82, 83, 619, 620, 111, 566, 598, 114, 621, 622, 623, 624, 625, 626, 627, 628, 629, 630, 631, 632, 633, 564, 634, 568, 569, 577, 322, 323, 324, 68, 325, 326, 327, 328, 84, 85, 329, 330, 331, 332, 333, 154, 155, 156, 42, 45, 334, 202, 203, 44, 204, 56, 335, 336, 337, 338, 339, 222, 223, 224, 58, 340, 341, 342, 343, 344, 345, 346, 347, 348, 349, 350, 351, 352, 353, 354, 355, 88, 356, 357, 358, 359, 360, 361, 362, 363, 364, 365, 366, 367, 368, 369, 370, 371, 372, 373, 374, 375, 376, 377, 378, 49, 50, 379, 380, 381, 382, 383, 384, 385, 386, 387, 388, 389, 390, 391, 392, 393, 394, 86, 87, 395, 396, 397, 398, 399, 400, 401, 402, 403, 404, 405, 406, 53, 407, 408, 409, 410, 411, 412, 413, 414, 415, 416, 417, 418, 419, 420, 421, 422, 423, 51, 424, 425, 426, 427, 635, 636, 637, 638, 112, 639, 261, 262, 263, 640, 674, 675, 676, 677, 682, 683, 684, 685, 686, 687, 688, 689, 707, 708, 709, 722, 723, 724, 725, 726, 727, 728, 710, 711, 712, 737, 738, 739, 740, 741, 742, 743, 744, 745, 746, 747, 748, 749, 750, 751, 752, 729, 730, 731, 732, 733, 734, 735, 736] rfl (by decide +kernel)) (goodIn_sub (fun _ h => List.mem_append_right _ h) (by decide +kernel))) (goodIn_sub (fun _ h => List.mem_append_left _ (List.mem_append_right _ h)) (by decide +kernel))
set_option maxRecDepth 20000 in
theorem gL_law_L_mostAt : GoodIn wsL_law (va_wsS RL 110 yL_mostAt wsL_mostAt) := goodIn_app (goodIn_of _ (by decide +kernel)) ggL_law_L_mostAt
set_option maxRecDepth 20000 in
theorem ggL_law_X8_mostAt : GoodIn wsL_law wsX8_mostAt := goodIn_r _ [681, 650, 130, 210, 211, 212, 5, 213, 169, 171, 172, 173, 174, 175, 176, 177, 178, 646, 647, 648, 649, 645, 129, 297, 298, 299, 300, 122, 651, 652, 653, 654, 453, 449, 450, 451, 452, 454, 455, 456, 457, 458, 459, 460, 461, 462, 463, 464, 465, 121, 466, 467, 468, 469, 470, 471, 472, 473, 474, 475, 476, 477, 478, 479, 480, 481, 482, 483, 484, 485, 486, 487, 488, 489, 655, 656, 657, 658, 124, 659, 660, 661, 662, 663, 664, 665, 666, 690, 691, 692, 693, 694, 695, 696, 697, 698, 699, 700, 701, 702, 703, 704, 705, 706] rfl (by decide +kernel)
set_option maxRecDepth 20000 in
theorem gL_law_X8_mostAt : GoodIn wsL_law (wsV RL 113 RX8 yX8_mostAt wsX8_mostAt) := goodIn_app (goodIn_of _ (by decide +kernel)) ggL_law_X8_mostAt
theorem dL_law_0 : decode cL_law 0 = .ok (.new 8, 3) := by decide +kernel
theorem dL_law_3 : decode cL_law 3 = .ok (.dup, 1) := by decide +kernel
theorem dL_law_4 : decode cL_law 4 = .ok (.invokespecial 55, 3) := by decide +kernel
theorem dL_law_7 : decode cL_law 7 = .ok (.astore_n 1, 1) := by decide +kernel
theorem dL_law_8 : decode cL_law 8 = .ok (.new 56, 3) := by decide +kernel
theorem dL_law_11 : decode cL_law 11 = .ok (.dup, 1) := by decide +kernel
theorem dL_law_12 : decode cL_law 12 = .ok (.invokespecial 58, 3) := by decide +kernel
theorem dL_law_15 : decode cL_law 15 = .ok (.astore_n 2, 1) := by decide +kernel
theorem dL_law_16 : decode cL_law 16 = .ok (.iconst 1, 1) := by decide +kernel
theorem dL_law_17 : decode cL_law 17 = .ok (.newarray .long, 2) := by decide +kernel
theorem dL_law_19 : decode cL_law 19 = .ok (.astore_n 3, 1) := by decide +kernel
theorem dL_law_20 : decode cL_law 20 = .ok (.iconst 0, 1) := by decide +kernel
theorem dL_law_21 : decode cL_law 21 = .ok (.istore 4, 2) := by decide +kernel
theorem dL_law_23 : decode cL_law 23 = .ok (.iload 4, 2) := by decide +kernel
theorem dL_law_25 : decode cL_law 25 = .ok (.aload_n 0, 1) := by decide +kernel
theorem dL_law_26 : decode cL_law 26 = .ok (.arraylength, 1) := by decide +kernel
theorem dL_law_27 : decode cL_law 27 = .ok (.bipush 7, 2) := by decide +kernel
theorem dL_law_29 : decode cL_law 29 = .ok (.isub, 1) := by decide +kernel
theorem dL_law_30 : decode cL_law 30 = .ok (.if_icmp .gt 1019, 3) := by decide +kernel
theorem dL_law_33 : decode cL_law 33 = .ok (.aload_n 0, 1) := by decide +kernel
theorem dL_law_34 : decode cL_law 34 = .ok (.iload 4, 2) := by decide +kernel
theorem dL_law_36 : decode cL_law 36 = .ok (.iaload, 1) := by decide +kernel
theorem dL_law_37 : decode cL_law 37 = .ok (.bipush 15, 2) := by decide +kernel
theorem dL_law_39 : decode cL_law 39 = .ok (.iand, 1) := by decide +kernel
theorem dL_law_40 : decode cL_law 40 = .ok (.tableswitch 1003 0 12 #[68, 186, 266, 369, 425, 505, 573, 653, 666, 679, 763, 831, 911], 68) := by decide +kernel
theorem dL_law_108 : decode cL_law 108 = .ok (.aload_n 1, 1) := by decide +kernel
theorem dL_law_109 : decode cL_law 109 = .ok (.aload_n 0, 1) := by decide +kernel
theorem dL_law_110 : decode cL_law 110 = .ok (.iload 4, 2) := by decide +kernel
theorem dL_law_112 : decode cL_law 112 = .ok (.iconst 1, 1) := by decide +kernel
theorem dL_law_113 : decode cL_law 113 = .ok (.iadd, 1) := by decide +kernel
theorem dL_law_114 : decode cL_law 114 = .ok (.iaload, 1) := by decide +kernel
theorem dL_law_115 : decode cL_law 115 = .ok (.aload_n 0, 1) := by decide +kernel
theorem dL_law_116 : decode cL_law 116 = .ok (.iload 4, 2) := by decide +kernel
theorem dL_law_118 : decode cL_law 118 = .ok (.iconst 2, 1) := by decide +kernel
theorem dL_law_119 : decode cL_law 119 = .ok (.iadd, 1) := by decide +kernel
theorem dL_law_120 : decode cL_law 120 = .ok (.iaload, 1) := by decide +kernel
theorem dL_law_121 : decode cL_law 121 = .ok (.aload_n 0, 1) := by decide +kernel
theorem dL_law_122 : decode cL_law 122 = .ok (.iload 4, 2) := by decide +kernel
theorem dL_law_124 : decode cL_law 124 = .ok (.iconst 3, 1) := by decide +kernel
theorem dL_law_125 : decode cL_law 125 = .ok (.iadd, 1) := by decide +kernel
theorem dL_law_126 : decode cL_law 126 = .ok (.iaload, 1) := by decide +kernel
theorem dL_law_127 : decode cL_law 127 = .ok (.aload_n 0, 1) := by decide +kernel
theorem dL_law_128 : decode cL_law 128 = .ok (.iload 4, 2) := by decide +kernel
theorem dL_law_130 : decode cL_law 130 = .ok (.iconst 4, 1) := by decide +kernel
theorem dL_law_131 : decode cL_law 131 = .ok (.iadd, 1) := by decide +kernel
theorem dL_law_132 : decode cL_law 132 = .ok (.iaload, 1) := by decide +kernel
theorem dL_law_133 : decode cL_law 133 = .ok (.aload_n 0, 1) := by decide +kernel
theorem dL_law_134 : decode cL_law 134 = .ok (.iload 4, 2) := by decide +kernel
theorem dL_law_136 : decode cL_law 136 = .ok (.iconst 5, 1) := by decide +kernel
theorem dL_law_137 : decode cL_law 137 = .ok (.iadd, 1) := by decide +kernel
theorem dL_law_138 : decode cL_law 138 = .ok (.iaload, 1) := by decide +kernel
theorem dL_law_139 : decode cL_law 139 = .ok (.aload_n 0, 1) := by decide +kernel
theorem dL_law_140 : decode cL_law 140 = .ok (.iload 4, 2) := by decide +kernel
theorem dL_law_142 : decode cL_law 142 = .ok (.bipush 6, 2) := by decide +kernel
theorem dL_law_144 : decode cL_law 144 = .ok (.iadd, 1) := by decide +kernel
theorem dL_law_145 : decode cL_law 145 = .ok (.iaload, 1) := by decide +kernel
theorem dL_law_146 : decode cL_law 146 = .ok (.aload_n 3, 1) := by decide +kernel
theorem dL_law_147 : decode cL_law 147 = .ok (.invokestatic 59, 3) := by decide +kernel
theorem dL_law_150 : decode cL_law 150 = .ok (.istore 5, 2) := by decide +kernel
theorem dL_law_152 : decode cL_law 152 = .ok (.aload_n 2, 1) := by decide +kernel
theorem dL_law_153 : decode cL_law 153 = .ok (.aload_n 0, 1) := by decide +kernel
theorem dL_law_154 : decode cL_law 154 = .ok (.iload 4, 2) := by decide +kernel
theorem dL_law_156 : decode cL_law 156 = .ok (.iconst 1, 1) := by decide +kernel
theorem dL_law_157 : decode cL_law 157 = .ok (.iadd, 1) := by decide +kernel
theorem dL_law_158 : decode cL_law 158 = .ok (.iaload, 1) := by decide +kernel
theorem dL_law_159 : decode cL_law 159 = .ok (.aload_n 0, 1) := by decide +kernel
theorem dL_law_160 : decode cL_law 160 = .ok (.iload 4, 2) := by decide +kernel
theorem dL_law_162 : decode cL_law 162 = .ok (.iconst 2, 1) := by decide +kernel
theorem dL_law_163 : decode cL_law 163 = .ok (.iadd, 1) := by decide +kernel
theorem dL_law_164 : decode cL_law 164 = .ok (.iaload, 1) := by decide +kernel
theorem dL_law_165 : decode cL_law 165 = .ok (.aload_n 0, 1) := by decide +kernel
theorem dL_law_166 : decode cL_law 166 = .ok (.iload 4, 2) := by decide +kernel
theorem dL_law_168 : decode cL_law 168 = .ok (.iconst 3, 1) := by decide +kernel
theorem dL_law_169 : decode cL_law 169 = .ok (.iadd, 1) := by decide +kernel
theorem dL_law_170 : decode cL_law 170 = .ok (.iaload, 1) := by decide +kernel
theorem dL_law_171 : decode cL_law 171 = .ok (.aload_n 0, 1) := by decide +kernel
theorem dL_law_172 : decode cL_law 172 = .ok (.iload 4, 2) := by decide +kernel
theorem dL_law_174 : decode cL_law 174 = .ok (.iconst 4, 1) := by decide +kernel
theorem dL_law_175 : decode cL_law 175 = .ok (.iadd, 1) := by decide +kernel
theorem dL_law_176 : decode cL_law 176 = .ok (.iaload, 1) := by decide +kernel
theorem dL_law_177 : decode cL_law 177 = .ok (.aload_n 0, 1) := by decide +kernel
theorem dL_law_178 : decode cL_law 178 = .ok (.iload 4, 2) := by decide +kernel
theorem dL_law_180 : decode cL_law 180 = .ok (.iconst 5, 1) := by decide +kernel
theorem dL_law_181 : decode cL_law 181 = .ok (.iadd, 1) := by decide +kernel
