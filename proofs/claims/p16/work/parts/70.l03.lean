theorem dL_arePlaced_41 : decode cL_arePlaced 41 = .ok (.bipush 20, 2) := by decide +kernel
theorem dL_arePlaced_43 : decode cL_arePlaced 43 = .ok (.if_icmp .lt 7, 3) := by decide +kernel
theorem dL_arePlaced_46 : decode cL_arePlaced 46 = .ok (.iconst 1, 1) := by decide +kernel
theorem dL_arePlaced_47 : decode cL_arePlaced 47 = .ok (.goto 4, 3) := by decide +kernel
theorem dL_arePlaced_50 : decode cL_arePlaced 50 = .ok (.iconst 0, 1) := by decide +kernel
theorem dL_arePlaced_51 : decode cL_arePlaced 51 = .ok (.ireturn, 1) := by decide +kernel
set_option maxRecDepth 20000 in
theorem ggL_law_X7_init : GoodIn wsL_law wsX7_init := goodIn_r _ [5, 6, 7, 8, 9, 10, 11, 12, 13, 14, 15, 16, 17, 18, 19, 20, 21, 22, 23, 24, 25, 26, 27, 28, 29, 30, 31, 32, 33, 34, 35, 36, 37, 38, 39, 40, 41, 42, 43, 44, 45, 46, 47, 48, 49, 50, 51, 52, 53, 54, 55, 56, 57, 58, 59, 60, 61, 62, 63, 64, 65, 66, 67, 68, 69, 70, 71, 72, 73, 74, 75, 76, 77, 78, 79, 80, 81, 82, 83, 84, 85, 86, 87, 88, 89, 90, 91, 92, 93, 94, 95, 96, 97, 98, 99, 100, 101, 102, 103, 104, 105, 106, 107, 108, 109, 110, 111, 112, 486, 487, 488, 478, 479, 480, 481, 482, 483, 484, 485, 489, 490, 491, 492, 493, 494, 495, 496, 497, 498, 499, 500, 501, 502, 503, 504, 505, 506, 507, 508, 509, 510, 511, 512, 513, 514, 515, 516, 517, 518, 519, 520, 521, 522, 523, 524, 525, 526, 527, 528, 529, 530, 531] (by decide +kernel) (by decide +kernel)
set_option maxRecDepth 20000 in
theorem gL_law_X7_init : GoodIn wsL_law (wsX7_init) := ggL_law_X7_init
set_option maxRecDepth 20000 in
theorem ggL_law_L_told : GoodIn wsL_law wsL_told := goodIn_r _ [116, 117, 118] (by decide +kernel) (by decide +kernel)
set_option maxRecDepth 20000 in
theorem gL_law_L_told : GoodIn wsL_law (va_wsS RL 9 yL_told wsL_told) := goodIn_app (goodIn_of _ (by decide +kernel)) ggL_law_L_told
set_option maxRecDepth 20000 in
theorem ggL_law_L_makes : GoodIn wsL_law wsL_makes := goodIn_ca (goodIn_ca (goodIn_ca (goodIn_r _ [121, 122, 123, 124, 113, 114, 115, 116, 117, 118, 125, 126, 127, 2, 128, 129, 130, 12, 131, 132, 133, 134, 135, 136, 137, 138, 139, 140, 31, 141, 142, 143, 11, 144, 38, 41, 145, 146, 147, 40, 148, 45, 46, 47, 48, 49, 50, 149, 150, 151, 152, 52, 153, 154, 155, 156, 157, 158, 159, 160, 161, 162, 163, 164, 165, 166, 36, 167, 168, 169, 170, 171, 172, 173, 174, 175, 176, 177, 178, 179, 54, 180, 181, 182, 183, 478, 479, 480, 481, 482, 483, 484, 485, 486, 487, 488, 508, 509, 510, 511, 512, 513, 514, 515] (by decide +kernel) (by decide +kernel)) (goodIn_sub (fun _ h => List.mem_append_left _ (List.mem_append_left _ (List.mem_append_right _ h))) (by decide +kernel))) (goodIn_sub (fun _ h => List.mem_append_left _ (List.mem_append_right _ h)) (by decide +kernel))) (goodIn_sub (fun _ h => List.mem_append_right _ h) (by decide +kernel))
set_option maxRecDepth 20000 in
theorem gL_law_L_makes : GoodIn wsL_law (va_wsS RL 40 yL_makes wsL_makes) := goodIn_app (goodIn_of _ (by decide +kernel)) ggL_law_L_makes
set_option maxRecDepth 20000 in
theorem ggL_law_X7_begin : GoodIn wsL_law wsX7_begin := goodIn_ca (goodIn_ca (goodIn_r _ [187, 135, 136, 26, 188, 13, 12, 22, 17, 189, 190, 191, 31, 132, 133, 2, 134, 137, 138, 139, 140, 129, 130, 192, 193, 194, 25, 195, 98, 99, 196, 197, 198, 199, 97, 200, 201, 202, 11, 203, 36, 38, 204, 205, 206, 40, 207, 45, 46, 47, 48, 49, 50, 52, 208, 209, 210, 211, 54, 212, 213, 214, 21, 215, 89, 90, 91, 88, 216, 217, 218, 219, 220, 221, 222, 16, 223, 62, 63, 224, 225, 226, 61, 227, 69, 71, 70, 73, 228, 229, 230, 231, 72, 77, 232, 233, 234, 235, 74, 75, 76, 236, 237, 238, 239, 78, 79, 478, 479, 480, 481, 482, 483, 484, 485, 498, 499, 500, 489, 490, 491, 516, 517, 518, 519, 520, 521, 522, 523, 524, 525, 526, 527, 528, 529, 530, 531, 486, 487, 488, 508, 509, 510, 511, 512, 513, 514, 515, 492, 493, 494, 495, 496, 497] (by decide +kernel) (by decide +kernel)) (goodIn_sub (fun _ h => List.mem_append_left _ (List.mem_append_right _ h)) (by decide +kernel))) (goodIn_sub (fun _ h => List.mem_append_left _ (List.mem_append_left _ (List.mem_append_right _ h))) (by decide +kernel))
set_option maxRecDepth 20000 in
theorem gL_law_X7_begin : GoodIn wsL_law (wsV RL 44 RX7 yX7_begin wsX7_begin) := goodIn_app (goodIn_of _ (by decide +kernel)) ggL_law_X7_begin
set_option maxRecDepth 20000 in
theorem ggL_law_X7_goesOn : GoodIn wsL_law wsX7_goesOn := goodIn_r _ [243, 31, 478, 479, 480, 481, 482, 483, 484, 485] (by decide +kernel) (by decide +kernel)
set_option maxRecDepth 20000 in
theorem gL_law_X7_goesOn : GoodIn wsL_law (wsV RL 48 RX7 yX7_goesOn wsX7_goesOn) := goodIn_app (goodIn_of _ (by decide +kernel)) ggL_law_X7_goesOn
set_option maxRecDepth 20000 in
theorem ggL_law_X7_of : GoodIn wsL_law wsX7_of := goodIn_ca (goodIn_ca (goodIn_r _ [247, 26, 17, 248, 249, 2, 250, 161, 162, 132, 133, 134, 135, 136, 251, 252, 253, 25, 254, 98, 99, 255, 256, 257, 16, 258, 62, 63, 259, 260, 261, 61, 262, 69, 70, 71, 72, 74, 75, 77, 73, 478, 479, 480, 481, 482, 483, 484, 485, 498, 499, 500, 489, 490, 491, 516, 517, 518, 519, 520, 521, 522, 523, 524, 525, 526, 527, 528, 529, 530, 531] (by decide +kernel) (by decide +kernel)) (goodIn_sub (fun _ h => List.mem_append_right _ h) (by decide +kernel))) (goodIn_sub (fun _ h => List.mem_append_left _ (List.mem_append_right _ h)) (by decide +kernel))
set_option maxRecDepth 20000 in
theorem gL_law_X7_of : GoodIn wsL_law (wsV RL 32 RX7 yX7_of wsX7_of) := goodIn_app (goodIn_of _ (by decide +kernel)) ggL_law_X7_of
set_option maxRecDepth 20000 in
theorem ggL_law_L_input : GoodIn wsL_law wsL_input := goodIn_r _ [265] (by decide +kernel) (by decide +kernel)
set_option maxRecDepth 20000 in
theorem gL_law_L_input : GoodIn wsL_law (va_wsS RL 52 yL_input wsL_input) := goodIn_app (goodIn_of _ (by decide +kernel)) ggL_law_L_input
set_option maxRecDepth 20000 in
theorem ggL_law_X7_play : GoodIn wsL_law wsX7_play := goodIn_ca (goodIn_ca (goodIn_r _ [269, 129, 130, 31, 22, 17, 270, 132, 133, 2, 134, 135, 136, 271, 272, 273, 274, 12, 163, 164, 165, 11, 166, 36, 275, 276, 277, 21, 278, 88, 92, 93, 279, 280, 281, 16, 282, 62, 63, 64, 283, 284, 285, 61, 286, 80, 81, 78, 79, 287, 288, 289, 290, 71, 72, 74, 75, 76, 291, 142, 143, 144, 38, 41, 292, 168, 169, 40, 170, 52, 293, 294, 295, 296, 297, 177, 178, 179, 54, 236, 237, 238, 239, 298, 299, 300, 301, 302, 303, 304, 305, 306, 307, 308, 309, 310, 311, 312, 313, 69, 84, 314, 315, 316, 317, 318, 319, 320, 321, 322, 323, 324, 325, 326, 327, 328, 329, 330, 331, 332, 333, 334, 335, 336, 45, 46, 337, 338, 339, 340, 341, 342, 343, 344, 345, 346, 347, 348, 349, 350, 351, 352, 82, 73, 83, 353, 354, 355, 356, 357, 358, 359, 360, 361, 362, 363, 364, 49, 365, 366, 367, 368, 70, 369, 77, 370, 371, 372, 373, 232, 233, 234, 235, 374, 375, 376, 377, 378, 379, 380, 381, 47, 382, 383, 384, 385, 228, 229, 230, 231, 386, 387, 388, 389, 189, 390, 191, 26, 391, 392, 393, 25, 394, 98, 99, 478, 479, 480, 481, 482, 483, 484, 485, 492, 493, 494, 495, 496, 497, 486, 487, 488, 489, 490, 491, 516, 517, 518, 519, 520, 521, 522, 523, 524, 525, 526, 527, 528, 529, 530, 531, 508, 509, 510, 511, 512, 513, 514, 515, 498, 499, 500] (by decide +kernel) (by decide +kernel)) (goodIn_sub (fun _ h => List.mem_append_left _ (List.mem_append_left _ (List.mem_append_right _ h))) (by decide +kernel))) (goodIn_sub (fun _ h => List.mem_append_left _ (List.mem_append_right _ h)) (by decide +kernel))
set_option maxRecDepth 20000 in
theorem gL_law_X7_play : GoodIn wsL_law (wsV RL 55 RX7 yX7_play wsX7_play) := goodIn_app (goodIn_of _ (by decide +kernel)) ggL_law_X7_play
set_option maxRecDepth 20000 in
theorem ggL_law_L_isSo : GoodIn wsL_law wsL_isSo := goodIn_ca (goodIn_ca (goodIn_r _ [397, 244, 245, 246, 2, 247, 26, 17, 248, 249, 250, 161, 162, 132, 133, 134, 135, 136, 251, 252, 253, 25, 254, 98, 99, 255, 256, 257, 16, 258, 62, 63, 259, 260, 261, 61, 262, 69, 70, 71, 72, 74, 75, 77, 73, 398, 399, 400, 401, 188, 22, 270, 18, 402, 403, 404, 21, 405, 88, 92, 93, 406, 217, 218, 219, 89, 90, 91, 220, 221, 222, 223, 224, 225, 226, 227, 228, 229, 230, 231, 232, 233, 234, 235, 76, 236, 237, 238, 239, 78, 79, 407, 280, 281, 282, 64, 283, 284, 285, 286, 80, 81, 287, 288, 289, 290, 291, 142, 143, 11, 144, 38, 41, 292, 168, 169, 40, 170, 52, 293, 294, 295, 296, 297, 177, 178, 179, 54, 298, 299, 300, 301, 302, 303, 304, 305, 306, 307, 308, 309, 310, 311, 312, 313, 84, 314, 315, 316, 317, 318, 319, 320, 321, 322, 323, 324, 325, 326, 327, 328, 329, 330, 331, 332, 333, 334, 335, 336, 45, 46, 337, 338, 339, 340, 341, 342, 343, 344, 345, 346, 347, 348, 349, 350, 351, 352, 82, 83, 353, 354, 355, 356, 357, 358, 359, 360, 361, 362, 363, 364, 49, 365, 366, 367, 368, 369, 370, 371, 372, 373, 374, 375, 376, 377, 378, 379, 380, 381, 47, 382, 383, 384, 385, 478, 479, 480, 481, 482, 483, 484, 485, 498, 499, 500, 489, 490, 491, 516, 517, 518, 519, 520, 521, 522, 523, 524, 525, 526, 527, 528, 529, 530, 531, 492, 493, 494, 495, 496, 497, 486, 487, 488, 508, 509, 510, 511, 512, 513, 514, 515] (by decide +kernel) (by decide +kernel)) (goodIn_sub (fun _ h => List.mem_append_right _ h) (by decide +kernel))) (goodIn_sub (fun _ h => List.mem_append_left _ (List.mem_append_right _ h)) (by decide +kernel))
set_option maxRecDepth 20000 in
theorem gL_law_L_isSo : GoodIn wsL_law (va_wsS RL 58 yL_isSo wsL_isSo) := goodIn_app (goodIn_of _ (by decide +kernel)) ggL_law_L_isSo
set_option maxRecDepth 20000 in
theorem ggL_law_L_arePlaced : GoodIn wsL_law wsL_arePlaced := goodIn_ca (goodIn_ca (goodIn_r _ [410, 244, 245, 246, 2, 247, 26, 17, 248, 249, 250, 161, 162, 132, 133, 134, 135, 136, 251, 252, 253, 25, 254, 98, 99, 255, 256, 257, 16, 258, 62, 63, 259, 260, 261, 61, 262, 69, 70, 71, 72, 74, 75, 77, 73, 478, 479, 480, 481, 482, 483, 484, 485, 498, 499, 500, 489, 490, 491, 516, 517, 518, 519, 520, 521, 522, 523, 524, 525, 526, 527, 528, 529, 530, 531] (by decide +kernel) (by decide +kernel)) (goodIn_sub (fun _ h => List.mem_append_right _ h) (by decide +kernel))) (goodIn_sub (fun _ h => List.mem_append_left _ (List.mem_append_right _ h)) (by decide +kernel))
set_option maxRecDepth 20000 in
theorem gL_law_L_arePlaced : GoodIn wsL_law (va_wsS RL 62 yL_arePlaced wsL_arePlaced) := goodIn_app (goodIn_of _ (by decide +kernel)) ggL_law_L_arePlaced
set_option maxRecDepth 20000 in
theorem ggL_law_X7_again : GoodIn wsL_law wsX7_again := goodIn_ca (goodIn_ca (goodIn_r _ [401, 161, 162, 26, 188, 22, 270, 18, 248, 249, 2, 250, 132, 133, 134, 135, 136, 402, 403, 404, 21, 405, 88, 92, 93, 406, 217, 218, 219, 89, 90, 91, 220, 221, 222, 16, 223, 62, 63, 224, 225, 226, 61, 227, 69, 71, 70, 73, 228, 229, 230, 231, 72, 77, 232, 233, 234, 235, 74, 75, 76, 236, 237, 238, 239, 78, 79, 407, 280, 281, 282, 64, 283, 284, 285, 286, 80, 81, 287, 288, 289, 290, 291, 142, 143, 11, 144, 38, 41, 292, 168, 169, 40, 170, 52, 293, 294, 295, 296, 297, 177, 178, 179, 54, 298, 299, 300, 301, 302, 303, 304, 305, 306, 307, 308, 309, 310, 311, 312, 313, 84, 314, 315, 316, 317, 318, 319, 320, 321, 322, 323, 324, 325, 326, 327, 328, 329, 330, 331, 332, 333, 334, 335, 336, 45, 46, 337, 338, 339, 340, 341, 342, 343, 344, 345, 346, 347, 348, 349, 350, 351, 352, 82, 83, 353, 354, 355, 356, 357, 358, 359, 360, 361, 362, 363, 364, 49, 365, 366, 367, 368, 369, 370, 371, 372, 373, 374, 375, 376, 377, 378, 379, 380, 381, 47, 382, 383, 384, 385, 255, 256, 257, 258, 259, 260, 261, 262, 478, 479, 480, 481, 482, 483, 484, 485, 498, 499, 500, 492, 493, 494, 495, 496, 497, 489, 490, 491, 516, 517, 518, 519, 520, 521, 522, 523, 524, 525, 526, 527, 528, 529, 530, 531, 486, 487, 488, 508, 509, 510, 511, 512, 513, 514, 515] (by decide +kernel) (by decide +kernel)) (goodIn_sub (fun _ h => List.mem_append_right _ h) (by decide +kernel))) (goodIn_sub (fun _ h => List.mem_append_left _ (List.mem_append_right _ h)) (by decide +kernel))
set_option maxRecDepth 20000 in
theorem gL_law_X7_again : GoodIn wsL_law (wsV RL 36 RX7 yX7_again wsX7_again) := goodIn_app (goodIn_of _ (by decide +kernel)) ggL_law_X7_again
set_option maxRecDepth 20000 in
theorem ggL_law_X7_winner : GoodIn wsL_law wsX7_winner := goodIn_r _ [414, 26, 192, 193, 194, 25, 195, 98, 99, 478, 479, 480, 481, 482, 483, 484, 485, 498, 499, 500] (by decide +kernel) (by decide +kernel)
set_option maxRecDepth 20000 in
theorem gL_law_X7_winner : GoodIn wsL_law (wsV RL 66 RX7 yX7_winner wsX7_winner) := goodIn_app (goodIn_of _ (by decide +kernel)) ggL_law_X7_winner
set_option maxRecDepth 20000 in
theorem ggL_law_X7_most : GoodIn wsL_law wsX7_most := goodIn_ca (goodIn_ca (goodIn_r _ [418, 30, 419, 157, 158, 159, 2, 160, 161, 162, 12, 163, 164, 165, 11, 166, 36, 132, 133, 134, 135, 136, 420, 421, 422, 29, 423, 104, 109, 106, 424, 221, 222, 16, 223, 62, 63, 224, 225, 226, 61, 227, 69, 71, 70, 73, 228, 229, 230, 231, 72, 77, 232, 233, 234, 235, 74, 75, 76, 236, 237, 238, 239, 78, 79, 425, 426, 107, 427, 428, 110, 429, 430, 431, 432, 433, 434, 435, 436, 437, 438, 439, 440, 441, 442, 443, 444, 445, 446, 280, 281, 282, 64, 283, 284, 285, 286, 80, 81, 287, 288, 289, 290, 291, 142, 143, 144, 38, 41, 292, 168, 169, 40, 170, 52, 293, 294, 295, 296, 297, 177, 178, 179, 54, 298, 299, 300, 301, 302, 303, 304, 305, 306, 307, 308, 309, 310, 311, 312, 313, 84, 314, 315, 316, 317, 318, 319, 320, 321, 322, 323, 324, 325, 326, 327, 328, 329, 330, 331, 332, 333, 334, 335, 336, 45, 46, 337, 338, 339, 340, 341, 342, 343, 344, 345, 346, 347, 348, 349, 350, 351, 352, 82, 83, 353, 354, 355, 356, 357, 358, 359, 360, 361, 362, 363, 364, 49, 365, 366, 367, 368, 369, 370, 371, 372, 373, 374, 375, 376, 377, 378, 379, 380, 381, 47, 382, 383, 384, 385, 447, 448, 449, 450, 108, 451, 209, 210, 211, 452, 478, 479, 480, 481, 482, 483, 484, 485, 501, 502, 503, 504, 505, 506, 507, 486, 487, 488, 489, 490, 491, 516, 517, 518, 519, 520, 521, 522, 523, 524, 525, 526, 527, 528, 529, 530, 531, 508, 509, 510, 511, 512, 513, 514, 515] (by decide +kernel) (by decide +kernel)) (goodIn_sub (fun _ h => List.mem_append_right _ h) (by decide +kernel))) (goodIn_sub (fun _ h => List.mem_append_left _ (List.mem_append_right _ h)) (by decide +kernel))
set_option maxRecDepth 20000 in
theorem gL_law_X7_most : GoodIn wsL_law (wsV RL 70 RX7 yX7_most wsX7_most) := goodIn_app (goodIn_of _ (by decide +kernel)) ggL_law_X7_most
set_option maxRecDepth 20000 in
theorem ggL_law_X7_mostAt : GoodIn wsL_law wsX7_mostAt := goodIn_ca (goodIn_ca (goodIn_r _ [456, 161, 162, 30, 157, 158, 159, 2, 160, 12, 163, 164, 165, 11, 166, 36, 132, 133, 134, 135, 136, 420, 421, 422, 29, 423, 104, 109, 106, 424, 221, 222, 16, 223, 62, 63, 224, 225, 226, 61, 227, 69, 71, 70, 73, 228, 229, 230, 231, 72, 77, 232, 233, 234, 235, 74, 75, 76, 236, 237, 238, 239, 78, 79, 425, 426, 107, 427, 428, 110, 429, 430, 431, 432, 433, 434, 435, 436, 437, 438, 439, 440, 441, 442, 443, 444, 445, 446, 280, 281, 282, 64, 283, 284, 285, 286, 80, 81, 287, 288, 289, 290, 291, 142, 143, 144, 38, 41, 292, 168, 169, 40, 170, 52, 293, 294, 295, 296, 297, 177, 178, 179, 54, 298, 299, 300, 301, 302, 303, 304, 305, 306, 307, 308, 309, 310, 311, 312, 313, 84, 314, 315, 316, 317, 318, 319, 320, 321, 322, 323, 324, 325, 326, 327, 328, 329, 330, 331, 332, 333, 334, 335, 336, 45, 46, 337, 338, 339, 340, 341, 342, 343, 344, 345, 346, 347, 348, 349, 350, 351, 352, 82, 83, 353, 354, 355, 356, 357, 358, 359, 360, 361, 362, 363, 364, 49, 365, 366, 367, 368, 369, 370, 371, 372, 373, 374, 375, 376, 377, 378, 379, 380, 381, 47, 382, 383, 384, 385, 447, 448, 449, 450, 108, 451, 209, 210, 211, 452, 457, 458, 459, 460, 478, 479, 480, 481, 482, 483, 484, 485, 486, 487, 488, 501, 502, 503, 504, 505, 506, 507, 489, 490, 491, 516, 517, 518, 519, 520, 521, 522, 523, 524, 525, 526, 527, 528, 529, 530, 531, 508, 509, 510, 511, 512, 513, 514, 515] (by decide +kernel) (by decide +kernel)) (goodIn_sub (fun _ h => List.mem_append_right _ h) (by decide +kernel))) (goodIn_sub (fun _ h => List.mem_append_left _ (List.mem_append_right _ h)) (by decide +kernel))
set_option maxRecDepth 20000 in
theorem gL_law_X7_mostAt : GoodIn wsL_law (wsV RL 73 RX7 yX7_mostAt wsX7_mostAt) := goodIn_app (goodIn_of _ (by decide +kernel)) ggL_law_X7_mostAt
set_option maxRecDepth 20000 in
theorem ggL_law_X7_punish : GoodIn wsL_law wsX7_punish := goodIn_ca (goodIn_r _ [464, 30, 465, 308, 305, 309, 157, 158, 159, 2, 160, 161, 162, 12, 163, 164, 165, 11, 166, 36, 466, 467, 468, 29, 469, 111, 427, 470, 442, 428, 424, 221, 222, 16, 223, 62, 63, 224, 225, 226, 61, 227, 69, 71, 70, 73, 228, 229, 230, 231, 72, 77, 232, 233, 234, 235, 74, 75, 76, 236, 237, 238, 239, 78, 79, 471, 472, 473, 474, 110, 475, 476, 477, 142, 143, 144, 38, 41, 444, 445, 446, 280, 281, 282, 64, 283, 284, 285, 286, 80, 81, 287, 288, 289, 290, 291, 292, 168, 169, 40, 170, 52, 293, 294, 295, 296, 297, 177, 178, 179, 54, 298, 299, 300, 301, 302, 303, 304, 306, 307, 310, 311, 312, 313, 84, 314, 315, 316, 317, 318, 319, 320, 321, 322, 323, 324, 325, 326, 327, 328, 329, 330, 331, 332, 333, 334, 335, 336, 45, 46, 337, 338, 339, 340, 341, 342, 343, 344, 345, 346, 347, 348, 349, 350, 351, 352, 82, 83, 353, 354, 355, 356, 357, 358, 359, 360, 361, 362, 363, 364, 49, 365, 366, 367, 368, 369, 370, 371, 372, 373, 374, 375, 376, 377, 378, 379, 380, 381, 47, 382, 383, 384, 385, 478, 479, 480, 481, 482, 483, 484, 485, 486, 487, 488, 501, 502, 503, 504, 505, 506, 507, 489, 490, 491, 516, 517, 518, 519, 520, 521, 522, 523, 524, 525, 526, 527, 528, 529, 530, 531, 508, 509, 510, 511, 512, 513, 514, 515] (by decide +kernel) (by decide +kernel)) (goodIn_sub (fun _ h => List.mem_append_right _ h) (by decide +kernel))
set_option maxRecDepth 20000 in
theorem gL_law_X7_punish : GoodIn wsL_law (wsV RL 77 RX7 yX7_punish wsX7_punish) := goodIn_app (goodIn_of _ (by decide +kernel)) ggL_law_X7_punish
theorem dL_law_0 : decode cL_law 0 = .ok (.new 18, 3) := by decide +kernel
theorem dL_law_3 : decode cL_law 3 = .ok (.dup, 1) := by decide +kernel
theorem dL_law_4 : decode cL_law 4 = .ok (.invokespecial 39, 3) := by decide +kernel
theorem dL_law_7 : decode cL_law 7 = .ok (.astore_n 1, 1) := by decide +kernel
theorem dL_law_8 : decode cL_law 8 = .ok (.iconst 1, 1) := by decide +kernel
theorem dL_law_9 : decode cL_law 9 = .ok (.aload_n 0, 1) := by decide +kernel
theorem dL_law_10 : decode cL_law 10 = .ok (.bipush 30, 2) := by decide +kernel
theorem dL_law_12 : decode cL_law 12 = .ok (.invokestatic 9, 3) := by decide +kernel
theorem dL_law_15 : decode cL_law 15 = .ok (.iconst 4, 1) := by decide +kernel
theorem dL_law_16 : decode cL_law 16 = .ok (.irem, 1) := by decide +kernel
theorem dL_law_17 : decode cL_law 17 = .ok (.iadd, 1) := by decide +kernel
theorem dL_law_18 : decode cL_law 18 = .ok (.istore_n 2, 1) := by decide +kernel
theorem dL_law_19 : decode cL_law 19 = .ok (.aload_n 1, 1) := by decide +kernel
theorem dL_law_20 : decode cL_law 20 = .ok (.aload_n 0, 1) := by decide +kernel
theorem dL_law_21 : decode cL_law 21 = .ok (.iload_n 2, 1) := by decide +kernel
theorem dL_law_22 : decode cL_law 22 = .ok (.invokestatic 40, 3) := by decide +kernel
theorem dL_law_25 : decode cL_law 25 = .ok (.ifCond .eq 30, 3) := by decide +kernel
theorem dL_law_28 : decode cL_law 28 = .ok (.aload_n 1, 1) := by decide +kernel
theorem dL_law_29 : decode cL_law 29 = .ok (.bipush 20, 2) := by decide +kernel
theorem dL_law_31 : decode cL_law 31 = .ok (.iconst 2, 1) := by decide +kernel
theorem dL_law_32 : decode cL_law 32 = .ok (.aload_n 0, 1) := by decide +kernel
theorem dL_law_33 : decode cL_law 33 = .ok (.bipush 31, 2) := by decide +kernel
theorem dL_law_35 : decode cL_law 35 = .ok (.invokestatic 9, 3) := by decide +kernel
theorem dL_law_38 : decode cL_law 38 = .ok (.sipush 141, 3) := by decide +kernel
theorem dL_law_41 : decode cL_law 41 = .ok (.irem, 1) := by decide +kernel
theorem dL_law_42 : decode cL_law 42 = .ok (.imul, 1) := by decide +kernel
theorem dL_law_43 : decode cL_law 43 = .ok (.iadd, 1) := by decide +kernel
theorem dL_law_44 : decode cL_law 44 = .ok (.invokevirtual 44, 3) := by decide +kernel
theorem dL_law_47 : decode cL_law 47 = .ok (.iconst 1, 1) := by decide +kernel
theorem dL_law_48 : decode cL_law 48 = .ok (.if_icmp .ne 7, 3) := by decide +kernel
theorem dL_law_51 : decode cL_law 51 = .ok (.iconst 1, 1) := by decide +kernel
theorem dL_law_52 : decode cL_law 52 = .ok (.goto 4, 3) := by decide +kernel
theorem dL_law_55 : decode cL_law 55 = .ok (.iconst 0, 1) := by decide +kernel
theorem dL_law_56 : decode cL_law 56 = .ok (.istore_n 3, 1) := by decide +kernel
theorem dL_law_57 : decode cL_law 57 = .ok (.iconst 0, 1) := by decide +kernel
theorem dL_law_58 : decode cL_law 58 = .ok (.istore 4, 2) := by decide +kernel
theorem dL_law_60 : decode cL_law 60 = .ok (.iconst 0, 1) := by decide +kernel
theorem dL_law_61 : decode cL_law 61 = .ok (.istore 5, 2) := by decide +kernel
theorem dL_law_63 : decode cL_law 63 = .ok (.iconst 0, 1) := by decide +kernel
theorem dL_law_64 : decode cL_law 64 = .ok (.istore 6, 2) := by decide +kernel
theorem dL_law_66 : decode cL_law 66 = .ok (.iconst 0, 1) := by decide +kernel
theorem dL_law_67 : decode cL_law 67 = .ok (.istore 7, 2) := by decide +kernel
theorem dL_law_69 : decode cL_law 69 = .ok (.iload 7, 2) := by decide +kernel
theorem dL_law_71 : decode cL_law 71 = .ok (.bipush 40, 2) := by decide +kernel
theorem dL_law_73 : decode cL_law 73 = .ok (.if_icmp .ge 334, 3) := by decide +kernel
theorem dL_law_76 : decode cL_law 76 = .ok (.iload_n 3, 1) := by decide +kernel
theorem dL_law_77 : decode cL_law 77 = .ok (.ifCond .eq 330, 3) := by decide +kernel
theorem dL_law_80 : decode cL_law 80 = .ok (.aload_n 0, 1) := by decide +kernel
theorem dL_law_81 : decode cL_law 81 = .ok (.bipush 32, 2) := by decide +kernel
theorem dL_law_83 : decode cL_law 83 = .ok (.iload 7, 2) := by decide +kernel
theorem dL_law_85 : decode cL_law 85 = .ok (.iadd, 1) := by decide +kernel
theorem dL_law_86 : decode cL_law 86 = .ok (.invokestatic 9, 3) := by decide +kernel
theorem dL_law_89 : decode cL_law 89 = .ok (.istore 8, 2) := by decide +kernel
theorem dL_law_91 : decode cL_law 91 = .ok (.aload_n 1, 1) := by decide +kernel
theorem dL_law_92 : decode cL_law 92 = .ok (.invokevirtual 48, 3) := by decide +kernel
theorem dL_law_95 : decode cL_law 95 = .ok (.ifCond .ne 87, 3) := by decide +kernel
theorem dL_law_98 : decode cL_law 98 = .ok (.aload_n 1, 1) := by decide +kernel
theorem dL_law_99 : decode cL_law 99 = .ok (.iconst 0, 1) := by decide +kernel
theorem dL_law_100 : decode cL_law 100 = .ok (.bipush 7, 2) := by decide +kernel
theorem dL_law_102 : decode cL_law 102 = .ok (.invokevirtual 32, 3) := by decide +kernel
theorem dL_law_105 : decode cL_law 105 = .ok (.aload_n 1, 1) := by decide +kernel
theorem dL_law_106 : decode cL_law 106 = .ok (.iconst 1, 1) := by decide +kernel
theorem dL_law_107 : decode cL_law 107 = .ok (.bipush 7, 2) := by decide +kernel
theorem dL_law_109 : decode cL_law 109 = .ok (.invokevirtual 32, 3) := by decide +kernel
