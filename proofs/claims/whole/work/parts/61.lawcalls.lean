set_option maxRecDepth 20000 in
theorem ggL_law_X4_init : GoodIn wsL_law wsX4_init := goodIn_r _ [10, 11, 12, 13, 14, 15, 16, 17, 18, 19, 20, 21, 22, 23, 24, 25, 26, 27, 28, 29, 30, 31, 32, 33, 34, 35, 36, 37, 38, 39, 40, 41, 42, 43, 44, 45, 46, 47, 48, 49, 50, 51, 52, 53, 6, 54, 55, 56, 57, 58, 59, 60, 61, 62, 63, 64, 65, 66, 67, 68, 69, 70, 71, 72, 73, 74, 75, 76, 77, 78, 79, 80, 81, 82, 83, 84, 85, 86, 87, 88, 89, 90, 91, 92, 93, 94, 95, 96, 97, 98, 99, 100, 101, 102, 103, 104, 105, 106, 107, 108, 109, 110, 111, 112, 113, 114, 115, 116, 117, 118, 758, 759, 731, 732, 733, 734, 735, 760, 761, 762, 763, 764, 765, 766, 767, 768, 769, 770, 771, 772, 773, 774, 775, 776, 777, 778, 779, 780] (by decide +kernel) (by decide +kernel)
set_option maxRecDepth 20000 in
theorem gL_law_X4_init : GoodIn wsL_law (wsX4_init) := ggL_law_X4_init
set_option maxRecDepth 20000 in
theorem ggL_law_X5_init : GoodIn wsL_law wsX5_init := goodIn_r _ [121, 122, 12, 13, 36, 123, 124, 125, 126, 127, 128, 129, 130, 131, 132, 133, 134, 135, 136, 137, 5, 138, 139, 140, 141, 736, 737, 738, 739, 740, 741, 742, 743, 744, 745, 746, 747, 748, 749, 750, 751, 752, 753, 754, 755, 756, 757] (by decide +kernel) (by decide +kernel)
set_option maxRecDepth 20000 in
theorem gL_law_X5_init : GoodIn wsL_law (wsX5_init) := ggL_law_X5_init
set_option maxRecDepth 20000 in
theorem ggL_law_L_addModel : GoodIn wsL_law wsL_addModel := goodIn_ca (goodIn_ca (goodIn_r _ [145, 146, 147, 148, 149, 150, 2, 151, 152, 153, 154, 155, 23, 156, 157, 158, 159, 160, 161, 162, 22, 163, 47, 44, 164, 165, 166, 46, 167, 85, 168, 102, 56, 57, 58, 59, 48, 60, 61, 62, 63, 64, 65, 66, 67, 53, 54, 55, 68, 69, 70, 71, 72, 73, 74, 75, 76, 77, 78, 79, 80, 81, 82, 83, 84, 86, 87, 88, 89, 90, 91, 92, 93, 94, 95, 96, 97, 98, 99, 100, 101, 103, 104, 34, 105, 731, 732, 733, 734, 735, 760, 761, 762, 763, 764, 765, 766, 771, 772, 773, 774, 775, 776, 777, 778, 779, 780] (by decide +kernel) (by decide +kernel)) (goodIn_sub (fun _ h => List.mem_append_left _ (List.mem_append_left _ (List.mem_append_right _ h))) (by decide +kernel))) (goodIn_sub (fun _ h => List.mem_append_left _ (List.mem_append_right _ h)) (by decide +kernel))
set_option maxRecDepth 20000 in
theorem gL_law_L_addModel : GoodIn wsL_law (va_wsS RL 78 yL_addModel wsL_addModel) := goodIn_app (goodIn_of _ (by decide +kernel)) ggL_law_L_addModel
set_option maxRecDepth 20000 in
theorem ggL_law_X5_addModel : GoodIn wsL_law wsX5_addModel := goodIn_r _ [172, 173, 174, 123, 124, 125, 175, 176, 5, 177, 178, 179, 180, 181, 135, 136, 137, 138, 127, 129, 130, 131, 132, 139, 140, 141, 736, 737, 738, 739, 740, 741, 742, 743, 744, 745, 746, 747, 748, 749, 750, 751, 752, 753, 754, 755, 756, 757] (by decide +kernel) (by decide +kernel)
set_option maxRecDepth 20000 in
theorem gL_law_X5_addModel : GoodIn wsL_law (wsV RL 83 RX5 yX5_addModel wsX5_addModel) := goodIn_app (goodIn_of _ (by decide +kernel)) ggL_law_X5_addModel
set_option maxRecDepth 20000 in
theorem ggL_law_X5_thrown : GoodIn wsL_law wsX5_thrown := goodIn_r _ [185, 173, 736, 737, 738, 739, 740, 741, 742, 743, 744, 745, 746, 747, 748, 749, 750, 751, 752, 753, 754, 755, 756, 757] (by decide +kernel) (by decide +kernel)
set_option maxRecDepth 20000 in
theorem gL_law_X5_thrown : GoodIn wsL_law (wsV RL 84 RX5 yX5_thrown wsX5_thrown) := goodIn_app (goodIn_of _ (by decide +kernel)) ggL_law_X5_thrown
set_option maxRecDepth 20000 in
theorem ggL_law_L_removeModel : GoodIn wsL_law wsL_removeModel := goodIn_ca (goodIn_r _ [188, 147, 189, 190, 191, 2, 192, 154, 155, 23, 156, 193, 194, 195, 22, 196, 47, 56, 57, 58, 59, 44, 48, 60, 61, 62, 63, 64, 65, 66, 46, 67, 53, 54, 55, 68, 69, 70, 71, 72, 73, 74, 75, 76, 77, 78, 79, 80, 81, 82, 83, 84, 85, 86, 87, 88, 89, 90, 91, 92, 93, 94, 95, 96, 97, 98, 99, 100, 101, 102, 103, 104, 34, 105, 731, 732, 733, 734, 735, 760, 761, 762, 763, 764, 765, 766, 771, 772, 773, 774, 775, 776, 777, 778, 779, 780] (by decide +kernel) (by decide +kernel)) (goodIn_sub (fun _ h => List.mem_append_left _ (List.mem_append_right _ h)) (by decide +kernel))
set_option maxRecDepth 20000 in
theorem gL_law_L_removeModel : GoodIn wsL_law (va_wsS RL 87 yL_removeModel wsL_removeModel) := goodIn_app (goodIn_of _ (by decide +kernel)) ggL_law_L_removeModel
set_option maxRecDepth 20000 in
theorem ggL_law_X5_removeModel : GoodIn wsL_law wsX5_removeModel := goodIn_r _ [200, 173, 174, 178, 179, 180, 5, 181, 135, 136, 137, 138, 127, 129, 130, 131, 132, 139, 140, 141, 736, 737, 738, 739, 740, 741, 742, 743, 744, 745, 746, 747, 748, 749, 750, 751, 752, 753, 754, 755, 756, 757] (by decide +kernel) (by decide +kernel)
set_option maxRecDepth 20000 in
theorem gL_law_X5_removeModel : GoodIn wsL_law (wsV RL 90 RX5 yX5_removeModel wsX5_removeModel) := goodIn_app (goodIn_of _ (by decide +kernel)) ggL_law_X5_removeModel
set_option maxRecDepth 20000 in
theorem ggL_law_L_setRate : GoodIn wsL_law wsL_setRate := goodIn_ca (goodIn_ca (goodIn_r _ [203, 204, 146, 205, 206, 207, 2, 208, 209, 23, 210, 211, 212, 213, 214, 215, 156, 216, 157, 158, 159, 152, 153, 217, 57, 58, 22, 59, 47, 44, 48, 60, 61, 62, 63, 64, 65, 66, 46, 67, 53, 54, 55, 68, 69, 70, 71, 72, 73, 74, 75, 76, 77, 78, 79, 80, 81, 82, 83, 84, 85, 86, 87, 88, 89, 90, 91, 92, 93, 94, 95, 96, 97, 98, 99, 100, 101, 102, 103, 104, 34, 105, 771, 772, 773, 774, 775, 776, 777, 778, 779, 780, 731, 732, 733, 734, 735, 760, 761, 762, 763, 764, 765, 766] (by decide +kernel) (by decide +kernel)) (goodIn_sub (fun _ h => List.mem_append_right _ h) (by decide +kernel))) (goodIn_sub (fun _ h => List.mem_append_left _ (List.mem_append_left _ (List.mem_append_right _ h))) (by decide +kernel))
set_option maxRecDepth 20000 in
theorem gL_law_L_setRate : GoodIn wsL_law (va_wsS RL 91 yL_setRate wsL_setRate) := goodIn_app (goodIn_of _ (by decide +kernel)) ggL_law_L_setRate
set_option maxRecDepth 20000 in
theorem ggL_law_X5_setRate : GoodIn wsL_law wsX5_setRate := goodIn_r _ [221, 173, 124, 222, 223, 224, 5, 225, 174, 175, 176, 177, 178, 179, 180, 181, 135, 136, 137, 138, 127, 129, 130, 131, 132, 139, 140, 141, 736, 737, 738, 739, 740, 741, 742, 743, 744, 745, 746, 747, 748, 749, 750, 751, 752, 753, 754, 755, 756, 757] (by decide +kernel) (by decide +kernel)
set_option maxRecDepth 20000 in
theorem gL_law_X5_setRate : GoodIn wsL_law (wsV RL 94 RX5 yX5_setRate wsX5_setRate) := goodIn_app (goodIn_of _ (by decide +kernel)) ggL_law_X5_setRate
set_option maxRecDepth 20000 in
theorem ggL_law_X4_modelCount : GoodIn wsL_law wsX4_modelCount := goodIn_r _ [229, 23, 156, 731, 732, 733, 734, 735, 760, 761, 762, 763, 764, 765, 766] (by decide +kernel) (by decide +kernel)
set_option maxRecDepth 20000 in
theorem gL_law_X4_modelCount : GoodIn wsL_law (wsV RL 95 RX4 yX4_modelCount wsX4_modelCount) := goodIn_app (goodIn_of _ (by decide +kernel)) ggL_law_X4_modelCount
set_option maxRecDepth 20000 in
theorem ggL_law_X5_modelCount : GoodIn wsL_law wsX5_modelCount := goodIn_r _ [233, 173, 174, 736, 737, 738, 739, 740, 741, 742, 743, 744, 745, 746, 747, 748, 749, 750, 751, 752, 753, 754, 755, 756, 757] (by decide +kernel) (by decide +kernel)
set_option maxRecDepth 20000 in
theorem gL_law_X5_modelCount : GoodIn wsL_law (wsV RL 98 RX5 yX5_modelCount wsX5_modelCount) := goodIn_app (goodIn_of _ (by decide +kernel)) ggL_law_X5_modelCount
set_option maxRecDepth 20000 in
theorem ggL_law_L_feed : GoodIn wsL_law wsL_feed := goodIn_ca (goodIn_ca (goodIn_r _ [236, 146, 147, 237, 238, 239, 2, 240, 152, 153, 17, 241, 242, 243, 244, 245, 154, 155, 246, 247, 248, 16, 249, 38, 37, 731, 732, 733, 734, 735, 758, 759] (by decide +kernel) (by decide +kernel)) (goodIn_sub (fun _ h => List.mem_append_left _ (List.mem_append_left _ (List.mem_append_right _ h))) (by decide +kernel))) (goodIn_sub (fun _ h => List.mem_append_left _ (List.mem_append_right _ h)) (by decide +kernel))
set_option maxRecDepth 20000 in
theorem gL_law_L_feed : GoodIn wsL_law (va_wsS RL 101 yL_feed wsL_feed) := goodIn_app (goodIn_of _ (by decide +kernel)) ggL_law_L_feed
set_option maxRecDepth 20000 in
theorem ggL_law_X5_feed : GoodIn wsL_law wsX5_feed := goodIn_r _ [253, 173, 254, 126, 255, 175, 176, 5, 177, 178, 179, 180, 181, 736, 737, 738, 739, 740, 741, 742, 743, 744, 745, 746, 747, 748, 749, 750, 751, 752, 753, 754, 755, 756, 757] (by decide +kernel) (by decide +kernel)
set_option maxRecDepth 20000 in
theorem gL_law_X5_feed : GoodIn wsL_law (wsV RL 104 RX5 yX5_feed wsX5_feed) := goodIn_app (goodIn_of _ (by decide +kernel)) ggL_law_X5_feed
set_option maxRecDepth 20000 in
theorem ggL_law_L_fill : GoodIn wsL_law wsL_fill := goodIn_ca (goodIn_ca (goodIn_r _ [258, 146, 147, 259, 260, 261, 2, 262, 152, 153, 17, 241, 263, 264, 265, 242, 243, 244, 245, 154, 155, 246, 247, 248, 16, 249, 38, 37, 731, 732, 733, 734, 735, 758, 759] (by decide +kernel) (by decide +kernel)) (goodIn_sub (fun _ h => List.mem_append_left _ (List.mem_append_left _ (List.mem_append_right _ h))) (by decide +kernel))) (goodIn_sub (fun _ h => List.mem_append_left _ (List.mem_append_right _ h)) (by decide +kernel))
set_option maxRecDepth 20000 in
theorem gL_law_L_fill : GoodIn wsL_law (va_wsS RL 105 yL_fill wsL_fill) := goodIn_app (goodIn_of _ (by decide +kernel)) ggL_law_L_fill
set_option maxRecDepth 20000 in
theorem ggL_law_X5_fill : GoodIn wsL_law wsX5_fill := goodIn_r _ [269, 173, 254, 126, 175, 176, 5, 177, 178, 179, 180, 181, 736, 737, 738, 739, 740, 741, 742, 743, 744, 745, 746, 747, 748, 749, 750, 751, 752, 753, 754, 755, 756, 757] (by decide +kernel) (by decide +kernel)
set_option maxRecDepth 20000 in
theorem gL_law_X5_fill : GoodIn wsL_law (wsV RL 107 RX5 yX5_fill wsX5_fill) := goodIn_app (goodIn_of _ (by decide +kernel)) ggL_law_X5_fill
set_option maxRecDepth 20000 in
theorem ggL_law_L_cut : GoodIn wsL_law wsL_cut := goodIn_ca (goodIn_r _ [272, 146, 273, 274, 275, 2, 276, 17, 277, 278, 279, 152, 153, 241, 731, 732, 733, 734, 735, 758, 759] (by decide +kernel) (by decide +kernel)) (goodIn_sub (fun _ h => List.mem_append_left _ (List.mem_append_left _ (List.mem_append_right _ h))) (by decide +kernel))
set_option maxRecDepth 20000 in
theorem gL_law_L_cut : GoodIn wsL_law (va_wsS RL 108 yL_cut wsL_cut) := goodIn_app (goodIn_of _ (by decide +kernel)) ggL_law_L_cut
set_option maxRecDepth 20000 in
theorem ggL_law_X5_cut : GoodIn wsL_law wsX5_cut := goodIn_r _ [283, 173, 254, 175, 176, 5, 177, 178, 179, 180, 181, 736, 737, 738, 739, 740, 741, 742, 743, 744, 745, 746, 747, 748, 749, 750, 751, 752, 753, 754, 755, 756, 757] (by decide +kernel) (by decide +kernel)
set_option maxRecDepth 20000 in
theorem gL_law_X5_cut : GoodIn wsL_law (wsV RL 111 RX5 yX5_cut wsX5_cut) := goodIn_app (goodIn_of _ (by decide +kernel)) ggL_law_X5_cut
set_option maxRecDepth 20000 in
theorem ggL_law_X4_size : GoodIn wsL_law wsX4_size := goodIn_r _ [287, 17, 241, 731, 732, 733, 734, 735, 758, 759] (by decide +kernel) (by decide +kernel)
set_option maxRecDepth 20000 in
theorem gL_law_X4_size : GoodIn wsL_law (wsV RL 112 RX4 yX4_size wsX4_size) := goodIn_app (goodIn_of _ (by decide +kernel)) ggL_law_X4_size
set_option maxRecDepth 20000 in
theorem ggL_law_X5_size : GoodIn wsL_law wsX5_size := goodIn_r _ [291, 173, 254, 736, 737, 738, 739, 740, 741, 742, 743, 744, 745, 746, 747, 748, 749, 750, 751, 752, 753, 754, 755, 756, 757] (by decide +kernel) (by decide +kernel)
set_option maxRecDepth 20000 in
theorem gL_law_X5_size : GoodIn wsL_law (wsV RL 115 RX5 yX5_size wsX5_size) := goodIn_app (goodIn_of _ (by decide +kernel)) ggL_law_X5_size
set_option maxRecDepth 20000 in
theorem ggL_law_L_byteAt : GoodIn wsL_law wsL_byteAt := goodIn_ca (goodIn_r _ [294, 204, 295, 296, 297, 2, 298, 17, 299, 300, 301, 214, 215, 302, 303, 304, 16, 305, 38, 37, 306, 307, 308, 309, 310, 731, 732, 733, 734, 735, 758, 759] (by decide +kernel) (by decide +kernel)) (goodIn_sub (fun _ h => List.mem_append_right _ h) (by decide +kernel))
set_option maxRecDepth 20000 in
theorem gL_law_L_byteAt : GoodIn wsL_law (va_wsS RL 116 yL_byteAt wsL_byteAt) := goodIn_app (goodIn_of _ (by decide +kernel)) ggL_law_L_byteAt
set_option maxRecDepth 20000 in
theorem ggL_law_X5_byteAt : GoodIn wsL_law wsX5_byteAt := goodIn_r _ [314, 173, 254, 126, 175, 176, 5, 177, 178, 179, 180, 181, 736, 737, 738, 739, 740, 741, 742, 743, 744, 745, 746, 747, 748, 749, 750, 751, 752, 753, 754, 755, 756, 757] (by decide +kernel) (by decide +kernel)
set_option maxRecDepth 20000 in
theorem gL_law_X5_byteAt : GoodIn wsL_law (wsV RL 118 RX5 yX5_byteAt wsX5_byteAt) := goodIn_app (goodIn_of _ (by decide +kernel)) ggL_law_X5_byteAt
set_option maxRecDepth 20000 in
theorem ggL_law_X4_reset : GoodIn wsL_law wsX4_reset := goodIn_r _ [318, 23, 319, 217, 57, 58, 22, 59, 47, 44, 48, 60, 61, 62, 63, 64, 65, 66, 46, 67, 53, 54, 55, 68, 69, 70, 71, 72, 73, 74, 75, 76, 77, 78, 79, 80, 81, 82, 83, 84, 85, 86, 87, 88, 89, 90, 91, 92, 93, 94, 95, 96, 97, 98, 99, 100, 101, 102, 103, 104, 34, 105, 731, 732, 733, 734, 735, 760, 761, 762, 763, 764, 765, 766, 771, 772, 773, 774, 775, 776, 777, 778, 779, 780] (by decide +kernel) (by decide +kernel)
set_option maxRecDepth 20000 in
theorem gL_law_X4_reset : GoodIn wsL_law (wsV RL 119 RX4 yX4_reset wsX4_reset) := goodIn_app (goodIn_of _ (by decide +kernel)) ggL_law_X4_reset
set_option maxRecDepth 20000 in
theorem ggL_law_X5_reset : GoodIn wsL_law wsX5_reset := goodIn_r _ [323, 173, 140, 135, 136, 137, 5, 138, 127, 129, 130, 131, 132, 139, 141, 736, 737, 738, 739, 740, 741, 742, 743, 744, 745, 746, 747, 748, 749, 750, 751, 752, 753, 754, 755, 756, 757] (by decide +kernel) (by decide +kernel)
set_option maxRecDepth 20000 in
theorem gL_law_X5_reset : GoodIn wsL_law (wsV RL 122 RX5 yX5_reset wsX5_reset) := goodIn_app (goodIn_of _ (by decide +kernel)) ggL_law_X5_reset
set_option maxRecDepth 20000 in
theorem ggL_law_X4_observe : GoodIn wsL_law wsX4_observe := goodIn_r _ [327, 23, 328, 329, 330, 22, 331, 47, 44, 332, 61, 333, 104, 34, 105, 334, 33, 35, 335, 336, 337, 46, 338, 53, 97, 339, 340, 341, 342, 63, 62, 343, 2, 344, 345, 346, 347, 348, 55, 349, 103, 350, 351, 352, 353, 354, 355, 168, 54, 96, 68, 356, 357, 358, 359, 60, 48, 77, 78, 79, 80, 81, 82, 83, 84, 85, 86, 87, 88, 89, 90, 91, 92, 93, 94, 95, 98, 99, 100, 101, 102, 360, 731, 732, 733, 734, 735, 760, 761, 762, 763, 764, 765, 766, 771, 772, 773, 774, 775, 776, 777, 778, 779, 780] (by decide +kernel) (by decide +kernel)
set_option maxRecDepth 20000 in
theorem gL_law_X4_observe : GoodIn wsL_law (wsV RL 123 RX4 yX4_observe wsX4_observe) := goodIn_app (goodIn_of _ (by decide +kernel)) ggL_law_X4_observe
set_option maxRecDepth 20000 in
theorem ggL_law_X5_observe : GoodIn wsL_law wsX5_observe := goodIn_r _ [364, 173, 365, 366, 367, 5, 368, 141, 174, 130, 369, 370, 104, 34, 105, 371, 33, 35, 127, 124, 129, 139, 128, 131, 132, 140, 372, 373, 374, 375, 376, 377, 378, 379, 380, 381, 382, 383, 384, 385, 386, 387, 388, 389, 390, 391, 392, 393, 394, 125, 395, 396, 397, 398, 123, 399, 400, 401, 736, 737, 738, 739, 740, 741, 742, 743, 744, 745, 746, 747, 748, 749, 750, 751, 752, 753, 754, 755, 756, 757] (by decide +kernel) (by decide +kernel)
set_option maxRecDepth 20000 in
theorem gL_law_X5_observe : GoodIn wsL_law (wsV RL 127 RX5 yX5_observe wsX5_observe) := goodIn_app (goodIn_of _ (by decide +kernel)) ggL_law_X5_observe
set_option maxRecDepth 20000 in
theorem ggL_law_X4_mixed : GoodIn wsL_law wsX4_mixed := goodIn_r _ [405, 23, 328, 329, 330, 22, 331, 47, 44, 332, 61, 333, 104, 34, 105, 334, 33, 35, 335, 336, 337, 46, 338, 53, 97, 731, 732, 733, 734, 735, 760, 761, 762, 763, 764, 765, 766, 771, 772, 773, 774, 775, 776, 777, 778, 779, 780] (by decide +kernel) (by decide +kernel)
set_option maxRecDepth 20000 in
theorem gL_law_X4_mixed : GoodIn wsL_law (wsV RL 128 RX4 yX4_mixed wsX4_mixed) := goodIn_app (goodIn_of _ (by decide +kernel)) ggL_law_X4_mixed
set_option maxRecDepth 20000 in
theorem ggL_law_X5_mixed : GoodIn wsL_law wsX5_mixed := goodIn_r _ [409, 173, 372, 373, 374, 5, 375, 174, 130, 376, 377, 378, 34, 379, 380, 381, 382, 383, 384, 385, 386, 139, 387, 388, 389, 390, 127, 391, 392, 393, 394, 125, 395, 396, 397, 398, 123, 132, 736, 737, 738, 739, 740, 741, 742, 743, 744, 745, 746, 747, 748, 749, 750, 751, 752, 753, 754, 755, 756, 757] (by decide +kernel) (by decide +kernel)
set_option maxRecDepth 20000 in
theorem gL_law_X5_mixed : GoodIn wsL_law (wsV RL 131 RX5 yX5_mixed wsX5_mixed) := goodIn_app (goodIn_of _ (by decide +kernel)) ggL_law_X5_mixed
set_option maxRecDepth 20000 in
theorem ggL_law_L_prediction : GoodIn wsL_law wsL_prediction := goodIn_ca (goodIn_r _ [412, 204, 413, 414, 415, 2, 416, 210, 211, 212, 213, 214, 215, 23, 156, 216, 417, 336, 337, 46, 338, 53, 97, 731, 732, 733, 734, 735, 760, 761, 762, 763, 764, 765, 766, 771, 772, 773, 774, 775, 776, 777, 778, 779, 780] (by decide +kernel) (by decide +kernel)) (goodIn_sub (fun _ h => List.mem_append_right _ h) (by decide +kernel))
set_option maxRecDepth 20000 in
theorem gL_law_L_prediction : GoodIn wsL_law (va_wsS RL 132 yL_prediction wsL_prediction) := goodIn_app (goodIn_of _ (by decide +kernel)) ggL_law_L_prediction
set_option maxRecDepth 20000 in
theorem ggL_law_X5_prediction : GoodIn wsL_law wsX5_prediction := goodIn_r _ [421, 173, 222, 223, 224, 5, 225, 174, 175, 176, 177, 387, 388, 389, 390, 127, 391, 392, 393, 394, 139, 125, 395, 396, 397, 398, 123, 132, 178, 179, 180, 181, 736, 737, 738, 739, 740, 741, 742, 743, 744, 745, 746, 747, 748, 749, 750, 751, 752, 753, 754, 755, 756, 757] (by decide +kernel) (by decide +kernel)
set_option maxRecDepth 20000 in
theorem gL_law_X5_prediction : GoodIn wsL_law (wsV RL 134 RX5 yX5_prediction wsX5_prediction) := goodIn_app (goodIn_of _ (by decide +kernel)) ggL_law_X5_prediction
set_option maxRecDepth 20000 in
theorem ggL_law_L_index : GoodIn wsL_law wsL_index := goodIn_ca (goodIn_r _ [424, 204, 425, 426, 427, 2, 428, 429, 210, 211, 212, 213, 214, 215, 23, 156, 216, 771, 772, 773, 774, 775, 776, 777, 778, 779, 780, 731, 732, 733, 734, 735, 760, 761, 762, 763, 764, 765, 766] (by decide +kernel) (by decide +kernel)) (goodIn_sub (fun _ h => List.mem_append_right _ h) (by decide +kernel))
set_option maxRecDepth 20000 in
theorem gL_law_L_index : GoodIn wsL_law (va_wsS RL 135 yL_index wsL_index) := goodIn_app (goodIn_of _ (by decide +kernel)) ggL_law_L_index
set_option maxRecDepth 20000 in
theorem ggL_law_X5_index : GoodIn wsL_law wsX5_index := goodIn_r _ [433, 173, 222, 223, 224, 5, 225, 174, 175, 176, 177, 391, 392, 393, 394, 139, 125, 395, 396, 397, 398, 123, 132, 178, 179, 180, 181, 736, 737, 738, 739, 740, 741, 742, 743, 744, 745, 746, 747, 748, 749, 750, 751, 752, 753, 754, 755, 756, 757] (by decide +kernel) (by decide +kernel)
set_option maxRecDepth 20000 in
theorem gL_law_X5_index : GoodIn wsL_law (wsV RL 137 RX5 yX5_index wsX5_index) := goodIn_app (goodIn_of _ (by decide +kernel)) ggL_law_X5_index
set_option maxRecDepth 20000 in
theorem ggL_law_L_counter : GoodIn wsL_law wsL_counter := goodIn_ca (goodIn_r _ [436, 204, 437, 438, 439, 2, 440, 214, 215, 441, 210, 211, 212, 213, 23, 156, 216, 442, 99, 100, 46, 101, 102, 103, 104, 34, 105, 771, 772, 773, 774, 775, 776, 777, 778, 779, 780, 731, 732, 733, 734, 735, 760, 761, 762, 763, 764, 765, 766] (by decide +kernel) (by decide +kernel)) (goodIn_sub (fun _ h => List.mem_append_right _ h) (by decide +kernel))
set_option maxRecDepth 20000 in
theorem gL_law_L_counter : GoodIn wsL_law (va_wsS RL 138 yL_counter wsL_counter) := goodIn_app (goodIn_of _ (by decide +kernel)) ggL_law_L_counter
set_option maxRecDepth 20000 in
theorem ggL_law_X5_counter : GoodIn wsL_law wsX5_counter := goodIn_r _ [446, 173, 125, 127, 222, 223, 224, 5, 225, 174, 175, 176, 177, 178, 179, 180, 181, 736, 737, 738, 739, 740, 741, 742, 743, 744, 745, 746, 747, 748, 749, 750, 751, 752, 753, 754, 755, 756, 757] (by decide +kernel) (by decide +kernel)
set_option maxRecDepth 20000 in
theorem gL_law_X5_counter : GoodIn wsL_law (wsV RL 140 RX5 yX5_counter wsX5_counter) := goodIn_app (goodIn_of _ (by decide +kernel)) ggL_law_X5_counter
set_option maxRecDepth 20000 in
theorem ggL_law_L_weight : GoodIn wsL_law wsL_weight := goodIn_ca (goodIn_r _ [449, 204, 450, 451, 452, 2, 453, 214, 215, 454, 210, 211, 212, 213, 23, 156, 216, 771, 772, 773, 774, 775, 776, 777, 778, 779, 780, 731, 732, 733, 734, 735, 760, 761, 762, 763, 764, 765, 766] (by decide +kernel) (by decide +kernel)) (goodIn_sub (fun _ h => List.mem_append_right _ h) (by decide +kernel))
set_option maxRecDepth 20000 in
theorem gL_law_L_weight : GoodIn wsL_law (va_wsS RL 141 yL_weight wsL_weight) := goodIn_app (goodIn_of _ (by decide +kernel)) ggL_law_L_weight
set_option maxRecDepth 20000 in
theorem ggL_law_X5_weight : GoodIn wsL_law wsX5_weight := goodIn_r _ [458, 173, 130, 222, 223, 224, 5, 225, 174, 175, 176, 177, 178, 179, 180, 181, 736, 737, 738, 739, 740, 741, 742, 743, 744, 745, 746, 747, 748, 749, 750, 751, 752, 753, 754, 755, 756, 757] (by decide +kernel) (by decide +kernel)
set_option maxRecDepth 20000 in
theorem gL_law_X5_weight : GoodIn wsL_law (wsV RL 143 RX5 yX5_weight wsX5_weight) := goodIn_app (goodIn_of _ (by decide +kernel)) ggL_law_X5_weight
set_option maxRecDepth 20000 in
theorem ggL_law_X4_leader : GoodIn wsL_law wsX4_leader := goodIn_r _ [462, 23, 463, 464, 465, 22, 466, 47, 44, 332, 61, 731, 732, 733, 734, 735, 760, 761, 762, 763, 764, 765, 766, 771, 772, 773, 774, 775, 776, 777, 778, 779, 780] (by decide +kernel) (by decide +kernel)
set_option maxRecDepth 20000 in
theorem gL_law_X4_leader : GoodIn wsL_law (wsV RL 144 RX4 yX4_leader wsX4_leader) := goodIn_app (goodIn_of _ (by decide +kernel)) ggL_law_X4_leader
set_option maxRecDepth 20000 in
theorem ggL_law_X5_leader : GoodIn wsL_law wsX5_leader := goodIn_r _ [470, 173, 174, 130, 383, 384, 385, 5, 386, 139, 736, 737, 738, 739, 740, 741, 742, 743, 744, 745, 746, 747, 748, 749, 750, 751, 752, 753, 754, 755, 756, 757] (by decide +kernel) (by decide +kernel)
set_option maxRecDepth 20000 in
theorem gL_law_X5_leader : GoodIn wsL_law (wsV RL 147 RX5 yX5_leader wsX5_leader) := goodIn_app (goodIn_of _ (by decide +kernel)) ggL_law_X5_leader
set_option maxRecDepth 20000 in
theorem ggL_law_L_collisions : GoodIn wsL_law wsL_collisions := goodIn_ca (goodIn_r _ [473, 204, 474, 475, 476, 2, 477, 478, 210, 211, 212, 213, 214, 215, 23, 156, 216, 771, 772, 773, 774, 775, 776, 777, 778, 779, 780, 731, 732, 733, 734, 735, 760, 761, 762, 763, 764, 765, 766] (by decide +kernel) (by decide +kernel)) (goodIn_sub (fun _ h => List.mem_append_right _ h) (by decide +kernel))
set_option maxRecDepth 20000 in
theorem gL_law_L_collisions : GoodIn wsL_law (va_wsS RL 148 yL_collisions wsL_collisions) := goodIn_app (goodIn_of _ (by decide +kernel)) ggL_law_L_collisions
set_option maxRecDepth 20000 in
theorem ggL_law_X5_collisions : GoodIn wsL_law wsX5_collisions := goodIn_r _ [482, 173, 131, 222, 223, 224, 5, 225, 174, 175, 176, 177, 178, 179, 180, 181, 736, 737, 738, 739, 740, 741, 742, 743, 744, 745, 746, 747, 748, 749, 750, 751, 752, 753, 754, 755, 756, 757] (by decide +kernel) (by decide +kernel)
set_option maxRecDepth 20000 in
theorem gL_law_X5_collisions : GoodIn wsL_law (wsV RL 150 RX5 yX5_collisions wsX5_collisions) := goodIn_app (goodIn_of _ (by decide +kernel)) ggL_law_X5_collisions
set_option maxRecDepth 20000 in
theorem ggL_law_L_history : GoodIn wsL_law wsL_history := goodIn_ca (goodIn_r _ [485, 204, 486, 487, 488, 2, 489, 214, 215, 23, 490, 731, 732, 733, 734, 735, 760, 761, 762, 763, 764, 765, 766] (by decide +kernel) (by decide +kernel)) (goodIn_sub (fun _ h => List.mem_append_right _ h) (by decide +kernel))
set_option maxRecDepth 20000 in
theorem gL_law_L_history : GoodIn wsL_law (va_wsS RL 151 yL_history wsL_history) := goodIn_app (goodIn_of _ (by decide +kernel)) ggL_law_L_history
set_option maxRecDepth 20000 in
theorem ggL_law_X5_history : GoodIn wsL_law wsX5_history := goodIn_r _ [494, 173, 132, 175, 176, 5, 177, 178, 179, 180, 181, 736, 737, 738, 739, 740, 741, 742, 743, 744, 745, 746, 747, 748, 749, 750, 751, 752, 753, 754, 755, 756, 757] (by decide +kernel) (by decide +kernel)
set_option maxRecDepth 20000 in
theorem gL_law_X5_history : GoodIn wsL_law (wsV RL 153 RX5 yX5_history wsX5_history) := goodIn_app (goodIn_of _ (by decide +kernel)) ggL_law_X5_history
set_option maxRecDepth 20000 in
theorem ggL_law_X4_node : GoodIn wsL_law wsX4_node := goodIn_r _ [498, 23, 499, 731, 732, 733, 734, 735, 760, 761, 762, 763, 764, 765, 766] (by decide +kernel) (by decide +kernel)
set_option maxRecDepth 20000 in
theorem gL_law_X4_node : GoodIn wsL_law (wsV RL 154 RX4 yX4_node wsX4_node) := goodIn_app (goodIn_of _ (by decide +kernel)) ggL_law_X4_node
set_option maxRecDepth 20000 in
theorem ggL_law_X5_node : GoodIn wsL_law wsX5_node := goodIn_r _ [503, 173, 139, 736, 737, 738, 739, 740, 741, 742, 743, 744, 745, 746, 747, 748, 749, 750, 751, 752, 753, 754, 755, 756, 757] (by decide +kernel) (by decide +kernel)
set_option maxRecDepth 20000 in
theorem gL_law_X5_node : GoodIn wsL_law (wsV RL 157 RX5 yX5_node wsX5_node) := goodIn_app (goodIn_of _ (by decide +kernel)) ggL_law_X5_node
set_option maxRecDepth 20000 in
theorem ggL_law_X4_observed : GoodIn wsL_law wsX4_observed := goodIn_r _ [507, 23, 319, 731, 732, 733, 734, 735, 760, 761, 762, 763, 764, 765, 766] (by decide +kernel) (by decide +kernel)
set_option maxRecDepth 20000 in
theorem gL_law_X4_observed : GoodIn wsL_law (wsV RL 158 RX4 yX4_observed wsX4_observed) := goodIn_app (goodIn_of _ (by decide +kernel)) ggL_law_X4_observed
set_option maxRecDepth 20000 in
theorem ggL_law_X5_observed : GoodIn wsL_law wsX5_observed := goodIn_r _ [511, 173, 140, 736, 737, 738, 739, 740, 741, 742, 743, 744, 745, 746, 747, 748, 749, 750, 751, 752, 753, 754, 755, 756, 757] (by decide +kernel) (by decide +kernel)
set_option maxRecDepth 20000 in
theorem gL_law_X5_observed : GoodIn wsL_law (wsV RL 161 RX5 yX5_observed wsX5_observed) := goodIn_app (goodIn_of _ (by decide +kernel)) ggL_law_X5_observed
set_option maxRecDepth 20000 in
theorem ggL_law_X4_error : GoodIn wsL_law wsX4_error := goodIn_r _ [515, 23, 516, 731, 732, 733, 734, 735, 760, 761, 762, 763, 764, 765, 766] (by decide +kernel) (by decide +kernel)
set_option maxRecDepth 20000 in
theorem gL_law_X4_error : GoodIn wsL_law (wsV RL 162 RX4 yX4_error wsX4_error) := goodIn_app (goodIn_of _ (by decide +kernel)) ggL_law_X4_error
set_option maxRecDepth 20000 in
theorem ggL_law_X5_error : GoodIn wsL_law wsX5_error := goodIn_r _ [520, 173, 141, 736, 737, 738, 739, 740, 741, 742, 743, 744, 745, 746, 747, 748, 749, 750, 751, 752, 753, 754, 755, 756, 757] (by decide +kernel) (by decide +kernel)
set_option maxRecDepth 20000 in
theorem gL_law_X5_error : GoodIn wsL_law (wsV RL 166 RX5 yX5_error wsX5_error) := goodIn_app (goodIn_of _ (by decide +kernel)) ggL_law_X5_error
set_option maxRecDepth 20000 in
theorem ggL_law_X4_meanError : GoodIn wsL_law wsX4_meanError := goodIn_r _ [524, 23, 319, 516, 525, 731, 732, 733, 734, 735, 760, 761, 762, 763, 764, 765, 766] (by decide +kernel) (by decide +kernel)
set_option maxRecDepth 20000 in
theorem gL_law_X4_meanError : GoodIn wsL_law (wsV RL 167 RX4 yX4_meanError wsX4_meanError) := goodIn_app (goodIn_of _ (by decide +kernel)) ggL_law_X4_meanError
set_option maxRecDepth 20000 in
theorem ggL_law_X5_meanError : GoodIn wsL_law wsX5_meanError := goodIn_r _ [529, 173, 140, 141, 530, 736, 737, 738, 739, 740, 741, 742, 743, 744, 745, 746, 747, 748, 749, 750, 751, 752, 753, 754, 755, 756, 757] (by decide +kernel) (by decide +kernel)
set_option maxRecDepth 20000 in
theorem gL_law_X5_meanError : GoodIn wsL_law (wsV RL 171 RX5 yX5_meanError wsX5_meanError) := goodIn_app (goodIn_of _ (by decide +kernel)) ggL_law_X5_meanError
set_option maxRecDepth 20000 in
theorem ggL_law_X4_encode : GoodIn wsL_law wsX4_encode := goodIn_r _ [534, 23, 27, 18, 17, 241, 217, 57, 58, 22, 59, 47, 44, 48, 60, 61, 62, 63, 64, 65, 66, 46, 67, 53, 54, 55, 68, 69, 70, 71, 72, 73, 74, 75, 76, 77, 78, 79, 80, 81, 82, 83, 84, 85, 86, 87, 88, 89, 90, 91, 92, 93, 94, 95, 96, 97, 98, 99, 100, 101, 102, 103, 104, 34, 105, 535, 111, 112, 26, 113, 114, 115, 116, 117, 118, 536, 537, 538, 16, 539, 38, 306, 307, 308, 309, 37, 310, 303, 304, 305, 540, 541, 542, 2, 543, 328, 329, 330, 331, 332, 333, 334, 33, 35, 335, 336, 337, 338, 544, 545, 546, 547, 548, 549, 550, 551, 552, 553, 554, 555, 556, 557, 558, 559, 560, 561, 562, 563, 564, 246, 247, 248, 249, 339, 340, 341, 342, 343, 344, 345, 346, 347, 348, 349, 350, 351, 352, 353, 354, 355, 168, 356, 357, 358, 359, 731, 732, 733, 734, 735, 758, 759, 760, 761, 762, 763, 764, 765, 766, 771, 772, 773, 774, 775, 776, 777, 778, 779, 780, 767, 768, 769, 770] (by decide +kernel) (by decide +kernel)
set_option maxRecDepth 20000 in
theorem gL_law_X4_encode : GoodIn wsL_law (wsV RL 172 RX4 yX4_encode wsX4_encode) := goodIn_app (goodIn_of _ (by decide +kernel)) ggL_law_X4_encode
set_option maxRecDepth 20000 in
theorem ggL_law_X5_encode : GoodIn wsL_law wsX5_encode := goodIn_r _ [568, 173, 569, 570, 571, 572, 254, 126, 255, 135, 136, 137, 5, 138, 127, 129, 130, 131, 132, 139, 140, 141, 573, 574, 575, 576, 577, 578, 579, 580, 581, 372, 373, 374, 375, 174, 376, 377, 378, 34, 379, 380, 381, 382, 383, 384, 385, 386, 387, 388, 389, 390, 391, 392, 393, 394, 125, 395, 396, 397, 398, 123, 582, 583, 584, 585, 586, 587, 588, 589, 133, 590, 591, 592, 593, 365, 366, 367, 368, 369, 370, 104, 105, 371, 33, 35, 124, 128, 399, 400, 401, 736, 737, 738, 739, 740, 741, 742, 743, 744, 745, 746, 747, 748, 749, 750, 751, 752, 753, 754, 755, 756, 757] (by decide +kernel) (by decide +kernel)
set_option maxRecDepth 20000 in
theorem gL_law_X5_encode : GoodIn wsL_law (wsV RL 175 RX5 yX5_encode wsX5_encode) := goodIn_app (goodIn_of _ (by decide +kernel)) ggL_law_X5_encode
set_option maxRecDepth 20000 in
theorem ggL_law_X4_codeSize : GoodIn wsL_law wsX4_codeSize := goodIn_r _ [597, 18, 241, 731, 732, 733, 734, 735, 758, 759] (by decide +kernel) (by decide +kernel)
set_option maxRecDepth 20000 in
theorem gL_law_X4_codeSize : GoodIn wsL_law (wsV RL 176 RX4 yX4_codeSize wsX4_codeSize) := goodIn_app (goodIn_of _ (by decide +kernel)) ggL_law_X4_codeSize
set_option maxRecDepth 20000 in
theorem ggL_law_X5_codeSize : GoodIn wsL_law wsX5_codeSize := goodIn_r _ [601, 173, 569, 736, 737, 738, 739, 740, 741, 742, 743, 744, 745, 746, 747, 748, 749, 750, 751, 752, 753, 754, 755, 756, 757] (by decide +kernel) (by decide +kernel)
set_option maxRecDepth 20000 in
theorem gL_law_X5_codeSize : GoodIn wsL_law (wsV RL 179 RX5 yX5_codeSize wsX5_codeSize) := goodIn_app (goodIn_of _ (by decide +kernel)) ggL_law_X5_codeSize
set_option maxRecDepth 20000 in
theorem ggL_law_L_code : GoodIn wsL_law wsL_code := goodIn_ca (goodIn_r _ [604, 204, 605, 606, 607, 2, 608, 18, 299, 300, 301, 214, 215, 302, 303, 304, 16, 305, 38, 37, 306, 307, 308, 309, 310, 731, 732, 733, 734, 735, 758, 759] (by decide +kernel) (by decide +kernel)) (goodIn_sub (fun _ h => List.mem_append_right _ h) (by decide +kernel))
set_option maxRecDepth 20000 in
theorem gL_law_L_code : GoodIn wsL_law (va_wsS RL 180 yL_code wsL_code) := goodIn_app (goodIn_of _ (by decide +kernel)) ggL_law_L_code
set_option maxRecDepth 20000 in
theorem ggL_law_X5_code : GoodIn wsL_law wsX5_code := goodIn_r _ [612, 173, 569, 133, 175, 176, 5, 177, 178, 179, 180, 181, 736, 737, 738, 739, 740, 741, 742, 743, 744, 745, 746, 747, 748, 749, 750, 751, 752, 753, 754, 755, 756, 757] (by decide +kernel) (by decide +kernel)
set_option maxRecDepth 20000 in
theorem gL_law_X5_code : GoodIn wsL_law (wsV RL 182 RX5 yX5_code wsX5_code) := goodIn_app (goodIn_of _ (by decide +kernel)) ggL_law_X5_code
set_option maxRecDepth 20000 in
theorem ggL_law_L_setCode : GoodIn wsL_law wsL_setCode := goodIn_ca (goodIn_ca (goodIn_r _ [615, 204, 146, 616, 617, 618, 2, 619, 18, 299, 300, 301, 214, 215, 302, 303, 304, 16, 305, 38, 37, 306, 307, 308, 309, 310, 263, 264, 265, 152, 153, 620, 621, 622, 623, 731, 732, 733, 734, 735, 758, 759] (by decide +kernel) (by decide +kernel)) (goodIn_sub (fun _ h => List.mem_append_right _ h) (by decide +kernel))) (goodIn_sub (fun _ h => List.mem_append_left _ (List.mem_append_left _ (List.mem_append_right _ h))) (by decide +kernel))
set_option maxRecDepth 20000 in
theorem gL_law_L_setCode : GoodIn wsL_law (va_wsS RL 183 yL_setCode wsL_setCode) := goodIn_app (goodIn_of _ (by decide +kernel)) ggL_law_L_setCode
set_option maxRecDepth 20000 in
theorem ggL_law_X5_setCode : GoodIn wsL_law wsX5_setCode := goodIn_r _ [627, 173, 569, 133, 175, 176, 5, 177, 178, 179, 180, 181, 736, 737, 738, 739, 740, 741, 742, 743, 744, 745, 746, 747, 748, 749, 750, 751, 752, 753, 754, 755, 756, 757] (by decide +kernel) (by decide +kernel)
set_option maxRecDepth 20000 in
theorem gL_law_X5_setCode : GoodIn wsL_law (wsV RL 185 RX5 yX5_setCode wsX5_setCode) := goodIn_app (goodIn_of _ (by decide +kernel)) ggL_law_X5_setCode
set_option maxRecDepth 20000 in
theorem ggL_law_L_cutCode : GoodIn wsL_law wsL_cutCode := goodIn_ca (goodIn_r _ [630, 146, 631, 632, 633, 2, 634, 18, 277, 278, 279, 152, 153, 241, 731, 732, 733, 734, 735, 758, 759] (by decide +kernel) (by decide +kernel)) (goodIn_sub (fun _ h => List.mem_append_left _ (List.mem_append_left _ (List.mem_append_right _ h))) (by decide +kernel))
set_option maxRecDepth 20000 in
theorem gL_law_L_cutCode : GoodIn wsL_law (va_wsS RL 186 yL_cutCode wsL_cutCode) := goodIn_app (goodIn_of _ (by decide +kernel)) ggL_law_L_cutCode
set_option maxRecDepth 20000 in
theorem ggL_law_X5_cutCode : GoodIn wsL_law wsX5_cutCode := goodIn_r _ [638, 173, 569, 175, 176, 5, 177, 178, 179, 180, 181, 736, 737, 738, 739, 740, 741, 742, 743, 744, 745, 746, 747, 748, 749, 750, 751, 752, 753, 754, 755, 756, 757] (by decide +kernel) (by decide +kernel)
set_option maxRecDepth 20000 in
theorem gL_law_X5_cutCode : GoodIn wsL_law (wsV RL 188 RX5 yX5_cutCode wsX5_cutCode) := goodIn_app (goodIn_of _ (by decide +kernel)) ggL_law_X5_cutCode
set_option maxRecDepth 20000 in
theorem ggL_law_L_decode : GoodIn wsL_law wsL_decode := goodIn_ca (goodIn_r _ [641, 146, 642, 643, 644, 2, 645, 152, 153, 23, 27, 18, 19, 217, 57, 58, 22, 59, 47, 44, 48, 60, 61, 62, 63, 64, 65, 66, 46, 67, 53, 54, 55, 68, 69, 70, 71, 72, 73, 74, 75, 76, 77, 78, 79, 80, 81, 82, 83, 84, 85, 86, 87, 88, 89, 90, 91, 92, 93, 94, 95, 96, 97, 98, 99, 100, 101, 102, 103, 104, 34, 105, 535, 111, 112, 26, 113, 114, 115, 116, 117, 118, 646, 647, 648, 649, 650, 651, 652, 653, 654, 307, 308, 16, 309, 37, 310, 303, 304, 305, 38, 536, 537, 538, 539, 655, 656, 657, 658, 659, 328, 329, 330, 331, 332, 333, 334, 33, 35, 335, 336, 337, 338, 544, 545, 546, 547, 548, 549, 550, 551, 552, 553, 554, 555, 556, 557, 558, 559, 560, 561, 562, 563, 564, 660, 339, 340, 341, 342, 343, 344, 345, 346, 347, 348, 349, 350, 351, 352, 353, 354, 355, 168, 356, 357, 358, 359, 246, 247, 248, 249, 661, 662, 663, 664, 17, 241, 665, 302, 306, 731, 732, 733, 734, 735, 760, 761, 762, 763, 764, 765, 766, 771, 772, 773, 774, 775, 776, 777, 778, 779, 780, 767, 768, 769, 770, 758, 759] (by decide +kernel) (by decide +kernel)) (goodIn_sub (fun _ h => List.mem_append_left _ (List.mem_append_left _ (List.mem_append_right _ h))) (by decide +kernel))
set_option maxRecDepth 20000 in
theorem gL_law_L_decode : GoodIn wsL_law (va_wsS RL 189 yL_decode wsL_decode) := goodIn_app (goodIn_of _ (by decide +kernel)) ggL_law_L_decode
set_option maxRecDepth 20000 in
theorem ggL_law_X5_decode : GoodIn wsL_law wsX5_decode := goodIn_r _ [669, 173, 570, 571, 572, 670, 671, 134, 175, 176, 5, 177, 178, 179, 180, 181, 135, 136, 137, 138, 127, 129, 130, 131, 132, 139, 140, 141, 672, 673, 674, 675, 569, 133, 577, 578, 579, 580, 581, 372, 373, 374, 375, 174, 376, 377, 378, 34, 379, 380, 381, 382, 383, 384, 385, 386, 387, 388, 389, 390, 391, 392, 393, 394, 125, 395, 396, 397, 398, 123, 573, 574, 575, 576, 582, 583, 584, 585, 590, 591, 592, 593, 255, 365, 366, 367, 368, 369, 370, 104, 105, 371, 33, 35, 124, 128, 399, 400, 401, 676, 677, 678, 679, 254, 680, 681, 682, 126, 736, 737, 738, 739, 740, 741, 742, 743, 744, 745, 746, 747, 748, 749, 750, 751, 752, 753, 754, 755, 756, 757] (by decide +kernel) (by decide +kernel)
set_option maxRecDepth 20000 in
theorem gL_law_X5_decode : GoodIn wsL_law (wsV RL 191 RX5 yX5_decode wsX5_decode) := goodIn_app (goodIn_of _ (by decide +kernel)) ggL_law_X5_decode
set_option maxRecDepth 20000 in
theorem ggL_law_X4_outputSize : GoodIn wsL_law wsX4_outputSize := goodIn_r _ [686, 19, 241, 731, 732, 733, 734, 735, 758, 759] (by decide +kernel) (by decide +kernel)
set_option maxRecDepth 20000 in
theorem gL_law_X4_outputSize : GoodIn wsL_law (wsV RL 192 RX4 yX4_outputSize wsX4_outputSize) := goodIn_app (goodIn_of _ (by decide +kernel)) ggL_law_X4_outputSize
set_option maxRecDepth 20000 in
theorem ggL_law_X5_outputSize : GoodIn wsL_law wsX5_outputSize := goodIn_r _ [690, 173, 671, 736, 737, 738, 739, 740, 741, 742, 743, 744, 745, 746, 747, 748, 749, 750, 751, 752, 753, 754, 755, 756, 757] (by decide +kernel) (by decide +kernel)
set_option maxRecDepth 20000 in
theorem gL_law_X5_outputSize : GoodIn wsL_law (wsV RL 195 RX5 yX5_outputSize wsX5_outputSize) := goodIn_app (goodIn_of _ (by decide +kernel)) ggL_law_X5_outputSize
set_option maxRecDepth 20000 in
theorem ggL_law_L_output : GoodIn wsL_law wsL_output := goodIn_ca (goodIn_r _ [693, 204, 694, 695, 696, 2, 697, 19, 299, 300, 301, 214, 215, 302, 303, 304, 16, 305, 38, 37, 306, 307, 308, 309, 310, 731, 732, 733, 734, 735, 758, 759] (by decide +kernel) (by decide +kernel)) (goodIn_sub (fun _ h => List.mem_append_right _ h) (by decide +kernel))
set_option maxRecDepth 20000 in
theorem gL_law_L_output : GoodIn wsL_law (va_wsS RL 196 yL_output wsL_output) := goodIn_app (goodIn_of _ (by decide +kernel)) ggL_law_L_output
set_option maxRecDepth 20000 in
theorem ggL_law_X5_output : GoodIn wsL_law wsX5_output := goodIn_r _ [701, 173, 671, 134, 175, 176, 5, 177, 178, 179, 180, 181, 736, 737, 738, 739, 740, 741, 742, 743, 744, 745, 746, 747, 748, 749, 750, 751, 752, 753, 754, 755, 756, 757] (by decide +kernel) (by decide +kernel)
set_option maxRecDepth 20000 in
theorem gL_law_X5_output : GoodIn wsL_law (wsV RL 198 RX5 yX5_output wsX5_output) := goodIn_app (goodIn_of _ (by decide +kernel)) ggL_law_X5_output
set_option maxRecDepth 20000 in
theorem ggL_law_X4_ratio : GoodIn wsL_law wsX4_ratio := goodIn_r _ [705, 17, 241, 18, 731, 732, 733, 734, 735, 758, 759] (by decide +kernel) (by decide +kernel)
set_option maxRecDepth 20000 in
theorem gL_law_X4_ratio : GoodIn wsL_law (wsV RL 199 RX4 yX4_ratio wsX4_ratio) := goodIn_app (goodIn_of _ (by decide +kernel)) ggL_law_X4_ratio
set_option maxRecDepth 20000 in
theorem ggL_law_X5_ratio : GoodIn wsL_law wsX5_ratio := goodIn_r _ [709, 173, 254, 569, 736, 737, 738, 739, 740, 741, 742, 743, 744, 745, 746, 747, 748, 749, 750, 751, 752, 753, 754, 755, 756, 757] (by decide +kernel) (by decide +kernel)
set_option maxRecDepth 20000 in
theorem gL_law_X5_ratio : GoodIn wsL_law (wsV RL 202 RX5 yX5_ratio wsX5_ratio) := goodIn_app (goodIn_of _ (by decide +kernel)) ggL_law_X5_ratio
set_option maxRecDepth 20000 in
theorem ggL_law_X4_digest : GoodIn wsL_law wsX4_digest := goodIn_r _ [713, 714, 17, 715, 23, 499, 319, 516, 18, 19, 716, 717, 718, 2, 719, 156, 216, 720, 209, 721, 454, 478, 722, 723, 724, 241, 306, 307, 308, 16, 309, 37, 310, 303, 304, 305, 38, 731, 732, 733, 734, 735, 760, 761, 762, 763, 764, 765, 766, 771, 772, 773, 774, 775, 776, 777, 778, 779, 780, 758, 759] (by decide +kernel) (by decide +kernel)
set_option maxRecDepth 20000 in
theorem gL_law_X4_digest : GoodIn wsL_law (wsV RL 203 RX4 yX4_digest wsX4_digest) := goodIn_app (goodIn_of _ (by decide +kernel)) ggL_law_X4_digest
set_option maxRecDepth 20000 in
theorem ggL_law_X5_digest : GoodIn wsL_law wsX5_digest := goodIn_r _ [728, 173, 729, 174, 730, 123, 124, 125, 130, 131, 254, 126, 139, 140, 141, 569, 133, 671, 134, 736, 737, 738, 739, 740, 741, 742, 743, 744, 745, 746, 747, 748, 749, 750, 751, 752, 753, 754, 755, 756, 757] (by decide +kernel) (by decide +kernel)
set_option maxRecDepth 20000 in
theorem gL_law_X5_digest : GoodIn wsL_law (wsV RL 206 RX5 yX5_digest wsX5_digest) := goodIn_app (goodIn_of _ (by decide +kernel)) ggL_law_X5_digest
