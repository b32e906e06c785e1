set_option maxRecDepth 20000 in
theorem ggL_law_X4_init : GoodIn wsL_law wsX4_init := goodIn_r _ [9, 10, 11, 12, 13, 14, 15, 16, 17, 18, 19, 20, 21, 22, 23, 24, 25, 26, 27, 28, 29, 30, 31, 32, 33, 34, 35, 36, 37, 38, 39, 40, 41, 42, 43, 44, 45, 46, 47, 48, 49, 50, 51, 52, 53, 54, 55, 56, 57, 58, 59, 60, 61, 62, 63, 64, 742, 743, 726, 727, 728, 744, 745, 746, 747, 748, 749, 750, 751, 752, 753, 754, 755, 756, 757, 758, 759, 760, 761, 762, 763, 764, 765, 766, 767, 768, 769, 770, 771, 772] (by decide +kernel) (by decide +kernel)
set_option maxRecDepth 20000 in
theorem gL_law_X4_init : GoodIn wsL_law (wsX4_init) := ggL_law_X4_init
set_option maxRecDepth 20000 in
theorem ggL_law_X6_init : GoodIn wsL_law wsX6_init := goodIn_r _ [67, 68, 11, 12, 26, 69, 70, 71, 72, 73, 74, 75, 76, 77, 78, 79, 80, 81, 82, 83, 84, 85, 86, 87, 88, 89, 90, 91, 92, 93, 94, 95, 96, 729, 730, 731, 732, 733, 734, 735, 736, 737, 738, 739, 740, 741, 773, 774, 775, 776, 777, 778, 779, 780, 781, 782, 783, 784, 785, 786] (by decide +kernel) (by decide +kernel)
set_option maxRecDepth 20000 in
theorem gL_law_X6_init : GoodIn wsL_law (wsX6_init) := ggL_law_X6_init
set_option maxRecDepth 20000 in
theorem ggL_law_L_addRow : GoodIn wsL_law wsL_addRow := goodIn_ca (goodIn_ca (goodIn_r _ [100, 101, 102, 103, 104, 105, 2, 106, 20, 107, 108, 109, 110, 111, 112, 113, 114, 115, 116, 117, 118, 119, 120, 19, 121, 122, 39, 123, 726, 727, 728, 744, 745, 746, 747, 748, 749, 750, 751, 752, 753, 754, 755, 756] (by decide +kernel) (by decide +kernel)) (goodIn_sub (fun _ h => List.mem_append_left _ (List.mem_append_left _ (List.mem_append_right _ h))) (by decide +kernel))) (goodIn_sub (fun _ h => List.mem_append_left _ (List.mem_append_right _ h)) (by decide +kernel))
set_option maxRecDepth 20000 in
theorem gL_law_L_addRow : GoodIn wsL_law (va_wsS RL 81 yL_addRow wsL_addRow) := goodIn_app (goodIn_of _ (by decide +kernel)) ggL_law_L_addRow
set_option maxRecDepth 20000 in
theorem ggL_law_X6_addRow : GoodIn wsL_law wsX6_addRow := goodIn_r _ [127, 128, 129, 69, 130, 131, 5, 132, 133, 134, 135, 136, 729, 730, 731, 732, 733, 734, 735, 736, 737, 738, 739, 740, 741] (by decide +kernel) (by decide +kernel)
set_option maxRecDepth 20000 in
theorem gL_law_X6_addRow : GoodIn wsL_law (wsV RL 86 RX6 yX6_addRow wsX6_addRow) := goodIn_app (goodIn_of _ (by decide +kernel)) ggL_law_X6_addRow
set_option maxRecDepth 20000 in
theorem ggL_law_X6_thrown : GoodIn wsL_law wsX6_thrown := goodIn_r _ [140, 128, 729, 730, 731, 732, 733, 734, 735, 736, 737, 738, 739, 740, 741] (by decide +kernel) (by decide +kernel)
set_option maxRecDepth 20000 in
theorem gL_law_X6_thrown : GoodIn wsL_law (wsV RL 87 RX6 yX6_thrown wsX6_thrown) := goodIn_app (goodIn_of _ (by decide +kernel)) ggL_law_X6_thrown
set_option maxRecDepth 20000 in
theorem ggL_law_L_setWater : GoodIn wsL_law wsL_setWater := goodIn_ca (goodIn_ca (goodIn_r _ [143, 144, 101, 145, 146, 147, 2, 148, 16, 149, 150, 151, 152, 153, 154, 155, 108, 109, 110, 111, 112, 156, 157, 158, 15, 159, 160, 161, 162, 163, 27, 164, 165, 166, 167, 168, 169, 170, 171, 28, 726, 727, 728, 742, 743] (by decide +kernel) (by decide +kernel)) (goodIn_sub (fun _ h => List.mem_append_right _ h) (by decide +kernel))) (goodIn_sub (fun _ h => List.mem_append_left _ (List.mem_append_left _ (List.mem_append_right _ h))) (by decide +kernel))
set_option maxRecDepth 20000 in
theorem gL_law_L_setWater : GoodIn wsL_law (va_wsS RL 91 yL_setWater wsL_setWater) := goodIn_app (goodIn_of _ (by decide +kernel)) ggL_law_L_setWater
set_option maxRecDepth 20000 in
theorem ggL_law_X6_setWater : GoodIn wsL_law wsX6_setWater := goodIn_r _ [175, 128, 70, 71, 130, 131, 5, 132, 133, 134, 135, 136, 729, 730, 731, 732, 733, 734, 735, 736, 737, 738, 739, 740, 741] (by decide +kernel) (by decide +kernel)
set_option maxRecDepth 20000 in
theorem gL_law_X6_setWater : GoodIn wsL_law (wsV RL 94 RX6 yX6_setWater wsX6_setWater) := goodIn_app (goodIn_of _ (by decide +kernel)) ggL_law_X6_setWater
set_option maxRecDepth 20000 in
theorem ggL_law_L_addCanoe : GoodIn wsL_law wsL_addCanoe := goodIn_ca (goodIn_ca (goodIn_r _ [178, 101, 102, 179, 180, 181, 2, 182, 20, 183, 108, 109, 110, 111, 112, 113, 114, 115, 116, 117, 184, 185, 186, 19, 187, 188, 43, 189, 190, 726, 727, 728, 744, 745, 746, 747, 748, 749, 750, 751, 752, 753, 757, 758, 759, 760, 761, 762, 763, 764, 765, 766, 767, 768, 769, 770, 771, 772] (by decide +kernel) (by decide +kernel)) (goodIn_sub (fun _ h => List.mem_append_left _ (List.mem_append_left _ (List.mem_append_right _ h))) (by decide +kernel))) (goodIn_sub (fun _ h => List.mem_append_left _ (List.mem_append_right _ h)) (by decide +kernel))
set_option maxRecDepth 20000 in
theorem gL_law_L_addCanoe : GoodIn wsL_law (va_wsS RL 95 yL_addCanoe wsL_addCanoe) := goodIn_app (goodIn_of _ (by decide +kernel)) ggL_law_L_addCanoe
set_option maxRecDepth 20000 in
theorem ggL_law_X6_addCanoe : GoodIn wsL_law wsX6_addCanoe := goodIn_r _ [194, 128, 195, 79, 72, 130, 131, 5, 132, 133, 134, 135, 136, 729, 730, 731, 732, 733, 734, 735, 736, 737, 738, 739, 740, 741, 773, 774, 775, 776, 777, 778, 779, 780, 781, 782, 783, 784, 785, 786] (by decide +kernel) (by decide +kernel)
set_option maxRecDepth 20000 in
theorem gL_law_X6_addCanoe : GoodIn wsL_law (wsV RL 98 RX6 yX6_addCanoe wsX6_addCanoe) := goodIn_app (goodIn_of _ (by decide +kernel)) ggL_law_X6_addCanoe
set_option maxRecDepth 20000 in
theorem ggL_law_L_load : GoodIn wsL_law wsL_load := goodIn_ca (goodIn_ca (goodIn_ca (goodIn_r _ [198, 144, 101, 102, 199, 200, 201, 2, 202, 20, 183, 203, 204, 205, 151, 152, 153, 154, 155, 108, 109, 110, 111, 112, 113, 114, 115, 116, 117, 726, 727, 728, 744, 745, 746, 747, 748, 749, 750, 751, 752, 753, 757, 758, 759, 760, 761, 762, 763, 764, 765, 766, 767, 768, 769, 770, 771, 772] (by decide +kernel) (by decide +kernel)) (goodIn_sub (fun _ h => List.mem_append_right _ h) (by decide +kernel))) (goodIn_sub (fun _ h => List.mem_append_left _ (List.mem_append_left _ (List.mem_append_right _ h))) (by decide +kernel))) (goodIn_sub (fun _ h => List.mem_append_left _ (List.mem_append_right _ h)) (by decide +kernel))
set_option maxRecDepth 20000 in
theorem gL_law_L_load : GoodIn wsL_law (va_wsS RL 99 yL_load wsL_load) := goodIn_app (goodIn_of _ (by decide +kernel)) ggL_law_L_load
set_option maxRecDepth 20000 in
theorem ggL_law_X6_load : GoodIn wsL_law wsX6_load := goodIn_r _ [209, 128, 79, 210, 211, 212, 5, 213, 195, 130, 131, 132, 214, 215, 216, 133, 134, 135, 136, 729, 730, 731, 732, 733, 734, 735, 736, 737, 738, 739, 740, 741, 773, 774, 775, 776, 777, 778, 779, 780, 781, 782, 783, 784, 785, 786] (by decide +kernel) (by decide +kernel)
set_option maxRecDepth 20000 in
theorem gL_law_X6_load : GoodIn wsL_law (wsV RL 101 RX6 yX6_load wsX6_load) := goodIn_app (goodIn_of _ (by decide +kernel)) ggL_law_X6_load
set_option maxRecDepth 20000 in
theorem ggL_law_L_offer : GoodIn wsL_law wsL_offer := goodIn_ca (goodIn_ca (goodIn_r _ [219, 144, 101, 220, 221, 222, 2, 223, 20, 183, 203, 224, 225, 226, 151, 152, 153, 154, 155, 108, 109, 110, 111, 112, 227, 228, 229, 45, 230, 58, 56, 231, 232, 233, 234, 726, 727, 728, 744, 745, 746, 747, 748, 749, 750, 751, 752, 753, 757, 758, 759, 760, 761, 762, 763, 764, 765, 766, 767, 768, 769, 770, 771, 772] (by decide +kernel) (by decide +kernel)) (goodIn_sub (fun _ h => List.mem_append_right _ h) (by decide +kernel))) (goodIn_sub (fun _ h => List.mem_append_left _ (List.mem_append_left _ (List.mem_append_right _ h))) (by decide +kernel))
set_option maxRecDepth 20000 in
theorem gL_law_L_offer : GoodIn wsL_law (va_wsS RL 102 yL_offer wsL_offer) := goodIn_app (goodIn_of _ (by decide +kernel)) ggL_law_L_offer
set_option maxRecDepth 20000 in
theorem ggL_law_X6_offer : GoodIn wsL_law wsX6_offer := goodIn_r _ [238, 128, 73, 74, 75, 79, 210, 211, 212, 5, 213, 195, 130, 131, 132, 214, 215, 216, 133, 134, 135, 136, 239, 240, 241, 78, 242, 85, 88, 243, 232, 233, 234, 729, 730, 731, 732, 733, 734, 735, 736, 737, 738, 739, 740, 741, 773, 774, 775, 776, 777, 778, 779, 780, 781, 782, 783, 784, 785, 786] (by decide +kernel) (by decide +kernel)
set_option maxRecDepth 20000 in
theorem gL_law_X6_offer : GoodIn wsL_law (wsV RL 105 RX6 yX6_offer wsX6_offer) := goodIn_app (goodIn_of _ (by decide +kernel)) ggL_law_X6_offer
set_option maxRecDepth 20000 in
theorem ggL_law_L_moor : GoodIn wsL_law wsL_moor := goodIn_ca (goodIn_ca (goodIn_r _ [246, 144, 102, 247, 248, 249, 2, 250, 20, 183, 107, 203, 204, 251, 252, 151, 152, 153, 154, 155, 253, 254, 255, 41, 256, 257, 258, 113, 114, 115, 116, 117, 259, 260, 261, 19, 262, 263, 264, 39, 265, 266, 267, 268, 269, 270, 271, 50, 726, 727, 728, 744, 745, 746, 747, 748, 749, 750, 751, 752, 753, 757, 758, 759, 760, 761, 762, 763, 764, 765, 766, 767, 768, 769, 770, 771, 772, 754, 755, 756] (by decide +kernel) (by decide +kernel)) (goodIn_sub (fun _ h => List.mem_append_right _ h) (by decide +kernel))) (goodIn_sub (fun _ h => List.mem_append_left _ (List.mem_append_right _ h)) (by decide +kernel))
set_option maxRecDepth 20000 in
theorem gL_law_L_moor : GoodIn wsL_law (va_wsS RL 106 yL_moor wsL_moor) := goodIn_app (goodIn_of _ (by decide +kernel)) ggL_law_L_moor
set_option maxRecDepth 20000 in
theorem ggL_law_X6_moor : GoodIn wsL_law wsX6_moor := goodIn_r _ [275, 128, 79, 210, 211, 212, 5, 213, 195, 130, 131, 132, 276, 277, 278, 279, 129, 133, 134, 135, 136, 280, 281, 282, 78, 283, 85, 284, 285, 286, 287, 89, 90, 288, 289, 290, 291, 91, 729, 730, 731, 732, 733, 734, 735, 736, 737, 738, 739, 740, 741, 773, 774, 775, 776, 777, 778, 779, 780, 781, 782, 783, 784, 785, 786] (by decide +kernel) (by decide +kernel)
set_option maxRecDepth 20000 in
theorem gL_law_X6_moor : GoodIn wsL_law (wsV RL 108 RX6 yX6_moor wsX6_moor) := goodIn_app (goodIn_of _ (by decide +kernel)) ggL_law_X6_moor
set_option maxRecDepth 20000 in
theorem ggL_law_L_castOff : GoodIn wsL_law wsL_castOff := goodIn_ca (goodIn_ca (goodIn_r _ [294, 144, 102, 295, 296, 297, 2, 298, 20, 183, 203, 204, 151, 152, 153, 154, 155, 299, 300, 301, 19, 302, 263, 266, 37, 303, 304, 161, 162, 15, 163, 27, 164, 165, 166, 167, 113, 114, 115, 116, 117, 305, 306, 307, 308, 39, 264, 265, 43, 309, 310, 311, 312, 313, 314, 41, 315, 257, 50, 726, 727, 728, 744, 745, 746, 747, 748, 749, 750, 751, 752, 753, 757, 758, 759, 760, 761, 762, 763, 764, 765, 766, 767, 768, 769, 770, 771, 772, 742, 743, 754, 755, 756] (by decide +kernel) (by decide +kernel)) (goodIn_sub (fun _ h => List.mem_append_right _ h) (by decide +kernel))) (goodIn_sub (fun _ h => List.mem_append_left _ (List.mem_append_right _ h)) (by decide +kernel))
set_option maxRecDepth 20000 in
theorem gL_law_L_castOff : GoodIn wsL_law (va_wsS RL 109 yL_castOff wsL_castOff) := goodIn_app (goodIn_of _ (by decide +kernel)) ggL_law_L_castOff
set_option maxRecDepth 20000 in
theorem ggL_law_X6_castOff : GoodIn wsL_law wsX6_castOff := goodIn_r _ [319, 128, 79, 210, 211, 212, 5, 213, 195, 130, 131, 132, 133, 134, 135, 136, 320, 321, 322, 78, 323, 91, 85, 324, 325, 326, 327, 328, 89, 90, 93, 729, 730, 731, 732, 733, 734, 735, 736, 737, 738, 739, 740, 741, 773, 774, 775, 776, 777, 778, 779, 780, 781, 782, 783, 784, 785, 786] (by decide +kernel) (by decide +kernel)
set_option maxRecDepth 20000 in
theorem gL_law_X6_castOff : GoodIn wsL_law (wsV RL 111 RX6 yX6_castOff wsX6_castOff) := goodIn_app (goodIn_of _ (by decide +kernel)) ggL_law_X6_castOff
set_option maxRecDepth 20000 in
theorem ggL_law_L_leaveIn : GoodIn wsL_law wsL_leaveIn := goodIn_ca (goodIn_ca (goodIn_ca (goodIn_r _ [331, 144, 101, 102, 332, 333, 334, 2, 335, 20, 183, 336, 337, 203, 204, 338, 151, 152, 153, 154, 155, 108, 109, 110, 111, 112, 113, 114, 115, 116, 117, 726, 727, 728, 744, 745, 746, 747, 748, 749, 750, 751, 752, 753, 757, 758, 759, 760, 761, 762, 763, 764, 765, 766, 767, 768, 769, 770, 771, 772] (by decide +kernel) (by decide +kernel)) (goodIn_sub (fun _ h => List.mem_append_right _ h) (by decide +kernel))) (goodIn_sub (fun _ h => List.mem_append_left _ (List.mem_append_left _ (List.mem_append_right _ h))) (by decide +kernel))) (goodIn_sub (fun _ h => List.mem_append_left _ (List.mem_append_right _ h)) (by decide +kernel))
set_option maxRecDepth 20000 in
theorem gL_law_L_leaveIn : GoodIn wsL_law (va_wsS RL 112 yL_leaveIn wsL_leaveIn) := goodIn_app (goodIn_of _ (by decide +kernel)) ggL_law_L_leaveIn
set_option maxRecDepth 20000 in
theorem ggL_law_X6_leaveIn : GoodIn wsL_law wsX6_leaveIn := goodIn_r _ [342, 128, 79, 210, 211, 212, 5, 213, 195, 130, 131, 132, 133, 134, 135, 136, 729, 730, 731, 732, 733, 734, 735, 736, 737, 738, 739, 740, 741, 773, 774, 775, 776, 777, 778, 779, 780, 781, 782, 783, 784, 785, 786] (by decide +kernel) (by decide +kernel)
set_option maxRecDepth 20000 in
theorem gL_law_X6_leaveIn : GoodIn wsL_law (wsV RL 114 RX6 yX6_leaveIn wsX6_leaveIn) := goodIn_app (goodIn_of _ (by decide +kernel)) ggL_law_X6_leaveIn
set_option maxRecDepth 20000 in
theorem ggL_law_L_canoe : GoodIn wsL_law wsL_canoe := goodIn_ca (goodIn_r _ [345, 144, 346, 347, 348, 2, 349, 20, 183, 203, 151, 152, 153, 154, 155, 350, 351, 352, 45, 353, 354, 355, 60, 61, 62, 63, 356, 357, 358, 359, 360, 361, 362, 363, 364, 228, 229, 230, 58, 56, 231, 232, 233, 234, 726, 727, 728, 744, 745, 746, 747, 748, 749, 750, 751, 752, 753, 757, 758, 759, 760, 761, 762, 763, 764, 765, 766, 767, 768, 769, 770, 771, 772] (by decide +kernel) (by decide +kernel)) (goodIn_sub (fun _ h => List.mem_append_right _ h) (by decide +kernel))
set_option maxRecDepth 20000 in
theorem gL_law_L_canoe : GoodIn wsL_law (va_wsS RL 115 yL_canoe wsL_canoe) := goodIn_app (goodIn_of _ (by decide +kernel)) ggL_law_L_canoe
set_option maxRecDepth 20000 in
theorem ggL_law_X6_canoe : GoodIn wsL_law wsX6_canoe := goodIn_r _ [368, 128, 210, 211, 212, 5, 213, 195, 130, 131, 132, 369, 370, 371, 372, 79, 26, 72, 373, 374, 375, 78, 376, 377, 240, 241, 242, 85, 88, 243, 232, 233, 234, 133, 134, 135, 136, 729, 730, 731, 732, 733, 734, 735, 736, 737, 738, 739, 740, 741, 773, 774, 775, 776, 777, 778, 779, 780, 781, 782, 783, 784, 785, 786] (by decide +kernel) (by decide +kernel)
set_option maxRecDepth 20000 in
theorem gL_law_X6_canoe : GoodIn wsL_law (wsV RL 117 RX6 yX6_canoe wsX6_canoe) := goodIn_app (goodIn_of _ (by decide +kernel)) ggL_law_X6_canoe
set_option maxRecDepth 20000 in
theorem ggL_law_L_good : GoodIn wsL_law wsL_good := goodIn_ca (goodIn_r _ [380, 144, 381, 382, 383, 2, 384, 20, 183, 203, 151, 152, 153, 154, 155, 385, 386, 387, 45, 388, 56, 57, 58, 59, 726, 727, 728, 744, 745, 746, 747, 748, 749, 750, 751, 752, 753, 757, 758, 759, 760, 761, 762, 763, 764, 765, 766, 767, 768, 769, 770, 771, 772] (by decide +kernel) (by decide +kernel)) (goodIn_sub (fun _ h => List.mem_append_right _ h) (by decide +kernel))
set_option maxRecDepth 20000 in
theorem gL_law_L_good : GoodIn wsL_law (va_wsS RL 118 yL_good wsL_good) := goodIn_app (goodIn_of _ (by decide +kernel)) ggL_law_L_good
set_option maxRecDepth 20000 in
theorem ggL_law_X6_good : GoodIn wsL_law wsX6_good := goodIn_r _ [392, 128, 210, 211, 212, 5, 213, 195, 130, 131, 132, 214, 215, 216, 393, 394, 395, 396, 79, 73, 74, 75, 133, 134, 135, 136, 729, 730, 731, 732, 733, 734, 735, 736, 737, 738, 739, 740, 741, 773, 774, 775, 776, 777, 778, 779, 780, 781, 782, 783, 784, 785, 786] (by decide +kernel) (by decide +kernel)
set_option maxRecDepth 20000 in
theorem gL_law_X6_good : GoodIn wsL_law (wsV RL 120 RX6 yX6_good wsX6_good) := goodIn_app (goodIn_of _ (by decide +kernel)) ggL_law_X6_good
set_option maxRecDepth 20000 in
theorem ggL_law_L_at : GoodIn wsL_law wsL_at := goodIn_ca (goodIn_r _ [399, 144, 400, 401, 402, 2, 403, 20, 107, 251, 404, 151, 152, 153, 154, 155, 405, 406, 407, 41, 408, 257, 50, 726, 727, 728, 744, 745, 746, 747, 748, 749, 750, 751, 752, 753, 754, 755, 756] (by decide +kernel) (by decide +kernel)) (goodIn_sub (fun _ h => List.mem_append_right _ h) (by decide +kernel))
set_option maxRecDepth 20000 in
theorem gL_law_L_at : GoodIn wsL_law (va_wsS RL 121 yL_at wsL_at) := goodIn_app (goodIn_of _ (by decide +kernel)) ggL_law_L_at
set_option maxRecDepth 20000 in
theorem ggL_law_X6_at : GoodIn wsL_law wsX6_at := goodIn_r _ [412, 128, 69, 79, 276, 277, 278, 5, 279, 129, 130, 131, 132, 413, 414, 415, 78, 416, 85, 89, 90, 91, 133, 134, 135, 136, 729, 730, 731, 732, 733, 734, 735, 736, 737, 738, 739, 740, 741, 773, 774, 775, 776, 777, 778, 779, 780, 781, 782, 783, 784, 785, 786] (by decide +kernel) (by decide +kernel)
set_option maxRecDepth 20000 in
theorem gL_law_X6_at : GoodIn wsL_law (wsV RL 123 RX6 yX6_at wsX6_at) := goodIn_app (goodIn_of _ (by decide +kernel)) ggL_law_X6_at
set_option maxRecDepth 20000 in
theorem ggL_law_L_beside : GoodIn wsL_law wsL_beside := goodIn_ca (goodIn_r _ [419, 144, 420, 421, 422, 2, 423, 20, 183, 203, 151, 152, 153, 154, 155, 424, 425, 426, 45, 427, 60, 61, 428, 429, 233, 430, 62, 726, 727, 728, 744, 745, 746, 747, 748, 749, 750, 751, 752, 753, 757, 758, 759, 760, 761, 762, 763, 764, 765, 766, 767, 768, 769, 770, 771, 772] (by decide +kernel) (by decide +kernel)) (goodIn_sub (fun _ h => List.mem_append_right _ h) (by decide +kernel))
set_option maxRecDepth 20000 in
theorem gL_law_L_beside : GoodIn wsL_law (va_wsS RL 124 yL_beside wsL_beside) := goodIn_app (goodIn_of _ (by decide +kernel)) ggL_law_L_beside
set_option maxRecDepth 20000 in
theorem ggL_law_X6_beside : GoodIn wsL_law wsX6_beside := goodIn_r _ [434, 128, 79, 210, 211, 212, 5, 213, 195, 130, 131, 132, 435, 436, 437, 78, 438, 89, 90, 439, 429, 233, 430, 91, 133, 134, 135, 136, 729, 730, 731, 732, 733, 734, 735, 736, 737, 738, 739, 740, 741, 773, 774, 775, 776, 777, 778, 779, 780, 781, 782, 783, 784, 785, 786] (by decide +kernel) (by decide +kernel)
set_option maxRecDepth 20000 in
theorem gL_law_X6_beside : GoodIn wsL_law (wsV RL 126 RX6 yX6_beside wsX6_beside) := goodIn_app (goodIn_of _ (by decide +kernel)) ggL_law_X6_beside
set_option maxRecDepth 20000 in
theorem ggL_law_L_pass : GoodIn wsL_law wsL_pass := goodIn_ca (goodIn_r _ [442, 101, 443, 444, 445, 2, 446, 20, 447, 108, 109, 110, 111, 112, 448, 449, 450, 19, 451, 303, 452, 453, 454, 455, 37, 122, 39, 265, 190, 456, 457, 169, 170, 15, 171, 28, 164, 165, 166, 167, 458, 459, 460, 461, 43, 462, 406, 407, 41, 408, 257, 50, 463, 464, 465, 466, 467, 468, 469, 306, 307, 308, 263, 264, 266, 309, 310, 311, 312, 313, 314, 315, 470, 471, 472, 473, 474, 254, 255, 256, 258, 475, 260, 261, 262, 267, 268, 269, 270, 271, 476, 477, 478, 479, 188, 480, 481, 482, 45, 483, 63, 484, 300, 301, 302, 304, 161, 162, 163, 27, 485, 486, 487, 488, 489, 228, 229, 230, 58, 56, 231, 232, 233, 234, 490, 491, 492, 493, 494, 189, 495, 496, 497, 498, 499, 500, 501, 502, 503, 504, 505, 506, 57, 507, 508, 509, 510, 511, 512, 513, 514, 515, 726, 727, 728, 744, 745, 746, 747, 748, 749, 750, 751, 752, 753, 754, 755, 756, 757, 758, 759, 760, 761, 762, 763, 764, 765, 766, 767, 768, 769, 770, 771, 772, 742, 743] (by decide +kernel) (by decide +kernel)) (goodIn_sub (fun _ h => List.mem_append_left _ (List.mem_append_left _ (List.mem_append_right _ h))) (by decide +kernel))
set_option maxRecDepth 20000 in
theorem gL_law_L_pass : GoodIn wsL_law (va_wsS RL 127 yL_pass wsL_pass) := goodIn_app (goodIn_of _ (by decide +kernel)) ggL_law_L_pass
set_option maxRecDepth 20000 in
theorem ggL_law_X6_pass_ : GoodIn wsL_law wsX6_pass_ := goodIn_r _ [519, 128, 79, 130, 131, 5, 132, 520, 521, 522, 523, 82, 524, 525, 526, 78, 527, 528, 85, 89, 92, 324, 529, 530, 531, 532, 94, 284, 285, 286, 287, 90, 533, 414, 415, 416, 91, 534, 281, 282, 283, 535, 289, 290, 291, 536, 321, 322, 323, 537, 326, 327, 328, 93, 538, 539, 540, 541, 87, 88, 96, 95, 542, 377, 240, 241, 242, 243, 232, 233, 234, 543, 436, 437, 438, 439, 429, 430, 133, 134, 135, 136, 729, 730, 731, 732, 733, 734, 735, 736, 737, 738, 739, 740, 741, 773, 774, 775, 776, 777, 778, 779, 780, 781, 782, 783, 784, 785, 786] (by decide +kernel) (by decide +kernel)
set_option maxRecDepth 20000 in
theorem gL_law_X6_pass_ : GoodIn wsL_law (wsV RL 129 RX6 yX6_pass_ wsX6_pass_) := goodIn_app (goodIn_of _ (by decide +kernel)) ggL_law_X6_pass_
set_option maxRecDepth 20000 in
theorem ggL_law_L_count : GoodIn wsL_law wsL_count := goodIn_ca (goodIn_r _ [546, 144, 547, 548, 549, 2, 550, 20, 151, 152, 153, 154, 155, 551, 552, 553, 19, 554, 303, 122, 188, 514, 515, 311, 468, 555, 556, 557, 558, 43, 263, 559, 560, 561, 562, 189, 563, 564, 565, 566, 567, 568, 569, 45, 570, 56, 571, 572, 573, 574, 484, 300, 301, 302, 266, 37, 304, 161, 162, 15, 163, 27, 164, 165, 166, 167, 726, 727, 728, 744, 745, 746, 747, 748, 749, 750, 751, 752, 753, 757, 758, 759, 760, 761, 762, 763, 764, 765, 766, 767, 768, 769, 770, 771, 772, 742, 743] (by decide +kernel) (by decide +kernel)) (goodIn_sub (fun _ h => List.mem_append_right _ h) (by decide +kernel))
set_option maxRecDepth 20000 in
theorem gL_law_L_count : GoodIn wsL_law (va_wsS RL 130 yL_count wsL_count) := goodIn_app (goodIn_of _ (by decide +kernel)) ggL_law_L_count
set_option maxRecDepth 20000 in
theorem ggL_law_X6_count : GoodIn wsL_law wsX6_count := goodIn_r _ [578, 128, 130, 131, 5, 132, 579, 580, 581, 582, 195, 79, 26, 129, 320, 321, 322, 78, 323, 91, 85, 324, 583, 584, 585, 586, 89, 587, 588, 589, 590, 133, 134, 135, 136, 729, 730, 731, 732, 733, 734, 735, 736, 737, 738, 739, 740, 741, 773, 774, 775, 776, 777, 778, 779, 780, 781, 782, 783, 784, 785, 786] (by decide +kernel) (by decide +kernel)
set_option maxRecDepth 20000 in
theorem gL_law_X6_count : GoodIn wsL_law (wsV RL 132 RX6 yX6_count wsX6_count) := goodIn_app (goodIn_of _ (by decide +kernel)) ggL_law_X6_count

