set_option maxRecDepth 20000 in
theorem ggL_law_L_setRules : GoodIn wsL_law wsL_setRules := goodIn_ca (goodIn_r _ [291, 128, 292, 293, 294, 2, 295, 133, 134, 16, 296, 297, 298, 136, 137, 138, 139, 140, 141, 142, 20, 24, 143, 144, 145, 19, 146, 147, 148, 149, 150, 151, 152, 153, 154, 155, 156, 74, 157, 158, 159, 15, 160, 40, 41, 42, 43, 44, 64, 63, 45, 46, 47, 48, 49, 50, 51, 52, 161, 162, 163, 39, 164, 58, 165, 166, 167, 23, 168, 169, 823, 824, 825, 826, 827, 840, 841, 842, 843, 844, 845, 846, 847, 848, 849, 850, 851, 852, 853, 854, 855, 856, 857, 873, 858, 859, 860, 861, 862, 863] (by decide +kernel) (by decide +kernel)) (goodIn_sub (fun _ h => List.mem_append_left _ (List.mem_append_left _ (List.mem_append_right _ h))) (by decide +kernel))
set_option maxRecDepth 20000 in
theorem gL_law_L_setRules : GoodIn wsL_law (va_wsS RL 123 yL_setRules wsL_setRules) := goodIn_app (goodIn_of _ (by decide +kernel)) ggL_law_L_setRules
set_option maxRecDepth 20000 in
theorem ggL_law_X7_setRules : GoodIn wsL_law wsX7_setRules := goodIn_r _ [302, 111, 175, 176, 5, 177, 178, 179, 180, 181, 182, 183, 184, 185, 186, 187, 112, 828, 829, 830, 831, 832, 833, 834, 835, 836, 837, 838, 839] (by decide +kernel) (by decide +kernel)
set_option maxRecDepth 20000 in
theorem gL_law_X7_setRules : GoodIn wsL_law (wsV RL 125 RX7 yX7_setRules wsX7_setRules) := goodIn_app (goodIn_of _ (by decide +kernel)) ggL_law_X7_setRules
set_option maxRecDepth 20000 in
theorem ggL_law_L_setSight : GoodIn wsL_law wsL_setSight := goodIn_ca (goodIn_r _ [305, 128, 306, 307, 308, 2, 309, 133, 134, 16, 310, 311, 136, 137, 138, 139, 140, 141, 142, 20, 24, 143, 144, 145, 19, 146, 147, 148, 149, 150, 151, 152, 153, 154, 155, 156, 74, 157, 158, 159, 15, 160, 40, 41, 42, 43, 44, 64, 63, 45, 46, 47, 48, 49, 50, 51, 52, 161, 162, 163, 39, 164, 58, 165, 166, 167, 23, 168, 169, 823, 824, 825, 826, 827, 840, 841, 842, 843, 844, 845, 846, 847, 848, 849, 850, 851, 852, 853, 854, 855, 856, 857, 873, 858, 859, 860, 861, 862, 863] (by decide +kernel) (by decide +kernel)) (goodIn_sub (fun _ h => List.mem_append_left _ (List.mem_append_left _ (List.mem_append_right _ h))) (by decide +kernel))
set_option maxRecDepth 20000 in
theorem gL_law_L_setSight : GoodIn wsL_law (va_wsS RL 126 yL_setSight wsL_setSight) := goodIn_app (goodIn_of _ (by decide +kernel)) ggL_law_L_setSight
set_option maxRecDepth 20000 in
theorem ggL_law_X7_setSight : GoodIn wsL_law wsX7_setSight := goodIn_r _ [315, 111, 175, 176, 5, 177, 178, 179, 180, 181, 182, 183, 184, 185, 186, 187, 112, 828, 829, 830, 831, 832, 833, 834, 835, 836, 837, 838, 839] (by decide +kernel) (by decide +kernel)
set_option maxRecDepth 20000 in
theorem gL_law_X7_setSight : GoodIn wsL_law (wsV RL 129 RX7 yX7_setSight wsX7_setSight) := goodIn_app (goodIn_of _ (by decide +kernel)) ggL_law_X7_setSight
set_option maxRecDepth 20000 in
theorem ggL_law_L_limit : GoodIn wsL_law wsL_limit := goodIn_ca (goodIn_r _ [318, 319, 320, 321, 322, 2, 323, 324, 325, 16, 135, 199, 136, 137, 138, 266, 247, 248, 39, 249, 58, 823, 824, 825, 826, 827, 840, 841, 842, 843, 844, 845, 846, 847, 848, 849, 850, 851, 852, 853, 854, 873] (by decide +kernel) (by decide +kernel)) (goodIn_sub (fun _ h => List.mem_append_left _ (List.mem_append_right _ h)) (by decide +kernel))
set_option maxRecDepth 20000 in
theorem gL_law_L_limit : GoodIn wsL_law (va_wsS RL 130 yL_limit wsL_limit) := goodIn_app (goodIn_of _ (by decide +kernel)) ggL_law_L_limit
set_option maxRecDepth 20000 in
theorem ggL_law_X7_limit : GoodIn wsL_law wsX7_limit := goodIn_r _ [329, 111, 214, 215, 216, 5, 217, 175, 176, 177, 178, 179, 180, 181, 182, 828, 829, 830, 831, 832, 833, 834, 835, 836, 837, 838, 839] (by decide +kernel) (by decide +kernel)
set_option maxRecDepth 20000 in
theorem gL_law_X7_limit : GoodIn wsL_law (wsV RL 132 RX7 yX7_limit wsX7_limit) := goodIn_app (goodIn_of _ (by decide +kernel)) ggL_law_X7_limit
set_option maxRecDepth 20000 in
theorem ggL_law_L_gradient : GoodIn wsL_law wsL_gradient := goodIn_ca (goodIn_r _ [332, 319, 333, 334, 335, 2, 336, 324, 325, 16, 135, 229, 136, 137, 138, 266, 247, 248, 39, 249, 58, 823, 824, 825, 826, 827, 840, 841, 842, 843, 844, 845, 846, 847, 848, 849, 850, 851, 852, 853, 854, 873] (by decide +kernel) (by decide +kernel)) (goodIn_sub (fun _ h => List.mem_append_left _ (List.mem_append_right _ h)) (by decide +kernel))
set_option maxRecDepth 20000 in
theorem gL_law_L_gradient : GoodIn wsL_law (va_wsS RL 133 yL_gradient wsL_gradient) := goodIn_app (goodIn_of _ (by decide +kernel)) ggL_law_L_gradient
set_option maxRecDepth 20000 in
theorem ggL_law_X7_gradient : GoodIn wsL_law wsX7_gradient := goodIn_r _ [340, 111, 214, 215, 216, 5, 217, 175, 176, 177, 178, 179, 180, 181, 182, 828, 829, 830, 831, 832, 833, 834, 835, 836, 837, 838, 839] (by decide +kernel) (by decide +kernel)
set_option maxRecDepth 20000 in
theorem gL_law_X7_gradient : GoodIn wsL_law (wsV RL 135 RX7 yX7_gradient wsX7_gradient) := goodIn_app (goodIn_of _ (by decide +kernel)) ggL_law_X7_gradient
set_option maxRecDepth 20000 in
theorem ggL_law_L_isBarred : GoodIn wsL_law wsL_isBarred := goodIn_ca (goodIn_r _ [343, 319, 344, 345, 346, 2, 347, 324, 325, 16, 135, 241, 136, 137, 138, 266, 247, 248, 39, 249, 58, 823, 824, 825, 826, 827, 840, 841, 842, 843, 844, 845, 846, 847, 848, 849, 850, 851, 852, 853, 854, 873] (by decide +kernel) (by decide +kernel)) (goodIn_sub (fun _ h => List.mem_append_left _ (List.mem_append_right _ h)) (by decide +kernel))
set_option maxRecDepth 20000 in
theorem gL_law_L_isBarred : GoodIn wsL_law (va_wsS RL 136 yL_isBarred wsL_isBarred) := goodIn_app (goodIn_of _ (by decide +kernel)) ggL_law_L_isBarred
set_option maxRecDepth 20000 in
theorem ggL_law_X7_isBarred : GoodIn wsL_law wsX7_isBarred := goodIn_r _ [351, 111, 254, 255, 256, 5, 257, 175, 176, 177, 178, 179, 180, 181, 182, 828, 829, 830, 831, 832, 833, 834, 835, 836, 837, 838, 839] (by decide +kernel) (by decide +kernel)
set_option maxRecDepth 20000 in
theorem gL_law_X7_isBarred : GoodIn wsL_law (wsV RL 138 RX7 yX7_isBarred wsX7_isBarred) := goodIn_app (goodIn_of _ (by decide +kernel)) ggL_law_X7_isBarred
set_option maxRecDepth 20000 in
theorem ggL_law_L_energy : GoodIn wsL_law wsL_energy := goodIn_ca (goodIn_r _ [354, 319, 355, 356, 357, 2, 358, 324, 325, 16, 135, 24, 359, 136, 137, 138, 360, 361, 362, 23, 363, 169, 364, 365, 366, 367, 85, 368, 81, 369, 150, 151, 152, 370, 371, 372, 373, 374, 375, 247, 248, 39, 249, 58, 376, 377, 378, 379, 268, 269, 270, 380, 381, 382, 383, 384, 385, 386, 387, 388, 389, 82, 390, 391, 392, 393, 394, 395, 396, 397, 83, 398, 399, 400, 401, 402, 403, 404, 405, 406, 407, 408, 84, 409, 266, 823, 824, 825, 826, 827, 840, 841, 842, 843, 844, 845, 846, 847, 848, 849, 850, 851, 852, 853, 854, 858, 859, 860, 861, 862, 863, 873] (by decide +kernel) (by decide +kernel)) (goodIn_sub (fun _ h => List.mem_append_left _ (List.mem_append_right _ h)) (by decide +kernel))
set_option maxRecDepth 20000 in
theorem gL_law_L_energy : GoodIn wsL_law (va_wsS RL 139 yL_energy wsL_energy) := goodIn_app (goodIn_of _ (by decide +kernel)) ggL_law_L_energy
set_option maxRecDepth 20000 in
theorem ggL_law_X7_energy : GoodIn wsL_law wsX7_energy := goodIn_r _ [413, 113, 254, 255, 256, 5, 257, 111, 175, 176, 177, 178, 179, 180, 181, 182, 414, 415, 416, 417, 114, 115, 116, 418, 419, 420, 421, 422, 423, 424, 425, 426, 427, 428, 429, 430, 431, 432, 433, 434, 435, 828, 829, 830, 831, 832, 833, 834, 835, 836, 837, 838, 839] (by decide +kernel) (by decide +kernel)
set_option maxRecDepth 20000 in
theorem gL_law_X7_energy : GoodIn wsL_law (wsV RL 141 RX7 yX7_energy wsX7_energy) := goodIn_app (goodIn_of _ (by decide +kernel)) ggL_law_X7_energy
set_option maxRecDepth 20000 in
theorem ggL_law_L_profileSpeed : GoodIn wsL_law wsL_profileSpeed := goodIn_ca (goodIn_r _ [438, 319, 439, 440, 441, 2, 442, 324, 325, 16, 135, 24, 443, 136, 137, 138, 360, 361, 362, 23, 363, 169, 364, 365, 366, 367, 85, 368, 81, 369, 150, 151, 152, 370, 371, 372, 373, 374, 375, 247, 248, 39, 249, 58, 376, 377, 378, 379, 268, 269, 270, 380, 381, 382, 383, 384, 385, 386, 387, 388, 389, 82, 390, 391, 392, 393, 394, 395, 396, 397, 83, 398, 399, 400, 401, 402, 403, 404, 405, 406, 407, 408, 84, 409, 266, 823, 824, 825, 826, 827, 840, 841, 842, 843, 844, 845, 846, 847, 848, 849, 850, 851, 852, 853, 854, 858, 859, 860, 861, 862, 863, 873] (by decide +kernel) (by decide +kernel)) (goodIn_sub (fun _ h => List.mem_append_left _ (List.mem_append_right _ h)) (by decide +kernel))
set_option maxRecDepth 20000 in
theorem gL_law_L_profileSpeed : GoodIn wsL_law (va_wsS RL 142 yL_profileSpeed wsL_profileSpeed) := goodIn_app (goodIn_of _ (by decide +kernel)) ggL_law_L_profileSpeed
set_option maxRecDepth 20000 in
theorem ggL_law_X7_profileSpeed : GoodIn wsL_law wsX7_profileSpeed := goodIn_r _ [447, 114, 254, 255, 256, 5, 257, 111, 175, 176, 177, 178, 179, 180, 181, 182, 414, 415, 416, 417, 113, 115, 116, 418, 419, 420, 421, 422, 423, 424, 425, 426, 427, 428, 429, 430, 431, 432, 433, 434, 435, 828, 829, 830, 831, 832, 833, 834, 835, 836, 837, 838, 839] (by decide +kernel) (by decide +kernel)
set_option maxRecDepth 20000 in
theorem gL_law_X7_profileSpeed : GoodIn wsL_law (wsV RL 144 RX7 yX7_profileSpeed wsX7_profileSpeed) := goodIn_app (goodIn_of _ (by decide +kernel)) ggL_law_X7_profileSpeed
set_option maxRecDepth 20000 in
theorem ggL_law_L_brakingDistance : GoodIn wsL_law wsL_brakingDistance := goodIn_ca (goodIn_r _ [450, 319, 451, 452, 453, 2, 454, 324, 325, 16, 135, 24, 455, 136, 137, 138, 360, 361, 362, 23, 363, 169, 364, 365, 366, 367, 85, 368, 81, 369, 150, 151, 152, 370, 371, 372, 373, 374, 375, 247, 248, 39, 249, 58, 376, 377, 378, 379, 268, 269, 270, 380, 381, 382, 383, 384, 385, 386, 387, 388, 389, 82, 390, 391, 392, 393, 394, 395, 396, 397, 83, 398, 399, 400, 401, 402, 403, 404, 405, 406, 407, 408, 84, 409, 266, 823, 824, 825, 826, 827, 840, 841, 842, 843, 844, 845, 846, 847, 848, 849, 850, 851, 852, 853, 854, 858, 859, 860, 861, 862, 863, 873] (by decide +kernel) (by decide +kernel)) (goodIn_sub (fun _ h => List.mem_append_left _ (List.mem_append_right _ h)) (by decide +kernel))
set_option maxRecDepth 20000 in
theorem gL_law_L_brakingDistance : GoodIn wsL_law (va_wsS RL 145 yL_brakingDistance wsL_brakingDistance) := goodIn_app (goodIn_of _ (by decide +kernel)) ggL_law_L_brakingDistance
