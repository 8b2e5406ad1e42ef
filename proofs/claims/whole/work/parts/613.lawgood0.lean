set_option maxRecDepth 20000 in
theorem ggL_law_X6_init : GoodIn wsL_law wsX6_init := goodIn_r _ [9, 10, 11, 12, 13, 14, 15, 16, 17, 18, 19, 20, 21, 22, 23, 24, 25, 26, 27, 28, 29, 30, 31, 32, 33, 34, 35, 36, 37, 38, 39, 40, 41, 42, 43, 44, 45, 46, 47, 48, 49, 50, 51, 52, 53, 54, 55, 56, 57, 58, 59, 60, 61, 62, 63, 64, 65, 66, 67, 68, 69, 70, 71, 72, 73, 74, 75, 76, 77, 78, 79, 80, 81, 82, 83, 84, 85, 86, 87, 88, 89, 90, 91, 92, 93, 94, 95, 96, 97, 98, 99, 100, 101, 102, 103, 104, 105, 106, 840, 841, 842, 843, 844, 845, 846, 847, 848, 849, 850, 851, 852, 853, 854, 823, 824, 825, 826, 827, 855, 856, 857, 858, 859, 860, 861, 862, 863, 864, 865, 866, 867, 868, 869, 870, 871, 872, 873] (by decide +kernel) (by decide +kernel)
set_option maxRecDepth 20000 in
theorem gL_law_X6_init : GoodIn wsL_law (wsX6_init) := ggL_law_X6_init
set_option maxRecDepth 20000 in
theorem ggL_law_X7_init : GoodIn wsL_law wsX7_init := goodIn_r _ [109, 110, 11, 12, 57, 111, 112, 6, 113, 114, 115, 116, 117, 118, 119, 120, 121, 122, 5, 123, 828, 829, 830, 831, 832, 833, 834, 835, 836, 837, 838, 839] (by decide +kernel) (by decide +kernel)
set_option maxRecDepth 20000 in
theorem gL_law_X7_init : GoodIn wsL_law (wsX7_init) := ggL_law_X7_init
set_option maxRecDepth 20000 in
theorem ggL_law_L_setLength : GoodIn wsL_law wsL_setLength := goodIn_ca (goodIn_r _ [127, 128, 129, 130, 131, 2, 132, 133, 134, 16, 135, 136, 137, 138, 139, 140, 141, 142, 20, 24, 143, 144, 145, 19, 146, 147, 148, 149, 150, 151, 152, 153, 154, 155, 156, 74, 157, 158, 159, 15, 160, 40, 41, 42, 43, 44, 64, 63, 45, 46, 47, 48, 49, 50, 51, 52, 161, 162, 163, 39, 164, 58, 165, 166, 167, 23, 168, 169, 170, 60, 61, 62, 65, 66, 67, 68, 823, 824, 825, 826, 827, 840, 841, 842, 843, 844, 845, 846, 847, 848, 849, 850, 851, 852, 853, 854, 855, 856, 857, 873, 858, 859, 860, 861, 862, 863] (by decide +kernel) (by decide +kernel)) (goodIn_sub (fun _ h => List.mem_append_left _ (List.mem_append_left _ (List.mem_append_right _ h))) (by decide +kernel))
set_option maxRecDepth 20000 in
theorem gL_law_L_setLength : GoodIn wsL_law (va_wsS RL 96 yL_setLength wsL_setLength) := goodIn_app (goodIn_of _ (by decide +kernel)) ggL_law_L_setLength
set_option maxRecDepth 20000 in
theorem ggL_law_X7_setLength : GoodIn wsL_law wsX7_setLength := goodIn_r _ [174, 111, 175, 176, 5, 177, 178, 179, 180, 181, 182, 183, 184, 185, 186, 187, 112, 120, 121, 122, 123, 828, 829, 830, 831, 832, 833, 834, 835, 836, 837, 838, 839] (by decide +kernel) (by decide +kernel)
set_option maxRecDepth 20000 in
theorem gL_law_X7_setLength : GoodIn wsL_law (wsV RL 101 RX7 yX7_setLength wsX7_setLength) := goodIn_app (goodIn_of _ (by decide +kernel)) ggL_law_X7_setLength
set_option maxRecDepth 20000 in
theorem ggL_law_X7_thrown : GoodIn wsL_law wsX7_thrown := goodIn_r _ [191, 182, 828, 829, 830, 831, 832, 833, 834, 835, 836, 837, 838, 839] (by decide +kernel) (by decide +kernel)
set_option maxRecDepth 20000 in
theorem gL_law_X7_thrown : GoodIn wsL_law (wsV RL 102 RX7 yX7_thrown wsX7_thrown) := goodIn_app (goodIn_of _ (by decide +kernel)) ggL_law_X7_thrown
set_option maxRecDepth 20000 in
theorem ggL_law_L_setLimit : GoodIn wsL_law wsL_setLimit := goodIn_ca (goodIn_r _ [194, 128, 195, 196, 197, 2, 198, 133, 134, 16, 135, 199, 200, 201, 202, 136, 137, 138, 139, 140, 141, 142, 20, 24, 143, 144, 145, 19, 146, 147, 148, 149, 150, 151, 152, 153, 154, 155, 156, 74, 157, 158, 159, 15, 160, 40, 41, 42, 43, 44, 64, 63, 45, 46, 47, 48, 49, 50, 51, 52, 161, 162, 163, 39, 164, 58, 165, 166, 167, 23, 168, 169, 203, 204, 205, 206, 207, 208, 209, 823, 824, 825, 826, 827, 840, 841, 842, 843, 844, 845, 846, 847, 848, 849, 850, 851, 852, 853, 854, 855, 856, 857, 873, 858, 859, 860, 861, 862, 863] (by decide +kernel) (by decide +kernel)) (goodIn_sub (fun _ h => List.mem_append_left _ (List.mem_append_left _ (List.mem_append_right _ h))) (by decide +kernel))
set_option maxRecDepth 20000 in
theorem gL_law_L_setLimit : GoodIn wsL_law (va_wsS RL 105 yL_setLimit wsL_setLimit) := goodIn_app (goodIn_of _ (by decide +kernel)) ggL_law_L_setLimit
set_option maxRecDepth 20000 in
theorem ggL_law_X7_setLimit : GoodIn wsL_law wsX7_setLimit := goodIn_r _ [213, 214, 215, 216, 5, 217, 111, 175, 176, 177, 178, 179, 180, 181, 182, 218, 219, 220, 221, 183, 184, 185, 186, 187, 112, 828, 829, 830, 831, 832, 833, 834, 835, 836, 837, 838, 839] (by decide +kernel) (by decide +kernel)
set_option maxRecDepth 20000 in
theorem gL_law_X7_setLimit : GoodIn wsL_law (wsV RL 108 RX7 yX7_setLimit wsX7_setLimit) := goodIn_app (goodIn_of _ (by decide +kernel)) ggL_law_X7_setLimit
set_option maxRecDepth 20000 in
theorem ggL_law_L_setGradient : GoodIn wsL_law wsL_setGradient := goodIn_ca (goodIn_r _ [224, 128, 225, 226, 227, 2, 228, 133, 134, 16, 135, 229, 200, 201, 202, 136, 137, 138, 139, 140, 141, 142, 20, 24, 143, 144, 145, 19, 146, 147, 148, 149, 150, 151, 152, 153, 154, 155, 156, 74, 157, 158, 159, 15, 160, 40, 41, 42, 43, 44, 64, 63, 45, 46, 47, 48, 49, 50, 51, 52, 161, 162, 163, 39, 164, 58, 165, 166, 167, 23, 168, 169, 203, 204, 205, 206, 207, 208, 209, 823, 824, 825, 826, 827, 840, 841, 842, 843, 844, 845, 846, 847, 848, 849, 850, 851, 852, 853, 854, 855, 856, 857, 873, 858, 859, 860, 861, 862, 863] (by decide +kernel) (by decide +kernel)) (goodIn_sub (fun _ h => List.mem_append_left _ (List.mem_append_left _ (List.mem_append_right _ h))) (by decide +kernel))
set_option maxRecDepth 20000 in
theorem gL_law_L_setGradient : GoodIn wsL_law (va_wsS RL 109 yL_setGradient wsL_setGradient) := goodIn_app (goodIn_of _ (by decide +kernel)) ggL_law_L_setGradient
set_option maxRecDepth 20000 in
theorem ggL_law_X7_setGradient : GoodIn wsL_law wsX7_setGradient := goodIn_r _ [233, 214, 215, 216, 5, 217, 111, 175, 176, 177, 178, 179, 180, 181, 182, 218, 219, 220, 221, 183, 184, 185, 186, 187, 112, 828, 829, 830, 831, 832, 833, 834, 835, 836, 837, 838, 839] (by decide +kernel) (by decide +kernel)
set_option maxRecDepth 20000 in
theorem gL_law_X7_setGradient : GoodIn wsL_law (wsV RL 111 RX7 yX7_setGradient wsX7_setGradient) := goodIn_app (goodIn_of _ (by decide +kernel)) ggL_law_X7_setGradient
set_option maxRecDepth 20000 in
theorem ggL_law_L_setBarred : GoodIn wsL_law wsL_setBarred := goodIn_ca (goodIn_r _ [236, 128, 237, 238, 239, 2, 240, 133, 134, 16, 135, 241, 200, 201, 202, 139, 140, 141, 142, 20, 24, 143, 144, 145, 19, 146, 147, 148, 149, 150, 151, 152, 153, 154, 155, 156, 74, 157, 158, 159, 15, 160, 40, 41, 42, 43, 44, 64, 63, 45, 46, 47, 48, 49, 50, 51, 52, 161, 162, 163, 39, 164, 58, 165, 166, 167, 23, 168, 169, 203, 204, 205, 206, 207, 208, 209, 242, 243, 244, 245, 246, 247, 248, 249, 823, 824, 825, 826, 827, 840, 841, 842, 843, 844, 845, 846, 847, 848, 849, 850, 851, 852, 853, 854, 855, 856, 857, 873, 858, 859, 860, 861, 862, 863] (by decide +kernel) (by decide +kernel)) (goodIn_sub (fun _ h => List.mem_append_left _ (List.mem_append_left _ (List.mem_append_right _ h))) (by decide +kernel))
set_option maxRecDepth 20000 in
theorem gL_law_L_setBarred : GoodIn wsL_law (va_wsS RL 112 yL_setBarred wsL_setBarred) := goodIn_app (goodIn_of _ (by decide +kernel)) ggL_law_L_setBarred
set_option maxRecDepth 20000 in
theorem ggL_law_X7_setBarred : GoodIn wsL_law wsX7_setBarred := goodIn_r _ [253, 111, 254, 255, 256, 5, 257, 175, 176, 177, 178, 179, 180, 181, 182, 218, 219, 220, 221, 183, 184, 185, 186, 187, 112, 828, 829, 830, 831, 832, 833, 834, 835, 836, 837, 838, 839] (by decide +kernel) (by decide +kernel)
set_option maxRecDepth 20000 in
theorem gL_law_X7_setBarred : GoodIn wsL_law (wsV RL 115 RX7 yX7_setBarred wsX7_setBarred) := goodIn_app (goodIn_of _ (by decide +kernel)) ggL_law_X7_setBarred
set_option maxRecDepth 20000 in
theorem ggL_law_L_setRequired : GoodIn wsL_law wsL_setRequired := goodIn_ca (goodIn_r _ [260, 128, 261, 262, 263, 2, 264, 133, 134, 16, 135, 265, 136, 137, 138, 266, 247, 248, 39, 249, 58, 139, 140, 141, 142, 20, 24, 143, 144, 145, 19, 146, 147, 148, 149, 150, 151, 152, 153, 154, 155, 156, 74, 157, 158, 159, 15, 160, 40, 41, 42, 43, 44, 64, 63, 45, 46, 47, 48, 49, 50, 51, 52, 161, 162, 163, 164, 165, 166, 167, 23, 168, 169, 267, 268, 269, 270, 823, 824, 825, 826, 827, 840, 841, 842, 843, 844, 845, 846, 847, 848, 849, 850, 851, 852, 853, 854, 873, 855, 856, 857, 858, 859, 860, 861, 862, 863] (by decide +kernel) (by decide +kernel)) (goodIn_sub (fun _ h => List.mem_append_left _ (List.mem_append_left _ (List.mem_append_right _ h))) (by decide +kernel))
set_option maxRecDepth 20000 in
theorem gL_law_L_setRequired : GoodIn wsL_law (va_wsS RL 116 yL_setRequired wsL_setRequired) := goodIn_app (goodIn_of _ (by decide +kernel)) ggL_law_L_setRequired
set_option maxRecDepth 20000 in
theorem ggL_law_X7_setRequired : GoodIn wsL_law wsX7_setRequired := goodIn_r _ [274, 111, 254, 255, 256, 5, 257, 175, 176, 177, 178, 179, 180, 181, 182, 218, 219, 220, 221, 183, 184, 185, 186, 187, 112, 828, 829, 830, 831, 832, 833, 834, 835, 836, 837, 838, 839] (by decide +kernel) (by decide +kernel)
set_option maxRecDepth 20000 in
theorem gL_law_X7_setRequired : GoodIn wsL_law (wsV RL 119 RX7 yX7_setRequired wsX7_setRequired) := goodIn_app (goodIn_of _ (by decide +kernel)) ggL_law_X7_setRequired
set_option maxRecDepth 20000 in
theorem ggL_law_L_setTrain : GoodIn wsL_law wsL_setTrain := goodIn_ca (goodIn_r _ [277, 128, 278, 279, 280, 2, 281, 133, 134, 16, 282, 283, 284, 136, 137, 138, 139, 140, 141, 142, 20, 24, 143, 144, 145, 19, 146, 147, 148, 149, 150, 151, 152, 153, 154, 155, 156, 74, 157, 158, 159, 15, 160, 40, 41, 42, 43, 44, 64, 63, 45, 46, 47, 48, 49, 50, 51, 52, 161, 162, 163, 39, 164, 58, 165, 166, 167, 23, 168, 169, 823, 824, 825, 826, 827, 840, 841, 842, 843, 844, 845, 846, 847, 848, 849, 850, 851, 852, 853, 854, 855, 856, 857, 873, 858, 859, 860, 861, 862, 863] (by decide +kernel) (by decide +kernel)) (goodIn_sub (fun _ h => List.mem_append_left _ (List.mem_append_left _ (List.mem_append_right _ h))) (by decide +kernel))
set_option maxRecDepth 20000 in
theorem gL_law_L_setTrain : GoodIn wsL_law (va_wsS RL 120 yL_setTrain wsL_setTrain) := goodIn_app (goodIn_of _ (by decide +kernel)) ggL_law_L_setTrain
set_option maxRecDepth 20000 in
theorem ggL_law_X7_setTrain : GoodIn wsL_law wsX7_setTrain := goodIn_r _ [288, 111, 175, 176, 5, 177, 178, 179, 180, 181, 182, 183, 184, 185, 186, 187, 112, 828, 829, 830, 831, 832, 833, 834, 835, 836, 837, 838, 839] (by decide +kernel) (by decide +kernel)
set_option maxRecDepth 20000 in
theorem gL_law_X7_setTrain : GoodIn wsL_law (wsV RL 122 RX7 yX7_setTrain wsX7_setTrain) := goodIn_app (goodIn_of _ (by decide +kernel)) ggL_law_X7_setTrain
