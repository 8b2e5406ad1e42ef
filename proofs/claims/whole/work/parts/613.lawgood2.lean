set_option maxRecDepth 20000 in
theorem ggL_law_X7_brakingDistance : GoodIn wsL_law wsX7_brakingDistance := goodIn_r _ [459, 115, 254, 255, 256, 5, 257, 111, 175, 176, 177, 178, 179, 180, 181, 182, 414, 415, 416, 417, 113, 114, 116, 418, 419, 420, 421, 422, 423, 424, 425, 426, 427, 428, 429, 430, 431, 432, 433, 434, 435, 828, 829, 830, 831, 832, 833, 834, 835, 836, 837, 838, 839] (by decide +kernel) (by decide +kernel)
set_option maxRecDepth 20000 in
theorem gL_law_X7_brakingDistance : GoodIn wsL_law (wsV RL 147 RX7 yX7_brakingDistance wsX7_brakingDistance) := goodIn_app (goodIn_of _ (by decide +kernel)) ggL_law_X7_brakingDistance
set_option maxRecDepth 20000 in
theorem ggL_law_L_travelTime : GoodIn wsL_law wsL_travelTime := goodIn_ca (goodIn_r _ [462, 128, 463, 464, 465, 2, 466, 133, 134, 16, 135, 24, 200, 201, 202, 360, 361, 362, 23, 363, 169, 364, 365, 366, 367, 85, 368, 81, 369, 150, 151, 152, 370, 371, 372, 373, 374, 375, 247, 248, 39, 249, 58, 376, 377, 378, 379, 268, 269, 270, 380, 381, 382, 383, 384, 385, 386, 387, 388, 389, 82, 390, 391, 392, 393, 394, 395, 396, 397, 83, 398, 399, 400, 401, 402, 403, 404, 405, 406, 407, 408, 84, 409, 467, 468, 469, 470, 823, 824, 825, 826, 827, 840, 841, 842, 843, 844, 845, 846, 847, 848, 849, 850, 851, 852, 853, 854, 858, 859, 860, 861, 862, 863, 873] (by decide +kernel) (by decide +kernel)) (goodIn_sub (fun _ h => List.mem_append_left _ (List.mem_append_left _ (List.mem_append_right _ h))) (by decide +kernel))
set_option maxRecDepth 20000 in
theorem gL_law_L_travelTime : GoodIn wsL_law (va_wsS RL 148 yL_travelTime wsL_travelTime) := goodIn_app (goodIn_of _ (by decide +kernel)) ggL_law_L_travelTime
set_option maxRecDepth 20000 in
theorem ggL_law_X7_travelTime : GoodIn wsL_law wsX7_travelTime := goodIn_r _ [474, 116, 254, 255, 256, 5, 257, 111, 175, 176, 177, 178, 179, 180, 181, 182, 414, 415, 416, 417, 113, 114, 115, 418, 419, 420, 421, 422, 423, 424, 425, 426, 427, 428, 429, 430, 431, 432, 433, 434, 435, 828, 829, 830, 831, 832, 833, 834, 835, 836, 837, 838, 839] (by decide +kernel) (by decide +kernel)
set_option maxRecDepth 20000 in
theorem gL_law_X7_travelTime : GoodIn wsL_law (wsV RL 150 RX7 yX7_travelTime wsX7_travelTime) := goodIn_app (goodIn_of _ (by decide +kernel)) ggL_law_X7_travelTime
set_option maxRecDepth 20000 in
theorem ggL_law_L_addPost : GoodIn wsL_law wsL_addPost := goodIn_ca (goodIn_ca (goodIn_r _ [477, 128, 478, 479, 480, 481, 2, 482, 133, 134, 483, 484, 16, 135, 136, 137, 138, 485, 486, 487, 15, 488, 64, 44, 489, 490, 491, 492, 246, 247, 248, 39, 249, 58, 139, 140, 141, 142, 20, 24, 143, 144, 145, 19, 146, 147, 148, 149, 150, 151, 152, 153, 154, 155, 156, 74, 157, 158, 159, 160, 40, 41, 42, 43, 63, 45, 46, 47, 48, 49, 50, 51, 52, 161, 162, 163, 164, 165, 166, 167, 23, 168, 169, 493, 494, 495, 496, 497, 268, 269, 270, 823, 824, 825, 826, 827, 840, 841, 842, 843, 844, 845, 846, 847, 848, 849, 850, 851, 852, 853, 854, 873, 855, 856, 857, 858, 859, 860, 861, 862, 863] (by decide +kernel) (by decide +kernel)) (goodIn_sub (fun _ h => List.mem_append_left _ (List.mem_append_left _ (List.mem_append_right _ h))) (by decide +kernel))) (goodIn_sub (fun _ h => List.mem_append_right _ h) (by decide +kernel))
set_option maxRecDepth 20000 in
theorem gL_law_L_addPost : GoodIn wsL_law (va_wsS RL 151 yL_addPost wsL_addPost) := goodIn_app (goodIn_of _ (by decide +kernel)) ggL_law_L_addPost
set_option maxRecDepth 20000 in
theorem ggL_law_X7_addPost : GoodIn wsL_law wsX7_addPost := goodIn_r _ [501, 111, 182, 254, 255, 256, 5, 257, 175, 176, 177, 183, 184, 185, 186, 187, 112, 828, 829, 830, 831, 832, 833, 834, 835, 836, 837, 838, 839] (by decide +kernel) (by decide +kernel)
set_option maxRecDepth 20000 in
theorem gL_law_X7_addPost : GoodIn wsL_law (wsV RL 153 RX7 yX7_addPost wsX7_addPost) := goodIn_app (goodIn_of _ (by decide +kernel)) ggL_law_X7_addPost
set_option maxRecDepth 20000 in
theorem ggL_law_L_removePost : GoodIn wsL_law wsL_removePost := goodIn_ca (goodIn_ca (goodIn_r _ [504, 128, 478, 505, 506, 507, 2, 508, 133, 134, 483, 484, 16, 135, 509, 136, 137, 138, 485, 486, 487, 15, 488, 64, 44, 489, 490, 491, 492, 246, 247, 248, 39, 249, 58, 139, 140, 141, 142, 20, 24, 143, 144, 145, 19, 146, 147, 148, 149, 150, 151, 152, 153, 154, 155, 156, 74, 157, 158, 159, 160, 40, 41, 42, 43, 63, 45, 46, 47, 48, 49, 50, 51, 52, 161, 162, 163, 164, 165, 166, 167, 23, 168, 169, 510, 511, 512, 513, 497, 268, 269, 270, 823, 824, 825, 826, 827, 840, 841, 842, 843, 844, 845, 846, 847, 848, 849, 850, 851, 852, 853, 854, 873, 855, 856, 857, 858, 859, 860, 861, 862, 863] (by decide +kernel) (by decide +kernel)) (goodIn_sub (fun _ h => List.mem_append_left _ (List.mem_append_left _ (List.mem_append_right _ h))) (by decide +kernel))) (goodIn_sub (fun _ h => List.mem_append_right _ h) (by decide +kernel))
set_option maxRecDepth 20000 in
theorem gL_law_L_removePost : GoodIn wsL_law (va_wsS RL 154 yL_removePost wsL_removePost) := goodIn_app (goodIn_of _ (by decide +kernel)) ggL_law_L_removePost
set_option maxRecDepth 20000 in
theorem ggL_law_X7_removePost : GoodIn wsL_law wsX7_removePost := goodIn_r _ [517, 111, 182, 254, 255, 256, 5, 257, 175, 176, 177, 183, 184, 185, 186, 187, 112, 518, 519, 520, 521, 117, 828, 829, 830, 831, 832, 833, 834, 835, 836, 837, 838, 839] (by decide +kernel) (by decide +kernel)
set_option maxRecDepth 20000 in
theorem gL_law_X7_removePost : GoodIn wsL_law (wsV RL 156 RX7 yX7_removePost wsX7_removePost) := goodIn_app (goodIn_of _ (by decide +kernel)) ggL_law_X7_removePost
set_option maxRecDepth 20000 in
theorem ggL_law_X6_clearPosts : GoodIn wsL_law wsX6_clearPosts := goodIn_r _ [525, 16, 509, 139, 140, 141, 2, 142, 20, 24, 143, 144, 145, 19, 146, 147, 148, 149, 150, 151, 152, 153, 154, 155, 156, 74, 157, 158, 159, 15, 160, 40, 41, 42, 43, 44, 64, 63, 45, 46, 47, 48, 49, 50, 51, 52, 161, 162, 163, 39, 164, 58, 165, 166, 167, 23, 168, 169, 823, 824, 825, 826, 827, 840, 841, 842, 843, 844, 845, 846, 847, 848, 849, 850, 851, 852, 853, 854, 855, 856, 857, 873, 858, 859, 860, 861, 862, 863] (by decide +kernel) (by decide +kernel)
set_option maxRecDepth 20000 in
theorem gL_law_X6_clearPosts : GoodIn wsL_law (wsV RL 157 RX6 yX6_clearPosts wsX6_clearPosts) := goodIn_app (goodIn_of _ (by decide +kernel)) ggL_law_X6_clearPosts
set_option maxRecDepth 20000 in
theorem ggL_law_X7_clearPosts : GoodIn wsL_law wsX7_clearPosts := goodIn_r _ [529, 182, 183, 184, 185, 5, 186, 187, 112, 111, 518, 519, 520, 521, 117, 530, 531, 532, 533, 828, 829, 830, 831, 832, 833, 834, 835, 836, 837, 838, 839] (by decide +kernel) (by decide +kernel)
set_option maxRecDepth 20000 in
theorem gL_law_X7_clearPosts : GoodIn wsL_law (wsV RL 160 RX7 yX7_clearPosts wsX7_clearPosts) := goodIn_app (goodIn_of _ (by decide +kernel)) ggL_law_X7_clearPosts
set_option maxRecDepth 20000 in
theorem ggL_law_X6_posts : GoodIn wsL_law wsX6_posts := goodIn_r _ [537, 16, 509, 823, 824, 825, 826, 827, 840, 841, 842, 843, 844, 845, 846, 847, 848, 849, 850, 851, 852, 853, 854] (by decide +kernel) (by decide +kernel)
set_option maxRecDepth 20000 in
theorem gL_law_X6_posts : GoodIn wsL_law (wsV RL 161 RX6 yX6_posts wsX6_posts) := goodIn_app (goodIn_of _ (by decide +kernel)) ggL_law_X6_posts
set_option maxRecDepth 20000 in
theorem ggL_law_X7_posts : GoodIn wsL_law wsX7_posts := goodIn_r _ [541, 182, 518, 519, 520, 5, 521, 111, 117, 828, 829, 830, 831, 832, 833, 834, 835, 836, 837, 838, 839] (by decide +kernel) (by decide +kernel)
set_option maxRecDepth 20000 in
theorem gL_law_X7_posts : GoodIn wsL_law (wsV RL 164 RX7 yX7_posts wsX7_posts) := goodIn_app (goodIn_of _ (by decide +kernel)) ggL_law_X7_posts
set_option maxRecDepth 20000 in
theorem ggL_law_L_post : GoodIn wsL_law wsL_post := goodIn_ca (goodIn_r _ [544, 319, 545, 546, 547, 2, 548, 324, 325, 16, 509, 549, 136, 137, 138, 266, 247, 248, 39, 249, 58, 823, 824, 825, 826, 827, 840, 841, 842, 843, 844, 845, 846, 847, 848, 849, 850, 851, 852, 853, 854, 873] (by decide +kernel) (by decide +kernel)) (goodIn_sub (fun _ h => List.mem_append_left _ (List.mem_append_right _ h)) (by decide +kernel))
set_option maxRecDepth 20000 in
theorem gL_law_L_post : GoodIn wsL_law (va_wsS RL 165 yL_post wsL_post) := goodIn_app (goodIn_of _ (by decide +kernel)) ggL_law_L_post
set_option maxRecDepth 20000 in
theorem ggL_law_X7_post : GoodIn wsL_law wsX7_post := goodIn_r _ [553, 117, 518, 519, 520, 5, 521, 111, 175, 176, 177, 178, 179, 180, 181, 182, 828, 829, 830, 831, 832, 833, 834, 835, 836, 837, 838, 839] (by decide +kernel) (by decide +kernel)
set_option maxRecDepth 20000 in
theorem gL_law_X7_post : GoodIn wsL_law (wsV RL 167 RX7 yX7_post wsX7_post) := goodIn_app (goodIn_of _ (by decide +kernel)) ggL_law_X7_post
set_option maxRecDepth 20000 in
theorem ggL_law_X6_violationCount : GoodIn wsL_law wsX6_violationCount := goodIn_r _ [557, 24, 28, 360, 361, 362, 23, 363, 169, 364, 365, 366, 367, 85, 368, 81, 369, 150, 151, 152, 370, 371, 372, 373, 374, 375, 247, 248, 39, 249, 58, 376, 377, 378, 379, 268, 269, 270, 380, 381, 382, 383, 384, 385, 386, 387, 388, 389, 82, 390, 391, 392, 393, 394, 395, 396, 397, 83, 398, 399, 400, 401, 402, 403, 404, 405, 406, 407, 408, 84, 409, 558, 559, 560, 27, 561, 562, 93, 563, 564, 565, 566, 567, 568, 569, 570, 571, 572, 573, 574, 575, 576, 577, 92, 578, 579, 580, 581, 582, 583, 94, 584, 585, 586, 587, 588, 589, 590, 591, 592, 593, 594, 595, 596, 15, 597, 63, 43, 246, 823, 824, 825, 826, 827, 858, 859, 860, 861, 862, 863, 840, 841, 842, 843, 844, 845, 846, 847, 848, 849, 850, 851, 852, 853, 854, 873, 864, 865, 866, 867] (by decide +kernel) (by decide +kernel)
set_option maxRecDepth 20000 in
theorem gL_law_X6_violationCount : GoodIn wsL_law (wsV RL 168 RX6 yX6_violationCount wsX6_violationCount) := goodIn_app (goodIn_of _ (by decide +kernel)) ggL_law_X6_violationCount
set_option maxRecDepth 20000 in
theorem ggL_law_X7_violationCount : GoodIn wsL_law wsX7_violationCount := goodIn_r _ [601, 182, 602, 603, 604, 5, 605, 111, 118, 414, 415, 416, 417, 113, 114, 115, 116, 418, 419, 420, 421, 422, 423, 424, 425, 426, 427, 428, 429, 430, 431, 432, 433, 434, 435, 518, 519, 520, 521, 117, 606, 607, 608, 609, 610, 611, 612, 613, 614, 615, 616, 617, 618, 619, 620, 621, 828, 829, 830, 831, 832, 833, 834, 835, 836, 837, 838, 839] (by decide +kernel) (by decide +kernel)
set_option maxRecDepth 20000 in
theorem gL_law_X7_violationCount : GoodIn wsL_law (wsV RL 171 RX7 yX7_violationCount wsX7_violationCount) := goodIn_app (goodIn_of _ (by decide +kernel)) ggL_law_X7_violationCount
