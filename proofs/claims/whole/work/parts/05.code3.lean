set_option maxRecDepth 20000 in
theorem ggX6_headway_X2_refresh : GoodIn wsX6_headway wsX2_refresh := goodIn_r _ [6, 7, 8, 9, 10, 5, 11, 12, 13, 14, 15, 16, 17, 18, 19, 20, 21, 22, 23, 24, 25, 26, 27, 28, 29, 30, 31, 32, 33, 34, 35, 36, 37, 38, 39, 40, 41, 42, 43, 44, 45, 46, 47, 48, 49, 50, 51, 52, 53, 54, 55, 56, 57, 58, 59, 60, 61, 62, 63, 64, 65, 66, 67, 68, 69, 100, 101, 102, 103, 104, 105, 106, 107, 108, 109, 110, 111, 112, 113, 114, 115, 116, 117, 118, 119, 120, 121] (by decide +kernel) (by decide +kernel)
set_option maxRecDepth 20000 in
theorem gX6_headway_X2_refresh : GoodIn wsX6_headway (wsV RX6 147 RX2 yX2_refresh wsX2_refresh) := goodIn_app (goodIn_of _ (by decide +kernel)) ggX6_headway_X2_refresh
set_option maxRecDepth 20000 in
theorem ggX6_headway_X2_greatestBlockTime : GoodIn wsX6_headway wsX2_greatestBlockTime := goodIn_r _ [73, 12, 74, 75, 76, 17, 77, 78, 79, 80, 5, 81, 82, 83, 84, 85, 13, 15, 16, 18, 24, 25, 26, 27, 28, 29, 86, 87, 88, 89, 90, 91, 92, 93, 94, 68, 100, 101, 102, 103, 104, 105, 106, 107, 108, 109, 110, 111, 112, 113, 114, 115, 116, 117, 118, 119, 120, 121] (by decide +kernel) (by decide +kernel)
set_option maxRecDepth 20000 in
theorem gX6_headway_X2_greatestBlockTime : GoodIn wsX6_headway (wsV RX6 211 RX2 yX2_greatestBlockTime wsX2_greatestBlockTime) := goodIn_app (goodIn_of _ (by decide +kernel)) ggX6_headway_X2_greatestBlockTime
theorem dX6_headway_0 : decode cX6_headway 0 = .ok (.aload_n 0, 1) := by decide +kernel
theorem dX6_headway_1 : decode cX6_headway 1 = .ok (.getfield 28, 3) := by decide +kernel
theorem dX6_headway_4 : decode cX6_headway 4 = .ok (.invokevirtual 147, 3) := by decide +kernel
theorem dX6_headway_7 : decode cX6_headway 7 = .ok (.aload_n 0, 1) := by decide +kernel
theorem dX6_headway_8 : decode cX6_headway 8 = .ok (.getfield 28, 3) := by decide +kernel
theorem dX6_headway_11 : decode cX6_headway 11 = .ok (.invokevirtual 211, 3) := by decide +kernel
theorem dX6_headway_14 : decode cX6_headway 14 = .ok (.ireturn, 1) := by decide +kernel
set_option maxRecDepth 20000 in
theorem ggX6_capacity_X2_refresh : GoodIn wsX6_capacity wsX2_refresh := goodIn_r _ [9, 10, 11, 12, 13, 8, 14, 15, 16, 17, 18, 19, 20, 21, 22, 23, 24, 25, 26, 27, 28, 29, 30, 31, 32, 33, 34, 35, 36, 37, 38, 39, 40, 41, 42, 43, 44, 45, 46, 47, 48, 49, 50, 51, 52, 53, 54, 55, 56, 57, 58, 59, 60, 61, 62, 63, 64, 65, 66, 67, 68, 69, 70, 71, 72, 103, 104, 105, 106, 107, 108, 109, 110, 111, 112, 113, 114, 115, 116, 117, 118, 119, 120, 121, 122, 123, 124] (by decide +kernel) (by decide +kernel)
set_option maxRecDepth 20000 in
theorem gX6_capacity_X2_refresh : GoodIn wsX6_capacity (wsV RX6 147 RX2 yX2_refresh wsX2_refresh) := goodIn_app (goodIn_of _ (by decide +kernel)) ggX6_capacity_X2_refresh
set_option maxRecDepth 20000 in
theorem ggX6_capacity_X2_greatestBlockTime : GoodIn wsX6_capacity wsX2_greatestBlockTime := goodIn_r _ [76, 15, 77, 78, 79, 20, 80, 81, 82, 83, 8, 84, 85, 86, 87, 88, 16, 18, 19, 21, 27, 28, 29, 30, 31, 32, 89, 90, 91, 92, 93, 94, 95, 96, 97, 71, 103, 104, 105, 106, 107, 108, 109, 110, 111, 112, 113, 114, 115, 116, 117, 118, 119, 120, 121, 122, 123, 124] (by decide +kernel) (by decide +kernel)
set_option maxRecDepth 20000 in
theorem gX6_capacity_X2_greatestBlockTime : GoodIn wsX6_capacity (wsV RX6 211 RX2 yX2_greatestBlockTime wsX2_greatestBlockTime) := goodIn_app (goodIn_of _ (by decide +kernel)) ggX6_capacity_X2_greatestBlockTime
theorem dX6_capacity_0 : decode cX6_capacity 0 = .ok (.aload_n 0, 1) := by decide +kernel
theorem dX6_capacity_1 : decode cX6_capacity 1 = .ok (.getfield 28, 3) := by decide +kernel
theorem dX6_capacity_4 : decode cX6_capacity 4 = .ok (.invokevirtual 147, 3) := by decide +kernel
theorem dX6_capacity_7 : decode cX6_capacity 7 = .ok (.aload_n 0, 1) := by decide +kernel
theorem dX6_capacity_8 : decode cX6_capacity 8 = .ok (.getfield 28, 3) := by decide +kernel
theorem dX6_capacity_11 : decode cX6_capacity 11 = .ok (.invokevirtual 211, 3) := by decide +kernel
theorem dX6_capacity_14 : decode cX6_capacity 14 = .ok (.istore_n 1, 1) := by decide +kernel
theorem dX6_capacity_15 : decode cX6_capacity 15 = .ok (.iload_n 1, 1) := by decide +kernel
theorem dX6_capacity_16 : decode cX6_capacity 16 = .ok (.ifCond .gt 13, 3) := by decide +kernel
theorem dX6_capacity_19 : decode cX6_capacity 19 = .ok (.new 167, 3) := by decide +kernel
theorem dX6_capacity_22 : decode cX6_capacity 22 = .ok (.dup, 1) := by decide +kernel
theorem dX6_capacity_23 : decode cX6_capacity 23 = .ok (.ldc 214, 2) := by decide +kernel
theorem dX6_capacity_25 : decode cX6_capacity 25 = .ok (.invokespecial 171, 3) := by decide +kernel
theorem dX6_capacity_28 : decode cX6_capacity 28 = .ok (.athrow, 1) := by decide +kernel
theorem dX6_capacity_29 : decode cX6_capacity 29 = .ok (.ldc 216, 2) := by decide +kernel
theorem dX6_capacity_31 : decode cX6_capacity 31 = .ok (.iload_n 1, 1) := by decide +kernel
theorem dX6_capacity_32 : decode cX6_capacity 32 = .ok (.idiv, 1) := by decide +kernel
theorem dX6_capacity_33 : decode cX6_capacity 33 = .ok (.ireturn, 1) := by decide +kernel
set_option maxRecDepth 20000 in
theorem ggX6_undo_X0_pop : GoodIn wsX6_undo wsX0_pop := goodIn_r _ [11, 12, 13, 14, 15, 16, 10, 17, 18, 19, 20, 21, 22, 23, 24, 25, 26, 27, 28, 29, 30, 31, 32, 33, 34, 35, 36, 37, 38, 39, 40, 41, 42, 43, 44, 56, 57, 58, 59, 60, 61, 62, 63, 64, 65, 66, 67, 68, 69, 70, 71, 72, 73, 74] (by decide +kernel) (by decide +kernel)
set_option maxRecDepth 20000 in
theorem gX6_undo_X0_pop : GoodIn wsX6_undo (wsV RX6 222 RX0 yX0_pop wsX0_pop) := goodIn_app (goodIn_of _ (by decide +kernel)) ggX6_undo_X0_pop
set_option maxRecDepth 20000 in
theorem ggX6_undo_X2_outdate : GoodIn wsX6_undo wsX2_outdate := goodIn_r _ [49, 50, 75, 76, 77, 78, 79, 80] (by decide +kernel) (by decide +kernel)
set_option maxRecDepth 20000 in
theorem gX6_undo_X2_outdate : GoodIn wsX6_undo (wsV RX6 225 RX2 yX2_outdate wsX2_outdate) := goodIn_app (goodIn_of _ (by decide +kernel)) ggX6_undo_X2_outdate
theorem dX6_undo_0 : decode cX6_undo 0 = .ok (.aload_n 0, 1) := by decide +kernel
theorem dX6_undo_1 : decode cX6_undo 1 = .ok (.getfield 19, 3) := by decide +kernel
theorem dX6_undo_4 : decode cX6_undo 4 = .ok (.getfield 217, 3) := by decide +kernel
theorem dX6_undo_7 : decode cX6_undo 7 = .ok (.ifCond .ne 13, 3) := by decide +kernel
theorem dX6_undo_10 : decode cX6_undo 10 = .ok (.new 167, 3) := by decide +kernel
theorem dX6_undo_13 : decode cX6_undo 13 = .ok (.dup, 1) := by decide +kernel
theorem dX6_undo_14 : decode cX6_undo 14 = .ok (.ldc 220, 2) := by decide +kernel
theorem dX6_undo_16 : decode cX6_undo 16 = .ok (.invokespecial 171, 3) := by decide +kernel
theorem dX6_undo_19 : decode cX6_undo 19 = .ok (.athrow, 1) := by decide +kernel
theorem dX6_undo_20 : decode cX6_undo 20 = .ok (.aload_n 0, 1) := by decide +kernel
theorem dX6_undo_21 : decode cX6_undo 21 = .ok (.getfield 19, 3) := by decide +kernel
theorem dX6_undo_24 : decode cX6_undo 24 = .ok (.aload_n 0, 1) := by decide +kernel
theorem dX6_undo_25 : decode cX6_undo 25 = .ok (.getfield 12, 3) := by decide +kernel
theorem dX6_undo_28 : decode cX6_undo 28 = .ok (.invokevirtual 222, 3) := by decide +kernel
theorem dX6_undo_31 : decode cX6_undo 31 = .ok (.aload_n 0, 1) := by decide +kernel
theorem dX6_undo_32 : decode cX6_undo 32 = .ok (.getfield 28, 3) := by decide +kernel
theorem dX6_undo_35 : decode cX6_undo 35 = .ok (.invokevirtual 225, 3) := by decide +kernel
theorem dX6_undo_38 : decode cX6_undo 38 = .ok (.aload_n 0, 1) := by decide +kernel
theorem dX6_undo_39 : decode cX6_undo 39 = .ok (.getfield 19, 3) := by decide +kernel
theorem dX6_undo_42 : decode cX6_undo 42 = .ok (.getfield 217, 3) := by decide +kernel
theorem dX6_undo_45 : decode cX6_undo 45 = .ok (.ireturn, 1) := by decide +kernel
set_option maxRecDepth 20000 in
theorem ggX6_digest_X2_refresh : GoodIn wsX6_digest wsX2_refresh := goodIn_r _ [9, 10, 11, 12, 13, 8, 14, 15, 16, 17, 18, 19, 20, 21, 22, 23, 24, 25, 26, 27, 28, 29, 30, 31, 32, 33, 34, 35, 36, 37, 38, 39, 40, 41, 42, 43, 44, 45, 46, 47, 48, 49, 50, 51, 52, 53, 54, 55, 56, 57, 58, 59, 60, 61, 62, 63, 64, 65, 66, 67, 68, 69, 70, 71, 72, 200, 201, 202, 203, 204, 205, 185, 186, 187, 188, 189, 190, 191, 192, 193, 194, 195, 196, 197, 198, 199, 206] (by decide +kernel) (by decide +kernel)
set_option maxRecDepth 20000 in
theorem gX6_digest_X2_refresh : GoodIn wsX6_digest (wsV RX6 147 RX2 yX2_refresh wsX2_refresh) := goodIn_app (goodIn_of _ (by decide +kernel)) ggX6_digest_X2_refresh
set_option maxRecDepth 20000 in
theorem ggX6_digest_X6_mixSettings : GoodIn wsX6_digest wsX6_mixSettings := goodIn_r _ [77, 78, 79, 3, 4, 80, 81, 82, 83, 84, 85, 86, 87, 88, 89, 76, 90, 91, 180, 181, 182, 183, 184, 207, 208, 209, 185, 186, 187, 188, 189, 190, 191, 192, 193, 194, 195, 196, 197, 198, 199] (by decide +kernel) (by decide +kernel)
set_option maxRecDepth 20000 in
theorem gX6_digest_X6_mixSettings : GoodIn wsX6_digest (wsV RX6 230 RX6 yX6_mixSettings wsX6_mixSettings) := goodIn_app (goodIn_of _ (by decide +kernel)) ggX6_digest_X6_mixSettings
set_option maxRecDepth 20000 in
theorem ggX6_digest_X6_mixLine : GoodIn wsX6_digest wsX6_mixLine := goodIn_r _ [95, 3, 4, 96, 97, 98, 99, 1, 100, 101, 102, 28, 29, 30, 31, 32, 88, 89, 76, 90, 91, 180, 181, 182, 183, 184, 185, 186, 187, 188, 189, 190, 191, 192, 193, 194, 195, 196, 197, 198, 199, 200, 201, 202, 203, 204, 205, 206] (by decide +kernel) (by decide +kernel)
set_option maxRecDepth 20000 in
theorem gX6_digest_X6_mixLine : GoodIn wsX6_digest (wsV RX6 234 RX6 yX6_mixLine wsX6_mixLine) := goodIn_app (goodIn_of _ (by decide +kernel)) ggX6_digest_X6_mixLine
set_option maxRecDepth 20000 in
theorem ggX6_digest_X6_mixPosts : GoodIn wsX6_digest wsX6_mixPosts := goodIn_r _ [106, 3, 107, 108, 109, 110, 88, 89, 76, 90, 91, 102, 28, 29, 30, 31, 32, 111, 112, 113, 114, 115, 116, 117, 118, 119, 120, 121, 122, 123, 124, 125, 126, 127, 128, 129, 130, 131, 132, 133, 134, 37, 38, 39, 135, 136, 137, 138, 139, 140, 141, 142, 143, 144, 8, 145, 59, 146, 147, 148, 149, 15, 150, 27, 151, 152, 153, 154, 155, 156, 157, 158, 180, 181, 182, 183, 184, 185, 186, 187, 188, 189, 190, 191, 192, 193, 194, 195, 196, 197, 198, 199, 210, 211, 212, 213, 206, 200, 201, 202, 203, 204, 205] (by decide +kernel) (by decide +kernel)
set_option maxRecDepth 20000 in
theorem gX6_digest_X6_mixPosts : GoodIn wsX6_digest (wsV RX6 237 RX6 yX6_mixPosts wsX6_mixPosts) := goodIn_app (goodIn_of _ (by decide +kernel)) ggX6_digest_X6_mixPosts
set_option maxRecDepth 20000 in
theorem ggX6_digest_X2_greatestBlockTime : GoodIn wsX6_digest wsX2_greatestBlockTime := goodIn_r _ [162, 15, 163, 164, 165, 20, 166, 167, 168, 169, 8, 170, 171, 172, 173, 174, 16, 18, 19, 21, 27, 28, 29, 30, 31, 32, 146, 147, 148, 149, 150, 175, 176, 177, 178, 71, 200, 201, 202, 203, 204, 205, 185, 186, 187, 188, 189, 190, 191, 192, 193, 194, 195, 196, 197, 198, 199, 206] (by decide +kernel) (by decide +kernel)
set_option maxRecDepth 20000 in
theorem gX6_digest_X2_greatestBlockTime : GoodIn wsX6_digest (wsV RX6 211 RX2 yX2_greatestBlockTime wsX2_greatestBlockTime) := goodIn_app (goodIn_of _ (by decide +kernel)) ggX6_digest_X2_greatestBlockTime
set_option maxRecDepth 20000 in
theorem ggX6_digest_X6_mix : GoodIn wsX6_digest wsX6_mix := goodIn_r _ [90, 91] (by decide +kernel) (by decide +kernel)
set_option maxRecDepth 20000 in
theorem gX6_digest_X6_mix : GoodIn wsX6_digest (va_wsS RX6 240 yX6_mix wsX6_mix) := goodIn_app (goodIn_of _ (by decide +kernel)) ggX6_digest_X6_mix
set_option maxRecDepth 20000 in
theorem ggX6_digest_X2_timeBetween : GoodIn wsX6_digest wsX2_timeBetween := goodIn_r _ [178, 71, 27, 28, 29, 30, 31, 32, 200, 201, 202, 203, 204, 205, 206] (by decide +kernel) (by decide +kernel)
set_option maxRecDepth 20000 in
theorem gX6_digest_X2_timeBetween : GoodIn wsX6_digest (wsV RX6 159 RX2 yX2_timeBetween wsX2_timeBetween) := goodIn_app (goodIn_of _ (by decide +kernel)) ggX6_digest_X2_timeBetween
theorem dX6_digest_0 : decode cX6_digest 0 = .ok (.aload_n 0, 1) := by decide +kernel
theorem dX6_digest_1 : decode cX6_digest 1 = .ok (.getfield 28, 3) := by decide +kernel
theorem dX6_digest_4 : decode cX6_digest 4 = .ok (.invokevirtual 147, 3) := by decide +kernel
theorem dX6_digest_7 : decode cX6_digest 7 = .ok (.aload_n 0, 1) := by decide +kernel
theorem dX6_digest_8 : decode cX6_digest 8 = .ok (.ldc2_w 228, 3) := by decide +kernel
theorem dX6_digest_11 : decode cX6_digest 11 = .ok (.invokevirtual 230, 3) := by decide +kernel
theorem dX6_digest_14 : decode cX6_digest 14 = .ok (.lstore_n 1, 1) := by decide +kernel
theorem dX6_digest_15 : decode cX6_digest 15 = .ok (.aload_n 0, 1) := by decide +kernel
theorem dX6_digest_16 : decode cX6_digest 16 = .ok (.lload_n 1, 1) := by decide +kernel
theorem dX6_digest_17 : decode cX6_digest 17 = .ok (.invokevirtual 234, 3) := by decide +kernel
theorem dX6_digest_20 : decode cX6_digest 20 = .ok (.lstore_n 1, 1) := by decide +kernel
theorem dX6_digest_21 : decode cX6_digest 21 = .ok (.aload_n 0, 1) := by decide +kernel
theorem dX6_digest_22 : decode cX6_digest 22 = .ok (.lload_n 1, 1) := by decide +kernel
theorem dX6_digest_23 : decode cX6_digest 23 = .ok (.invokevirtual 237, 3) := by decide +kernel
theorem dX6_digest_26 : decode cX6_digest 26 = .ok (.lstore_n 1, 1) := by decide +kernel
theorem dX6_digest_27 : decode cX6_digest 27 = .ok (.lload_n 1, 1) := by decide +kernel
theorem dX6_digest_28 : decode cX6_digest 28 = .ok (.aload_n 0, 1) := by decide +kernel
theorem dX6_digest_29 : decode cX6_digest 29 = .ok (.getfield 28, 3) := by decide +kernel
theorem dX6_digest_32 : decode cX6_digest 32 = .ok (.invokevirtual 211, 3) := by decide +kernel
theorem dX6_digest_35 : decode cX6_digest 35 = .ok (.i2l, 1) := by decide +kernel
theorem dX6_digest_36 : decode cX6_digest 36 = .ok (.invokestatic 240, 3) := by decide +kernel
theorem dX6_digest_39 : decode cX6_digest 39 = .ok (.lstore_n 1, 1) := by decide +kernel
theorem dX6_digest_40 : decode cX6_digest 40 = .ok (.lload_n 1, 1) := by decide +kernel
theorem dX6_digest_41 : decode cX6_digest 41 = .ok (.aload_n 0, 1) := by decide +kernel
theorem dX6_digest_42 : decode cX6_digest 42 = .ok (.getfield 28, 3) := by decide +kernel
theorem dX6_digest_45 : decode cX6_digest 45 = .ok (.iconst 0, 1) := by decide +kernel
theorem dX6_digest_46 : decode cX6_digest 46 = .ok (.aload_n 0, 1) := by decide +kernel
theorem dX6_digest_47 : decode cX6_digest 47 = .ok (.getfield 12, 3) := by decide +kernel
theorem dX6_digest_50 : decode cX6_digest 50 = .ok (.getfield 59, 3) := by decide +kernel
theorem dX6_digest_53 : decode cX6_digest 53 = .ok (.invokevirtual 159, 3) := by decide +kernel
theorem dX6_digest_56 : decode cX6_digest 56 = .ok (.i2l, 1) := by decide +kernel
theorem dX6_digest_57 : decode cX6_digest 57 = .ok (.invokestatic 240, 3) := by decide +kernel
theorem dX6_digest_60 : decode cX6_digest 60 = .ok (.lreturn, 1) := by decide +kernel
set_option maxRecDepth 20000 in
theorem ggX6_mixSettings_X6_mix : GoodIn wsX6_mixSettings wsX6_mix := goodIn_r _ [16, 17] (by decide +kernel) (by decide +kernel)
set_option maxRecDepth 20000 in
theorem gX6_mixSettings_X6_mix : GoodIn wsX6_mixSettings (va_wsS RX6 240 yX6_mix wsX6_mix) := goodIn_app (goodIn_of _ (by decide +kernel)) ggX6_mixSettings_X6_mix
theorem dX6_mixSettings_0 : decode cX6_mixSettings 0 = .ok (.lload_n 1, 1) := by decide +kernel
theorem dX6_mixSettings_1 : decode cX6_mixSettings 1 = .ok (.aload_n 0, 1) := by decide +kernel
theorem dX6_mixSettings_2 : decode cX6_mixSettings 2 = .ok (.getfield 19, 3) := by decide +kernel
theorem dX6_mixSettings_5 : decode cX6_mixSettings 5 = .ok (.getfield 217, 3) := by decide +kernel
theorem dX6_mixSettings_8 : decode cX6_mixSettings 8 = .ok (.i2l, 1) := by decide +kernel
theorem dX6_mixSettings_9 : decode cX6_mixSettings 9 = .ok (.invokestatic 240, 3) := by decide +kernel
theorem dX6_mixSettings_12 : decode cX6_mixSettings 12 = .ok (.lstore_n 3, 1) := by decide +kernel
theorem dX6_mixSettings_13 : decode cX6_mixSettings 13 = .ok (.lload_n 3, 1) := by decide +kernel
theorem dX6_mixSettings_14 : decode cX6_mixSettings 14 = .ok (.aload_n 0, 1) := by decide +kernel
theorem dX6_mixSettings_15 : decode cX6_mixSettings 15 = .ok (.getfield 12, 3) := by decide +kernel
theorem dX6_mixSettings_18 : decode cX6_mixSettings 18 = .ok (.getfield 59, 3) := by decide +kernel
theorem dX6_mixSettings_21 : decode cX6_mixSettings 21 = .ok (.i2l, 1) := by decide +kernel
theorem dX6_mixSettings_22 : decode cX6_mixSettings 22 = .ok (.invokestatic 240, 3) := by decide +kernel
theorem dX6_mixSettings_25 : decode cX6_mixSettings 25 = .ok (.lstore_n 3, 1) := by decide +kernel
theorem dX6_mixSettings_26 : decode cX6_mixSettings 26 = .ok (.lload_n 3, 1) := by decide +kernel
theorem dX6_mixSettings_27 : decode cX6_mixSettings 27 = .ok (.aload_n 0, 1) := by decide +kernel
theorem dX6_mixSettings_28 : decode cX6_mixSettings 28 = .ok (.getfield 12, 3) := by decide +kernel
theorem dX6_mixSettings_31 : decode cX6_mixSettings 31 = .ok (.getfield 114, 3) := by decide +kernel
theorem dX6_mixSettings_34 : decode cX6_mixSettings 34 = .ok (.i2l, 1) := by decide +kernel
theorem dX6_mixSettings_35 : decode cX6_mixSettings 35 = .ok (.invokestatic 240, 3) := by decide +kernel
theorem dX6_mixSettings_38 : decode cX6_mixSettings 38 = .ok (.lstore_n 3, 1) := by decide +kernel
theorem dX6_mixSettings_39 : decode cX6_mixSettings 39 = .ok (.lload_n 3, 1) := by decide +kernel
theorem dX6_mixSettings_40 : decode cX6_mixSettings 40 = .ok (.aload_n 0, 1) := by decide +kernel
theorem dX6_mixSettings_41 : decode cX6_mixSettings 41 = .ok (.getfield 12, 3) := by decide +kernel
theorem dX6_mixSettings_44 : decode cX6_mixSettings 44 = .ok (.getfield 117, 3) := by decide +kernel
theorem dX6_mixSettings_47 : decode cX6_mixSettings 47 = .ok (.i2l, 1) := by decide +kernel
theorem dX6_mixSettings_48 : decode cX6_mixSettings 48 = .ok (.invokestatic 240, 3) := by decide +kernel
theorem dX6_mixSettings_51 : decode cX6_mixSettings 51 = .ok (.lstore_n 3, 1) := by decide +kernel
theorem dX6_mixSettings_52 : decode cX6_mixSettings 52 = .ok (.lload_n 3, 1) := by decide +kernel
theorem dX6_mixSettings_53 : decode cX6_mixSettings 53 = .ok (.aload_n 0, 1) := by decide +kernel
theorem dX6_mixSettings_54 : decode cX6_mixSettings 54 = .ok (.getfield 12, 3) := by decide +kernel
theorem dX6_mixSettings_57 : decode cX6_mixSettings 57 = .ok (.getfield 120, 3) := by decide +kernel
theorem dX6_mixSettings_60 : decode cX6_mixSettings 60 = .ok (.i2l, 1) := by decide +kernel
theorem dX6_mixSettings_61 : decode cX6_mixSettings 61 = .ok (.invokestatic 240, 3) := by decide +kernel
theorem dX6_mixSettings_64 : decode cX6_mixSettings 64 = .ok (.lstore_n 3, 1) := by decide +kernel
theorem dX6_mixSettings_65 : decode cX6_mixSettings 65 = .ok (.lload_n 3, 1) := by decide +kernel
theorem dX6_mixSettings_66 : decode cX6_mixSettings 66 = .ok (.aload_n 0, 1) := by decide +kernel
theorem dX6_mixSettings_67 : decode cX6_mixSettings 67 = .ok (.getfield 12, 3) := by decide +kernel
theorem dX6_mixSettings_70 : decode cX6_mixSettings 70 = .ok (.getfield 125, 3) := by decide +kernel
theorem dX6_mixSettings_73 : decode cX6_mixSettings 73 = .ok (.i2l, 1) := by decide +kernel
theorem dX6_mixSettings_74 : decode cX6_mixSettings 74 = .ok (.invokestatic 240, 3) := by decide +kernel
theorem dX6_mixSettings_77 : decode cX6_mixSettings 77 = .ok (.lstore_n 3, 1) := by decide +kernel
theorem dX6_mixSettings_78 : decode cX6_mixSettings 78 = .ok (.lload_n 3, 1) := by decide +kernel
theorem dX6_mixSettings_79 : decode cX6_mixSettings 79 = .ok (.aload_n 0, 1) := by decide +kernel
theorem dX6_mixSettings_80 : decode cX6_mixSettings 80 = .ok (.getfield 12, 3) := by decide +kernel
theorem dX6_mixSettings_83 : decode cX6_mixSettings 83 = .ok (.getfield 128, 3) := by decide +kernel
theorem dX6_mixSettings_86 : decode cX6_mixSettings 86 = .ok (.i2l, 1) := by decide +kernel
theorem dX6_mixSettings_87 : decode cX6_mixSettings 87 = .ok (.invokestatic 240, 3) := by decide +kernel
theorem dX6_mixSettings_90 : decode cX6_mixSettings 90 = .ok (.lstore_n 3, 1) := by decide +kernel
theorem dX6_mixSettings_91 : decode cX6_mixSettings 91 = .ok (.lload_n 3, 1) := by decide +kernel
theorem dX6_mixSettings_92 : decode cX6_mixSettings 92 = .ok (.aload_n 0, 1) := by decide +kernel
theorem dX6_mixSettings_93 : decode cX6_mixSettings 93 = .ok (.getfield 12, 3) := by decide +kernel
theorem dX6_mixSettings_96 : decode cX6_mixSettings 96 = .ok (.getfield 131, 3) := by decide +kernel
theorem dX6_mixSettings_99 : decode cX6_mixSettings 99 = .ok (.i2l, 1) := by decide +kernel
theorem dX6_mixSettings_100 : decode cX6_mixSettings 100 = .ok (.invokestatic 240, 3) := by decide +kernel
theorem dX6_mixSettings_103 : decode cX6_mixSettings 103 = .ok (.lstore_n 3, 1) := by decide +kernel
theorem dX6_mixSettings_104 : decode cX6_mixSettings 104 = .ok (.lload_n 3, 1) := by decide +kernel
theorem dX6_mixSettings_105 : decode cX6_mixSettings 105 = .ok (.aload_n 0, 1) := by decide +kernel
theorem dX6_mixSettings_106 : decode cX6_mixSettings 106 = .ok (.getfield 12, 3) := by decide +kernel
theorem dX6_mixSettings_109 : decode cX6_mixSettings 109 = .ok (.getfield 136, 3) := by decide +kernel
theorem dX6_mixSettings_112 : decode cX6_mixSettings 112 = .ok (.i2l, 1) := by decide +kernel
theorem dX6_mixSettings_113 : decode cX6_mixSettings 113 = .ok (.invokestatic 240, 3) := by decide +kernel
theorem dX6_mixSettings_116 : decode cX6_mixSettings 116 = .ok (.lstore_n 3, 1) := by decide +kernel
theorem dX6_mixSettings_117 : decode cX6_mixSettings 117 = .ok (.lload_n 3, 1) := by decide +kernel
theorem dX6_mixSettings_118 : decode cX6_mixSettings 118 = .ok (.aload_n 0, 1) := by decide +kernel
theorem dX6_mixSettings_119 : decode cX6_mixSettings 119 = .ok (.getfield 12, 3) := by decide +kernel
theorem dX6_mixSettings_122 : decode cX6_mixSettings 122 = .ok (.getfield 139, 3) := by decide +kernel
theorem dX6_mixSettings_125 : decode cX6_mixSettings 125 = .ok (.i2l, 1) := by decide +kernel
theorem dX6_mixSettings_126 : decode cX6_mixSettings 126 = .ok (.invokestatic 240, 3) := by decide +kernel
theorem dX6_mixSettings_129 : decode cX6_mixSettings 129 = .ok (.lreturn, 1) := by decide +kernel
set_option maxRecDepth 20000 in
theorem ggX6_mixLine_X3_at : GoodIn wsX6_mixLine wsX3_at := goodIn_r _ [14, 15, 47] (by decide +kernel) (by decide +kernel)
set_option maxRecDepth 20000 in
theorem gX6_mixLine_X3_at : GoodIn wsX6_mixLine (wsV RX6 104 RX3 yX3_at wsX3_at) := goodIn_app (goodIn_of _ (by decide +kernel)) ggX6_mixLine_X3_at
set_option maxRecDepth 20000 in
theorem ggX6_mixLine_X6_mix : GoodIn wsX6_mixLine wsX6_mix := goodIn_r _ [19, 20] (by decide +kernel) (by decide +kernel)
set_option maxRecDepth 20000 in
theorem gX6_mixLine_X6_mix : GoodIn wsX6_mixLine (va_wsS RX6 240 yX6_mix wsX6_mix) := goodIn_app (goodIn_of _ (by decide +kernel)) ggX6_mixLine_X6_mix
theorem dX6_mixLine_0 : decode cX6_mixLine 0 = .ok (.lload_n 1, 1) := by decide +kernel
theorem dX6_mixLine_1 : decode cX6_mixLine 1 = .ok (.lstore_n 3, 1) := by decide +kernel
theorem dX6_mixLine_2 : decode cX6_mixLine 2 = .ok (.iconst 0, 1) := by decide +kernel
theorem dX6_mixLine_3 : decode cX6_mixLine 3 = .ok (.istore 5, 2) := by decide +kernel
theorem dX6_mixLine_5 : decode cX6_mixLine 5 = .ok (.iload 5, 2) := by decide +kernel
theorem dX6_mixLine_7 : decode cX6_mixLine 7 = .ok (.aload_n 0, 1) := by decide +kernel
theorem dX6_mixLine_8 : decode cX6_mixLine 8 = .ok (.getfield 12, 3) := by decide +kernel
theorem dX6_mixLine_11 : decode cX6_mixLine 11 = .ok (.getfield 59, 3) := by decide +kernel
theorem dX6_mixLine_14 : decode cX6_mixLine 14 = .ok (.if_icmp .ge 45, 3) := by decide +kernel
theorem dX6_mixLine_17 : decode cX6_mixLine 17 = .ok (.lload_n 3, 1) := by decide +kernel
theorem dX6_mixLine_18 : decode cX6_mixLine 18 = .ok (.aload_n 0, 1) := by decide +kernel
theorem dX6_mixLine_19 : decode cX6_mixLine 19 = .ok (.getfield 12, 3) := by decide +kernel
theorem dX6_mixLine_22 : decode cX6_mixLine 22 = .ok (.getfield 75, 3) := by decide +kernel
theorem dX6_mixLine_25 : decode cX6_mixLine 25 = .ok (.iload 5, 2) := by decide +kernel
theorem dX6_mixLine_27 : decode cX6_mixLine 27 = .ok (.invokevirtual 104, 3) := by decide +kernel
theorem dX6_mixLine_30 : decode cX6_mixLine 30 = .ok (.i2l, 1) := by decide +kernel
theorem dX6_mixLine_31 : decode cX6_mixLine 31 = .ok (.invokestatic 240, 3) := by decide +kernel
theorem dX6_mixLine_34 : decode cX6_mixLine 34 = .ok (.lstore_n 3, 1) := by decide +kernel
theorem dX6_mixLine_35 : decode cX6_mixLine 35 = .ok (.lload_n 3, 1) := by decide +kernel
theorem dX6_mixLine_36 : decode cX6_mixLine 36 = .ok (.aload_n 0, 1) := by decide +kernel
theorem dX6_mixLine_37 : decode cX6_mixLine 37 = .ok (.getfield 12, 3) := by decide +kernel
theorem dX6_mixLine_40 : decode cX6_mixLine 40 = .ok (.getfield 87, 3) := by decide +kernel
theorem dX6_mixLine_43 : decode cX6_mixLine 43 = .ok (.iload 5, 2) := by decide +kernel
theorem dX6_mixLine_45 : decode cX6_mixLine 45 = .ok (.invokevirtual 104, 3) := by decide +kernel
theorem dX6_mixLine_48 : decode cX6_mixLine 48 = .ok (.i2l, 1) := by decide +kernel
theorem dX6_mixLine_49 : decode cX6_mixLine 49 = .ok (.invokestatic 240, 3) := by decide +kernel
theorem dX6_mixLine_52 : decode cX6_mixLine 52 = .ok (.lstore_n 3, 1) := by decide +kernel
theorem dX6_mixLine_53 : decode cX6_mixLine 53 = .ok (.iinc 5 1, 3) := by decide +kernel
theorem dX6_mixLine_56 : decode cX6_mixLine 56 = .ok (.goto (-51), 3) := by decide +kernel
theorem dX6_mixLine_59 : decode cX6_mixLine 59 = .ok (.iconst 0, 1) := by decide +kernel
theorem dX6_mixLine_60 : decode cX6_mixLine 60 = .ok (.istore 5, 2) := by decide +kernel
theorem dX6_mixLine_62 : decode cX6_mixLine 62 = .ok (.iload 5, 2) := by decide +kernel
theorem dX6_mixLine_64 : decode cX6_mixLine 64 = .ok (.aload_n 0, 1) := by decide +kernel
theorem dX6_mixLine_65 : decode cX6_mixLine 65 = .ok (.getfield 12, 3) := by decide +kernel
theorem dX6_mixLine_68 : decode cX6_mixLine 68 = .ok (.getfield 59, 3) := by decide +kernel
theorem dX6_mixLine_71 : decode cX6_mixLine 71 = .ok (.if_icmp .gt 81, 3) := by decide +kernel
theorem dX6_mixLine_74 : decode cX6_mixLine 74 = .ok (.lload_n 3, 1) := by decide +kernel
theorem dX6_mixLine_75 : decode cX6_mixLine 75 = .ok (.aload_n 0, 1) := by decide +kernel
theorem dX6_mixLine_76 : decode cX6_mixLine 76 = .ok (.getfield 12, 3) := by decide +kernel
theorem dX6_mixLine_79 : decode cX6_mixLine 79 = .ok (.getfield 92, 3) := by decide +kernel
theorem dX6_mixLine_82 : decode cX6_mixLine 82 = .ok (.iload 5, 2) := by decide +kernel
theorem dX6_mixLine_84 : decode cX6_mixLine 84 = .ok (.invokevirtual 104, 3) := by decide +kernel
theorem dX6_mixLine_87 : decode cX6_mixLine 87 = .ok (.i2l, 1) := by decide +kernel
theorem dX6_mixLine_88 : decode cX6_mixLine 88 = .ok (.invokestatic 240, 3) := by decide +kernel
theorem dX6_mixLine_91 : decode cX6_mixLine 91 = .ok (.lstore_n 3, 1) := by decide +kernel
theorem dX6_mixLine_92 : decode cX6_mixLine 92 = .ok (.lload_n 3, 1) := by decide +kernel
theorem dX6_mixLine_93 : decode cX6_mixLine 93 = .ok (.aload_n 0, 1) := by decide +kernel
theorem dX6_mixLine_94 : decode cX6_mixLine 94 = .ok (.getfield 12, 3) := by decide +kernel
theorem dX6_mixLine_97 : decode cX6_mixLine 97 = .ok (.getfield 101, 3) := by decide +kernel
theorem dX6_mixLine_100 : decode cX6_mixLine 100 = .ok (.iload 5, 2) := by decide +kernel
theorem dX6_mixLine_102 : decode cX6_mixLine 102 = .ok (.invokevirtual 104, 3) := by decide +kernel
theorem dX6_mixLine_105 : decode cX6_mixLine 105 = .ok (.i2l, 1) := by decide +kernel
theorem dX6_mixLine_106 : decode cX6_mixLine 106 = .ok (.invokestatic 240, 3) := by decide +kernel
theorem dX6_mixLine_109 : decode cX6_mixLine 109 = .ok (.lstore_n 3, 1) := by decide +kernel
theorem dX6_mixLine_110 : decode cX6_mixLine 110 = .ok (.lload_n 3, 1) := by decide +kernel
theorem dX6_mixLine_111 : decode cX6_mixLine 111 = .ok (.aload_n 0, 1) := by decide +kernel
theorem dX6_mixLine_112 : decode cX6_mixLine 112 = .ok (.getfield 28, 3) := by decide +kernel
theorem dX6_mixLine_115 : decode cX6_mixLine 115 = .ok (.getfield 150, 3) := by decide +kernel
theorem dX6_mixLine_118 : decode cX6_mixLine 118 = .ok (.iload 5, 2) := by decide +kernel
theorem dX6_mixLine_120 : decode cX6_mixLine 120 = .ok (.invokevirtual 104, 3) := by decide +kernel
theorem dX6_mixLine_123 : decode cX6_mixLine 123 = .ok (.i2l, 1) := by decide +kernel
theorem dX6_mixLine_124 : decode cX6_mixLine 124 = .ok (.invokestatic 240, 3) := by decide +kernel
theorem dX6_mixLine_127 : decode cX6_mixLine 127 = .ok (.lstore_n 3, 1) := by decide +kernel
theorem dX6_mixLine_128 : decode cX6_mixLine 128 = .ok (.lload_n 3, 1) := by decide +kernel
theorem dX6_mixLine_129 : decode cX6_mixLine 129 = .ok (.aload_n 0, 1) := by decide +kernel
theorem dX6_mixLine_130 : decode cX6_mixLine 130 = .ok (.getfield 28, 3) := by decide +kernel
theorem dX6_mixLine_133 : decode cX6_mixLine 133 = .ok (.getfield 156, 3) := by decide +kernel
theorem dX6_mixLine_136 : decode cX6_mixLine 136 = .ok (.iload 5, 2) := by decide +kernel
theorem dX6_mixLine_138 : decode cX6_mixLine 138 = .ok (.invokevirtual 104, 3) := by decide +kernel
theorem dX6_mixLine_141 : decode cX6_mixLine 141 = .ok (.i2l, 1) := by decide +kernel
theorem dX6_mixLine_142 : decode cX6_mixLine 142 = .ok (.invokestatic 240, 3) := by decide +kernel
theorem dX6_mixLine_145 : decode cX6_mixLine 145 = .ok (.lstore_n 3, 1) := by decide +kernel
theorem dX6_mixLine_146 : decode cX6_mixLine 146 = .ok (.iinc 5 1, 3) := by decide +kernel
theorem dX6_mixLine_149 : decode cX6_mixLine 149 = .ok (.goto (-87), 3) := by decide +kernel
theorem dX6_mixLine_152 : decode cX6_mixLine 152 = .ok (.lload_n 3, 1) := by decide +kernel
theorem dX6_mixLine_153 : decode cX6_mixLine 153 = .ok (.lreturn, 1) := by decide +kernel
set_option maxRecDepth 20000 in
theorem ggX6_mixPosts_X6_mix : GoodIn wsX6_mixPosts wsX6_mix := goodIn_r _ [9, 10] (by decide +kernel) (by decide +kernel)
set_option maxRecDepth 20000 in
theorem gX6_mixPosts_X6_mix : GoodIn wsX6_mixPosts (va_wsS RX6 240 yX6_mix wsX6_mix) := goodIn_app (goodIn_of _ (by decide +kernel)) ggX6_mixPosts_X6_mix
set_option maxRecDepth 20000 in
theorem ggX6_mixPosts_X3_at : GoodIn wsX6_mixPosts wsX3_at := goodIn_r _ [15, 16, 96] (by decide +kernel) (by decide +kernel)
set_option maxRecDepth 20000 in
theorem gX6_mixPosts_X3_at : GoodIn wsX6_mixPosts (wsV RX6 104 RX3 yX3_at wsX3_at) := goodIn_app (goodIn_of _ (by decide +kernel)) ggX6_mixPosts_X3_at
set_option maxRecDepth 20000 in
theorem ggX6_mixPosts_X5_inspect : GoodIn wsX6_mixPosts wsX5_inspect := goodIn_r _ [21, 22, 23, 24, 25, 26, 27, 12, 13, 14, 15, 16, 28, 29, 30, 20, 31, 32, 33, 34, 35, 36, 37, 38, 39, 40, 41, 42, 43, 44, 45, 46, 47, 48, 49, 50, 51, 52, 53, 54, 55, 56, 57, 58, 59, 60, 61, 62, 63, 64, 65, 66, 67, 68, 69, 70, 71, 92, 93, 94, 95, 77, 78, 79, 80, 81, 82, 83, 84, 85, 86, 87, 88, 89, 90, 91, 96, 97, 98, 99, 100, 101, 102] (by decide +kernel) (by decide +kernel)
set_option maxRecDepth 20000 in
theorem gX6_mixPosts_X5_inspect : GoodIn wsX6_mixPosts (wsV RX6 188 RX5 yX5_inspect wsX5_inspect) := goodIn_app (goodIn_of _ (by decide +kernel)) ggX6_mixPosts_X5_inspect
theorem dX6_mixPosts_0 : decode cX6_mixPosts 0 = .ok (.lload_n 1, 1) := by decide +kernel
theorem dX6_mixPosts_1 : decode cX6_mixPosts 1 = .ok (.aload_n 0, 1) := by decide +kernel
theorem dX6_mixPosts_2 : decode cX6_mixPosts 2 = .ok (.getfield 12, 3) := by decide +kernel
theorem dX6_mixPosts_5 : decode cX6_mixPosts 5 = .ok (.getfield 180, 3) := by decide +kernel
theorem dX6_mixPosts_8 : decode cX6_mixPosts 8 = .ok (.i2l, 1) := by decide +kernel
theorem dX6_mixPosts_9 : decode cX6_mixPosts 9 = .ok (.invokestatic 240, 3) := by decide +kernel
theorem dX6_mixPosts_12 : decode cX6_mixPosts 12 = .ok (.lstore_n 3, 1) := by decide +kernel
theorem dX6_mixPosts_13 : decode cX6_mixPosts 13 = .ok (.iconst 0, 1) := by decide +kernel
theorem dX6_mixPosts_14 : decode cX6_mixPosts 14 = .ok (.istore 5, 2) := by decide +kernel
theorem dX6_mixPosts_16 : decode cX6_mixPosts 16 = .ok (.iload 5, 2) := by decide +kernel
theorem dX6_mixPosts_18 : decode cX6_mixPosts 18 = .ok (.aload_n 0, 1) := by decide +kernel
theorem dX6_mixPosts_19 : decode cX6_mixPosts 19 = .ok (.getfield 12, 3) := by decide +kernel
theorem dX6_mixPosts_22 : decode cX6_mixPosts 22 = .ok (.getfield 180, 3) := by decide +kernel
theorem dX6_mixPosts_25 : decode cX6_mixPosts 25 = .ok (.if_icmp .ge 27, 3) := by decide +kernel
theorem dX6_mixPosts_28 : decode cX6_mixPosts 28 = .ok (.lload_n 3, 1) := by decide +kernel
theorem dX6_mixPosts_29 : decode cX6_mixPosts 29 = .ok (.aload_n 0, 1) := by decide +kernel
theorem dX6_mixPosts_30 : decode cX6_mixPosts 30 = .ok (.getfield 12, 3) := by decide +kernel
theorem dX6_mixPosts_33 : decode cX6_mixPosts 33 = .ok (.getfield 185, 3) := by decide +kernel
theorem dX6_mixPosts_36 : decode cX6_mixPosts 36 = .ok (.iload 5, 2) := by decide +kernel
theorem dX6_mixPosts_38 : decode cX6_mixPosts 38 = .ok (.invokevirtual 104, 3) := by decide +kernel
theorem dX6_mixPosts_41 : decode cX6_mixPosts 41 = .ok (.i2l, 1) := by decide +kernel
theorem dX6_mixPosts_42 : decode cX6_mixPosts 42 = .ok (.invokestatic 240, 3) := by decide +kernel
theorem dX6_mixPosts_45 : decode cX6_mixPosts 45 = .ok (.lstore_n 3, 1) := by decide +kernel
theorem dX6_mixPosts_46 : decode cX6_mixPosts 46 = .ok (.iinc 5 1, 3) := by decide +kernel
theorem dX6_mixPosts_49 : decode cX6_mixPosts 49 = .ok (.goto (-33), 3) := by decide +kernel
theorem dX6_mixPosts_52 : decode cX6_mixPosts 52 = .ok (.aload_n 0, 1) := by decide +kernel
theorem dX6_mixPosts_53 : decode cX6_mixPosts 53 = .ok (.getfield 37, 3) := by decide +kernel
theorem dX6_mixPosts_56 : decode cX6_mixPosts 56 = .ok (.invokevirtual 188, 3) := by decide +kernel
theorem dX6_mixPosts_59 : decode cX6_mixPosts 59 = .ok (.istore 5, 2) := by decide +kernel
theorem dX6_mixPosts_61 : decode cX6_mixPosts 61 = .ok (.lload_n 3, 1) := by decide +kernel
theorem dX6_mixPosts_62 : decode cX6_mixPosts 62 = .ok (.iload 5, 2) := by decide +kernel
theorem dX6_mixPosts_64 : decode cX6_mixPosts 64 = .ok (.i2l, 1) := by decide +kernel
theorem dX6_mixPosts_65 : decode cX6_mixPosts 65 = .ok (.invokestatic 240, 3) := by decide +kernel
theorem dX6_mixPosts_68 : decode cX6_mixPosts 68 = .ok (.lstore_n 3, 1) := by decide +kernel
theorem dX6_mixPosts_69 : decode cX6_mixPosts 69 = .ok (.iconst 0, 1) := by decide +kernel
theorem dX6_mixPosts_70 : decode cX6_mixPosts 70 = .ok (.istore 6, 2) := by decide +kernel
theorem dX6_mixPosts_72 : decode cX6_mixPosts 72 = .ok (.iload 6, 2) := by decide +kernel
theorem dX6_mixPosts_74 : decode cX6_mixPosts 74 = .ok (.iload 5, 2) := by decide +kernel
theorem dX6_mixPosts_76 : decode cX6_mixPosts 76 = .ok (.if_icmp .ge 27, 3) := by decide +kernel
theorem dX6_mixPosts_79 : decode cX6_mixPosts 79 = .ok (.lload_n 3, 1) := by decide +kernel
theorem dX6_mixPosts_80 : decode cX6_mixPosts 80 = .ok (.aload_n 0, 1) := by decide +kernel
theorem dX6_mixPosts_81 : decode cX6_mixPosts 81 = .ok (.getfield 37, 3) := by decide +kernel
theorem dX6_mixPosts_84 : decode cX6_mixPosts 84 = .ok (.getfield 193, 3) := by decide +kernel
theorem dX6_mixPosts_87 : decode cX6_mixPosts 87 = .ok (.iload 6, 2) := by decide +kernel
theorem dX6_mixPosts_89 : decode cX6_mixPosts 89 = .ok (.invokevirtual 104, 3) := by decide +kernel
theorem dX6_mixPosts_92 : decode cX6_mixPosts 92 = .ok (.i2l, 1) := by decide +kernel
theorem dX6_mixPosts_93 : decode cX6_mixPosts 93 = .ok (.invokestatic 240, 3) := by decide +kernel
theorem dX6_mixPosts_96 : decode cX6_mixPosts 96 = .ok (.lstore_n 3, 1) := by decide +kernel
theorem dX6_mixPosts_97 : decode cX6_mixPosts 97 = .ok (.iinc 6 1, 3) := by decide +kernel
theorem dX6_mixPosts_100 : decode cX6_mixPosts 100 = .ok (.goto (-28), 3) := by decide +kernel
theorem dX6_mixPosts_103 : decode cX6_mixPosts 103 = .ok (.lload_n 3, 1) := by decide +kernel
theorem dX6_mixPosts_104 : decode cX6_mixPosts 104 = .ok (.lreturn, 1) := by decide +kernel
theorem dX6_mix_0 : decode cX6_mix 0 = .ok (.ldc2_w 244, 3) := by decide +kernel
theorem dX6_mix_3 : decode cX6_mix 3 = .ok (.lload_n 0, 1) := by decide +kernel
theorem dX6_mix_4 : decode cX6_mix 4 = .ok (.lmul, 1) := by decide +kernel
theorem dX6_mix_5 : decode cX6_mix 5 = .ok (.lload_n 2, 1) := by decide +kernel
theorem dX6_mix_6 : decode cX6_mix 6 = .ok (.ladd, 1) := by decide +kernel
theorem dX6_mix_7 : decode cX6_mix 7 = .ok (.lreturn, 1) := by decide +kernel
set_option maxRecDepth 20000 in
theorem ggX6_save_X0_push : GoodIn wsX6_save wsX0_push := goodIn_r _ [8, 9, 10, 11, 12, 13, 14, 15, 16, 17, 7, 18, 19, 20, 21, 22, 23, 24, 25, 26, 27, 28, 29, 30, 31, 32, 33, 34, 35, 36, 37, 38, 39, 40, 41, 42, 43, 44, 45, 57, 58, 59, 60, 61, 62, 63, 64, 65, 66, 67, 68, 69, 70, 71, 72, 73, 74, 75] (by decide +kernel) (by decide +kernel)
set_option maxRecDepth 20000 in
theorem gX6_save_X0_push : GoodIn wsX6_save (wsV RX6 246 RX0 yX0_push wsX0_push) := goodIn_app (goodIn_of _ (by decide +kernel)) ggX6_save_X0_push
set_option maxRecDepth 20000 in
theorem ggX6_save_X2_outdate : GoodIn wsX6_save wsX2_outdate := goodIn_r _ [50, 51, 76, 77, 78, 79, 80, 81] (by decide +kernel) (by decide +kernel)
set_option maxRecDepth 20000 in
theorem gX6_save_X2_outdate : GoodIn wsX6_save (wsV RX6 225 RX2 yX2_outdate wsX2_outdate) := goodIn_app (goodIn_of _ (by decide +kernel)) ggX6_save_X2_outdate
theorem dX6_save_0 : decode cX6_save 0 = .ok (.aload_n 0, 1) := by decide +kernel
theorem dX6_save_1 : decode cX6_save 1 = .ok (.getfield 19, 3) := by decide +kernel
theorem dX6_save_4 : decode cX6_save 4 = .ok (.aload_n 0, 1) := by decide +kernel
theorem dX6_save_5 : decode cX6_save 5 = .ok (.getfield 12, 3) := by decide +kernel
theorem dX6_save_8 : decode cX6_save 8 = .ok (.invokevirtual 246, 3) := by decide +kernel
theorem dX6_save_11 : decode cX6_save 11 = .ok (.aload_n 0, 1) := by decide +kernel
theorem dX6_save_12 : decode cX6_save 12 = .ok (.getfield 28, 3) := by decide +kernel
theorem dX6_save_15 : decode cX6_save 15 = .ok (.invokevirtual 225, 3) := by decide +kernel
theorem dX6_save_18 : decode cX6_save 18 = .ok (.return_, 1) := by decide +kernel
theorem dX6_isWithin_0 : decode cX6_isWithin 0 = .ok (.iload_n 0, 1) := by decide +kernel
theorem dX6_isWithin_1 : decode cX6_isWithin 1 = .ok (.iload_n 1, 1) := by decide +kernel
theorem dX6_isWithin_2 : decode cX6_isWithin 2 = .ok (.if_icmp .lt 12, 3) := by decide +kernel
theorem dX6_isWithin_5 : decode cX6_isWithin 5 = .ok (.iload_n 0, 1) := by decide +kernel
theorem dX6_isWithin_6 : decode cX6_isWithin 6 = .ok (.iload_n 2, 1) := by decide +kernel
theorem dX6_isWithin_7 : decode cX6_isWithin 7 = .ok (.if_icmp .gt 7, 3) := by decide +kernel
theorem dX6_isWithin_10 : decode cX6_isWithin 10 = .ok (.iconst 1, 1) := by decide +kernel
theorem dX6_isWithin_11 : decode cX6_isWithin 11 = .ok (.goto 4, 3) := by decide +kernel
theorem dX6_isWithin_14 : decode cX6_isWithin 14 = .ok (.iconst 0, 1) := by decide +kernel
theorem dX6_isWithin_15 : decode cX6_isWithin 15 = .ok (.ireturn, 1) := by decide +kernel
theorem dX6_isRange_0 : decode cX6_isRange 0 = .ok (.iload_n 0, 1) := by decide +kernel
theorem dX6_isRange_1 : decode cX6_isRange 1 = .ok (.ifCond .lt 17, 3) := by decide +kernel
theorem dX6_isRange_4 : decode cX6_isRange 4 = .ok (.iload_n 0, 1) := by decide +kernel
theorem dX6_isRange_5 : decode cX6_isRange 5 = .ok (.iload_n 1, 1) := by decide +kernel
theorem dX6_isRange_6 : decode cX6_isRange 6 = .ok (.if_icmp .gt 12, 3) := by decide +kernel
theorem dX6_isRange_9 : decode cX6_isRange 9 = .ok (.iload_n 1, 1) := by decide +kernel
theorem dX6_isRange_10 : decode cX6_isRange 10 = .ok (.iload_n 2, 1) := by decide +kernel
theorem dX6_isRange_11 : decode cX6_isRange 11 = .ok (.if_icmp .gt 7, 3) := by decide +kernel
theorem dX6_isRange_14 : decode cX6_isRange 14 = .ok (.iconst 1, 1) := by decide +kernel
theorem dX6_isRange_15 : decode cX6_isRange 15 = .ok (.goto 4, 3) := by decide +kernel
theorem dX6_isRange_18 : decode cX6_isRange 18 = .ok (.iconst 0, 1) := by decide +kernel
theorem dX6_isRange_19 : decode cX6_isRange 19 = .ok (.ireturn, 1) := by decide +kernel
set_option maxRecDepth 20000 in
theorem ggX7_init_X7_newLine : GoodIn wsX7_init wsX7_newLine := goodIn_r _ [19, 5, 20, 21, 22, 23, 24, 25, 26, 27, 28, 29, 30, 31] (by decide +kernel) (by decide +kernel)
set_option maxRecDepth 20000 in
theorem gX7_init_X7_newLine : GoodIn wsX7_init (wsV RX7 38 RX7 yX7_newLine wsX7_newLine) := goodIn_app (goodIn_of _ (by decide +kernel)) ggX7_init_X7_newLine
theorem dX7_init_0 : decode cX7_init 0 = .ok (.aload_n 0, 1) := by decide +kernel
theorem dX7_init_1 : decode cX7_init 1 = .ok (.invokespecial 1, 3) := by decide +kernel
theorem dX7_init_4 : decode cX7_init 4 = .ok (.aload_n 0, 1) := by decide +kernel
theorem dX7_init_5 : decode cX7_init 5 = .ok (.sipush 612, 3) := by decide +kernel
theorem dX7_init_8 : decode cX7_init 8 = .ok (.newarray .int, 2) := by decide +kernel
theorem dX7_init_10 : decode cX7_init 10 = .ok (.putfield 7, 3) := by decide +kernel
theorem dX7_init_13 : decode cX7_init 13 = .ok (.aload_n 0, 1) := by decide +kernel
theorem dX7_init_14 : decode cX7_init 14 = .ok (.sipush 2448, 3) := by decide +kernel
theorem dX7_init_17 : decode cX7_init 17 = .ok (.newarray .int, 2) := by decide +kernel
theorem dX7_init_19 : decode cX7_init 19 = .ok (.putfield 13, 3) := by decide +kernel
theorem dX7_init_22 : decode cX7_init 22 = .ok (.aload_n 0, 1) := by decide +kernel
theorem dX7_init_23 : decode cX7_init 23 = .ok (.bipush 121, 2) := by decide +kernel
theorem dX7_init_25 : decode cX7_init 25 = .ok (.newarray .long, 2) := by decide +kernel
theorem dX7_init_27 : decode cX7_init 27 = .ok (.putfield 16, 3) := by decide +kernel
theorem dX7_init_30 : decode cX7_init 30 = .ok (.aload_n 0, 1) := by decide +kernel
theorem dX7_init_31 : decode cX7_init 31 = .ok (.bipush 121, 2) := by decide +kernel
theorem dX7_init_33 : decode cX7_init 33 = .ok (.newarray .int, 2) := by decide +kernel
theorem dX7_init_35 : decode cX7_init 35 = .ok (.putfield 20, 3) := by decide +kernel
theorem dX7_init_38 : decode cX7_init 38 = .ok (.aload_n 0, 1) := by decide +kernel
theorem dX7_init_39 : decode cX7_init 39 = .ok (.bipush 121, 2) := by decide +kernel
theorem dX7_init_41 : decode cX7_init 41 = .ok (.newarray .int, 2) := by decide +kernel
theorem dX7_init_43 : decode cX7_init 43 = .ok (.putfield 23, 3) := by decide +kernel
theorem dX7_init_46 : decode cX7_init 46 = .ok (.aload_n 0, 1) := by decide +kernel
theorem dX7_init_47 : decode cX7_init 47 = .ok (.bipush 121, 2) := by decide +kernel
theorem dX7_init_49 : decode cX7_init 49 = .ok (.newarray .int, 2) := by decide +kernel
theorem dX7_init_51 : decode cX7_init 51 = .ok (.putfield 26, 3) := by decide +kernel
theorem dX7_init_54 : decode cX7_init 54 = .ok (.aload_n 0, 1) := by decide +kernel
theorem dX7_init_55 : decode cX7_init 55 = .ok (.bipush 121, 2) := by decide +kernel
theorem dX7_init_57 : decode cX7_init 57 = .ok (.newarray .int, 2) := by decide +kernel
theorem dX7_init_59 : decode cX7_init 59 = .ok (.putfield 29, 3) := by decide +kernel
theorem dX7_init_62 : decode cX7_init 62 = .ok (.aload_n 0, 1) := by decide +kernel
theorem dX7_init_63 : decode cX7_init 63 = .ok (.sipush 605, 3) := by decide +kernel
theorem dX7_init_66 : decode cX7_init 66 = .ok (.newarray .int, 2) := by decide +kernel
theorem dX7_init_68 : decode cX7_init 68 = .ok (.putfield 32, 3) := by decide +kernel
theorem dX7_init_71 : decode cX7_init 71 = .ok (.aload_n 0, 1) := by decide +kernel
theorem dX7_init_72 : decode cX7_init 72 = .ok (.sipush 14762, 3) := by decide +kernel
theorem dX7_init_75 : decode cX7_init 75 = .ok (.newarray .int, 2) := by decide +kernel
theorem dX7_init_77 : decode cX7_init 77 = .ok (.putfield 35, 3) := by decide +kernel
theorem dX7_init_80 : decode cX7_init 80 = .ok (.aload_n 0, 1) := by decide +kernel
theorem dX7_init_81 : decode cX7_init 81 = .ok (.getfield 7, 3) := by decide +kernel
theorem dX7_init_84 : decode cX7_init 84 = .ok (.iconst 0, 1) := by decide +kernel
theorem dX7_init_85 : decode cX7_init 85 = .ok (.bipush 60, 2) := by decide +kernel
theorem dX7_init_87 : decode cX7_init 87 = .ok (.iastore, 1) := by decide +kernel
theorem dX7_init_88 : decode cX7_init 88 = .ok (.aload_n 0, 1) := by decide +kernel
theorem dX7_init_89 : decode cX7_init 89 = .ok (.getfield 7, 3) := by decide +kernel
theorem dX7_init_92 : decode cX7_init 92 = .ok (.iconst 1, 1) := by decide +kernel
theorem dX7_init_93 : decode cX7_init 93 = .ok (.bipush 80, 2) := by decide +kernel
theorem dX7_init_95 : decode cX7_init 95 = .ok (.iastore, 1) := by decide +kernel
theorem dX7_init_96 : decode cX7_init 96 = .ok (.aload_n 0, 1) := by decide +kernel
theorem dX7_init_97 : decode cX7_init 97 = .ok (.getfield 7, 3) := by decide +kernel
theorem dX7_init_100 : decode cX7_init 100 = .ok (.iconst 2, 1) := by decide +kernel
theorem dX7_init_101 : decode cX7_init 101 = .ok (.bipush 20, 2) := by decide +kernel
theorem dX7_init_103 : decode cX7_init 103 = .ok (.iastore, 1) := by decide +kernel
theorem dX7_init_104 : decode cX7_init 104 = .ok (.aload_n 0, 1) := by decide +kernel
theorem dX7_init_105 : decode cX7_init 105 = .ok (.getfield 7, 3) := by decide +kernel
theorem dX7_init_108 : decode cX7_init 108 = .ok (.iconst 3, 1) := by decide +kernel
theorem dX7_init_109 : decode cX7_init 109 = .ok (.iconst 4, 1) := by decide +kernel
theorem dX7_init_110 : decode cX7_init 110 = .ok (.iastore, 1) := by decide +kernel
theorem dX7_init_111 : decode cX7_init 111 = .ok (.aload_n 0, 1) := by decide +kernel
theorem dX7_init_112 : decode cX7_init 112 = .ok (.getfield 7, 3) := by decide +kernel
theorem dX7_init_115 : decode cX7_init 115 = .ok (.iconst 4, 1) := by decide +kernel
theorem dX7_init_116 : decode cX7_init 116 = .ok (.iconst 3, 1) := by decide +kernel
theorem dX7_init_117 : decode cX7_init 117 = .ok (.iastore, 1) := by decide +kernel
theorem dX7_init_118 : decode cX7_init 118 = .ok (.aload_n 0, 1) := by decide +kernel
theorem dX7_init_119 : decode cX7_init 119 = .ok (.getfield 7, 3) := by decide +kernel
theorem dX7_init_122 : decode cX7_init 122 = .ok (.iconst 5, 1) := by decide +kernel
theorem dX7_init_123 : decode cX7_init 123 = .ok (.iconst 4, 1) := by decide +kernel
theorem dX7_init_124 : decode cX7_init 124 = .ok (.iastore, 1) := by decide +kernel
theorem dX7_init_125 : decode cX7_init 125 = .ok (.aload_n 0, 1) := by decide +kernel
theorem dX7_init_126 : decode cX7_init 126 = .ok (.getfield 7, 3) := by decide +kernel
theorem dX7_init_129 : decode cX7_init 129 = .ok (.bipush 6, 2) := by decide +kernel
theorem dX7_init_131 : decode cX7_init 131 = .ok (.bipush 40, 2) := by decide +kernel
theorem dX7_init_133 : decode cX7_init 133 = .ok (.iastore, 1) := by decide +kernel
theorem dX7_init_134 : decode cX7_init 134 = .ok (.aload_n 0, 1) := by decide +kernel
theorem dX7_init_135 : decode cX7_init 135 = .ok (.getfield 7, 3) := by decide +kernel
theorem dX7_init_138 : decode cX7_init 138 = .ok (.bipush 7, 2) := by decide +kernel
theorem dX7_init_140 : decode cX7_init 140 = .ok (.bipush 6, 2) := by decide +kernel
theorem dX7_init_142 : decode cX7_init 142 = .ok (.iastore, 1) := by decide +kernel
theorem dX7_init_143 : decode cX7_init 143 = .ok (.aload_n 0, 1) := by decide +kernel
theorem dX7_init_144 : decode cX7_init 144 = .ok (.getfield 7, 3) := by decide +kernel
theorem dX7_init_147 : decode cX7_init 147 = .ok (.bipush 8, 2) := by decide +kernel
theorem dX7_init_149 : decode cX7_init 149 = .ok (.iconst 1, 1) := by decide +kernel
theorem dX7_init_150 : decode cX7_init 150 = .ok (.iastore, 1) := by decide +kernel
theorem dX7_init_151 : decode cX7_init 151 = .ok (.aload_n 0, 1) := by decide +kernel
theorem dX7_init_152 : decode cX7_init 152 = .ok (.invokevirtual 38, 3) := by decide +kernel
theorem dX7_init_155 : decode cX7_init 155 = .ok (.return_, 1) := by decide +kernel
theorem dX7_thrown_0 : decode cX7_thrown 0 = .ok (.aload_n 0, 1) := by decide +kernel
theorem dX7_thrown_1 : decode cX7_thrown 1 = .ok (.getfield 41, 3) := by decide +kernel
theorem dX7_thrown_4 : decode cX7_thrown 4 = .ok (.ireturn, 1) := by decide +kernel
theorem dX7_in_0 : decode cX7_in 0 = .ok (.iload_n 0, 1) := by decide +kernel
theorem dX7_in_1 : decode cX7_in 1 = .ok (.iload_n 1, 1) := by decide +kernel
theorem dX7_in_2 : decode cX7_in 2 = .ok (.if_icmp .lt 12, 3) := by decide +kernel
theorem dX7_in_5 : decode cX7_in 5 = .ok (.iload_n 0, 1) := by decide +kernel
theorem dX7_in_6 : decode cX7_in 6 = .ok (.iload_n 2, 1) := by decide +kernel
theorem dX7_in_7 : decode cX7_in 7 = .ok (.if_icmp .gt 7, 3) := by decide +kernel
theorem dX7_in_10 : decode cX7_in 10 = .ok (.iconst 1, 1) := by decide +kernel
theorem dX7_in_11 : decode cX7_in 11 = .ok (.goto 4, 3) := by decide +kernel
theorem dX7_in_14 : decode cX7_in 14 = .ok (.iconst 0, 1) := by decide +kernel
theorem dX7_in_15 : decode cX7_in 15 = .ok (.ireturn, 1) := by decide +kernel
theorem dX7_newLine_0 : decode cX7_newLine 0 = .ok (.iconst 0, 1) := by decide +kernel
theorem dX7_newLine_1 : decode cX7_newLine 1 = .ok (.istore_n 1, 1) := by decide +kernel
theorem dX7_newLine_2 : decode cX7_newLine 2 = .ok (.iload_n 1, 1) := by decide +kernel
theorem dX7_newLine_3 : decode cX7_newLine 3 = .ok (.bipush 120, 2) := by decide +kernel
theorem dX7_newLine_5 : decode cX7_newLine 5 = .ok (.if_icmp .ge 31, 3) := by decide +kernel
theorem dX7_newLine_8 : decode cX7_newLine 8 = .ok (.aload_n 0, 1) := by decide +kernel
theorem dX7_newLine_9 : decode cX7_newLine 9 = .ok (.getfield 7, 3) := by decide +kernel
theorem dX7_newLine_12 : decode cX7_newLine 12 = .ok (.bipush 9, 2) := by decide +kernel
theorem dX7_newLine_14 : decode cX7_newLine 14 = .ok (.iload_n 1, 1) := by decide +kernel
theorem dX7_newLine_15 : decode cX7_newLine 15 = .ok (.iadd, 1) := by decide +kernel
theorem dX7_newLine_16 : decode cX7_newLine 16 = .ok (.bipush 80, 2) := by decide +kernel
theorem dX7_newLine_18 : decode cX7_newLine 18 = .ok (.iastore, 1) := by decide +kernel
theorem dX7_newLine_19 : decode cX7_newLine 19 = .ok (.aload_n 0, 1) := by decide +kernel
theorem dX7_newLine_20 : decode cX7_newLine 20 = .ok (.getfield 7, 3) := by decide +kernel
theorem dX7_newLine_23 : decode cX7_newLine 23 = .ok (.sipush 129, 3) := by decide +kernel
theorem dX7_newLine_26 : decode cX7_newLine 26 = .ok (.iload_n 1, 1) := by decide +kernel
theorem dX7_newLine_27 : decode cX7_newLine 27 = .ok (.iadd, 1) := by decide +kernel
theorem dX7_newLine_28 : decode cX7_newLine 28 = .ok (.iconst 0, 1) := by decide +kernel
theorem dX7_newLine_29 : decode cX7_newLine 29 = .ok (.iastore, 1) := by decide +kernel
theorem dX7_newLine_30 : decode cX7_newLine 30 = .ok (.iinc 1 1, 3) := by decide +kernel
theorem dX7_newLine_33 : decode cX7_newLine 33 = .ok (.goto (-31), 3) := by decide +kernel
theorem dX7_newLine_36 : decode cX7_newLine 36 = .ok (.sipush 249, 3) := by decide +kernel
theorem dX7_newLine_39 : decode cX7_newLine 39 = .ok (.istore_n 1, 1) := by decide +kernel
theorem dX7_newLine_40 : decode cX7_newLine 40 = .ok (.iload_n 1, 1) := by decide +kernel
theorem dX7_newLine_41 : decode cX7_newLine 41 = .ok (.sipush 612, 3) := by decide +kernel
theorem dX7_newLine_44 : decode cX7_newLine 44 = .ok (.if_icmp .ge 16, 3) := by decide +kernel
theorem dX7_newLine_47 : decode cX7_newLine 47 = .ok (.aload_n 0, 1) := by decide +kernel
theorem dX7_newLine_48 : decode cX7_newLine 48 = .ok (.getfield 7, 3) := by decide +kernel
theorem dX7_newLine_51 : decode cX7_newLine 51 = .ok (.iload_n 1, 1) := by decide +kernel
theorem dX7_newLine_52 : decode cX7_newLine 52 = .ok (.iconst 0, 1) := by decide +kernel
theorem dX7_newLine_53 : decode cX7_newLine 53 = .ok (.iastore, 1) := by decide +kernel
theorem dX7_newLine_54 : decode cX7_newLine 54 = .ok (.iinc 1 1, 3) := by decide +kernel
theorem dX7_newLine_57 : decode cX7_newLine 57 = .ok (.goto (-17), 3) := by decide +kernel
theorem dX7_newLine_60 : decode cX7_newLine 60 = .ok (.return_, 1) := by decide +kernel
theorem dX7_keep_0 : decode cX7_keep 0 = .ok (.aload_n 0, 1) := by decide +kernel
theorem dX7_keep_1 : decode cX7_keep 1 = .ok (.getfield 45, 3) := by decide +kernel
theorem dX7_keep_4 : decode cX7_keep 4 = .ok (.iconst 4, 1) := by decide +kernel
theorem dX7_keep_5 : decode cX7_keep 5 = .ok (.if_icmp .ne 44, 3) := by decide +kernel
theorem dX7_keep_8 : decode cX7_keep 8 = .ok (.iconst 0, 1) := by decide +kernel
theorem dX7_keep_9 : decode cX7_keep 9 = .ok (.istore_n 1, 1) := by decide +kernel
theorem dX7_keep_10 : decode cX7_keep 10 = .ok (.iload_n 1, 1) := by decide +kernel
theorem dX7_keep_11 : decode cX7_keep 11 = .ok (.sipush 1836, 3) := by decide +kernel
theorem dX7_keep_14 : decode cX7_keep 14 = .ok (.if_icmp .ge 25, 3) := by decide +kernel
theorem dX7_keep_17 : decode cX7_keep 17 = .ok (.aload_n 0, 1) := by decide +kernel
theorem dX7_keep_18 : decode cX7_keep 18 = .ok (.getfield 13, 3) := by decide +kernel
theorem dX7_keep_21 : decode cX7_keep 21 = .ok (.iload_n 1, 1) := by decide +kernel
theorem dX7_keep_22 : decode cX7_keep 22 = .ok (.aload_n 0, 1) := by decide +kernel
theorem dX7_keep_23 : decode cX7_keep 23 = .ok (.getfield 13, 3) := by decide +kernel
theorem dX7_keep_26 : decode cX7_keep 26 = .ok (.iload_n 1, 1) := by decide +kernel
theorem dX7_keep_27 : decode cX7_keep 27 = .ok (.sipush 612, 3) := by decide +kernel
theorem dX7_keep_30 : decode cX7_keep 30 = .ok (.iadd, 1) := by decide +kernel
theorem dX7_keep_31 : decode cX7_keep 31 = .ok (.iaload, 1) := by decide +kernel
theorem dX7_keep_32 : decode cX7_keep 32 = .ok (.iastore, 1) := by decide +kernel
theorem dX7_keep_33 : decode cX7_keep 33 = .ok (.iinc 1 1, 3) := by decide +kernel
theorem dX7_keep_36 : decode cX7_keep 36 = .ok (.goto (-26), 3) := by decide +kernel
theorem dX7_keep_39 : decode cX7_keep 39 = .ok (.aload_n 0, 1) := by decide +kernel
theorem dX7_keep_40 : decode cX7_keep 40 = .ok (.dup, 1) := by decide +kernel
theorem dX7_keep_41 : decode cX7_keep 41 = .ok (.getfield 45, 3) := by decide +kernel
theorem dX7_keep_44 : decode cX7_keep 44 = .ok (.iconst 1, 1) := by decide +kernel
theorem dX7_keep_45 : decode cX7_keep 45 = .ok (.isub, 1) := by decide +kernel
theorem dX7_keep_46 : decode cX7_keep 46 = .ok (.putfield 45, 3) := by decide +kernel
theorem dX7_keep_49 : decode cX7_keep 49 = .ok (.iconst 0, 1) := by decide +kernel
theorem dX7_keep_50 : decode cX7_keep 50 = .ok (.istore_n 1, 1) := by decide +kernel
theorem dX7_keep_51 : decode cX7_keep 51 = .ok (.iload_n 1, 1) := by decide +kernel
theorem dX7_keep_52 : decode cX7_keep 52 = .ok (.sipush 612, 3) := by decide +kernel
theorem dX7_keep_55 : decode cX7_keep 55 = .ok (.if_icmp .ge 30, 3) := by decide +kernel
theorem dX7_keep_58 : decode cX7_keep 58 = .ok (.aload_n 0, 1) := by decide +kernel
theorem dX7_keep_59 : decode cX7_keep 59 = .ok (.getfield 13, 3) := by decide +kernel
theorem dX7_keep_62 : decode cX7_keep 62 = .ok (.sipush 612, 3) := by decide +kernel
theorem dX7_keep_65 : decode cX7_keep 65 = .ok (.aload_n 0, 1) := by decide +kernel
theorem dX7_keep_66 : decode cX7_keep 66 = .ok (.getfield 45, 3) := by decide +kernel
theorem dX7_keep_69 : decode cX7_keep 69 = .ok (.imul, 1) := by decide +kernel
theorem dX7_keep_70 : decode cX7_keep 70 = .ok (.iload_n 1, 1) := by decide +kernel
theorem dX7_keep_71 : decode cX7_keep 71 = .ok (.iadd, 1) := by decide +kernel
theorem dX7_keep_72 : decode cX7_keep 72 = .ok (.aload_n 0, 1) := by decide +kernel
theorem dX7_keep_73 : decode cX7_keep 73 = .ok (.getfield 7, 3) := by decide +kernel
theorem dX7_keep_76 : decode cX7_keep 76 = .ok (.iload_n 1, 1) := by decide +kernel
theorem dX7_keep_77 : decode cX7_keep 77 = .ok (.iaload, 1) := by decide +kernel
theorem dX7_keep_78 : decode cX7_keep 78 = .ok (.iastore, 1) := by decide +kernel
theorem dX7_keep_79 : decode cX7_keep 79 = .ok (.iinc 1 1, 3) := by decide +kernel
theorem dX7_keep_82 : decode cX7_keep 82 = .ok (.goto (-31), 3) := by decide +kernel
theorem dX7_keep_85 : decode cX7_keep 85 = .ok (.aload_n 0, 1) := by decide +kernel
theorem dX7_keep_86 : decode cX7_keep 86 = .ok (.dup, 1) := by decide +kernel
theorem dX7_keep_87 : decode cX7_keep 87 = .ok (.getfield 45, 3) := by decide +kernel
theorem dX7_keep_90 : decode cX7_keep 90 = .ok (.iconst 1, 1) := by decide +kernel
theorem dX7_keep_91 : decode cX7_keep 91 = .ok (.iadd, 1) := by decide +kernel
theorem dX7_keep_92 : decode cX7_keep 92 = .ok (.putfield 45, 3) := by decide +kernel
theorem dX7_keep_95 : decode cX7_keep 95 = .ok (.return_, 1) := by decide +kernel
set_option maxRecDepth 20000 in
theorem ggX7_isCell_X7_in : GoodIn wsX7_isCell wsX7_in := goodIn_r _ [5] (by decide +kernel) (by decide +kernel)
set_option maxRecDepth 20000 in
theorem gX7_isCell_X7_in : GoodIn wsX7_isCell (va_wsS RX7 48 yX7_in wsX7_in) := goodIn_app (goodIn_of _ (by decide +kernel)) ggX7_isCell_X7_in
theorem dX7_isCell_0 : decode cX7_isCell 0 = .ok (.iload_n 1, 1) := by decide +kernel
theorem dX7_isCell_1 : decode cX7_isCell 1 = .ok (.iconst 0, 1) := by decide +kernel
theorem dX7_isCell_2 : decode cX7_isCell 2 = .ok (.aload_n 0, 1) := by decide +kernel
theorem dX7_isCell_3 : decode cX7_isCell 3 = .ok (.getfield 7, 3) := by decide +kernel
theorem dX7_isCell_6 : decode cX7_isCell 6 = .ok (.iconst 0, 1) := by decide +kernel
theorem dX7_isCell_7 : decode cX7_isCell 7 = .ok (.iaload, 1) := by decide +kernel
theorem dX7_isCell_8 : decode cX7_isCell 8 = .ok (.iconst 1, 1) := by decide +kernel
theorem dX7_isCell_9 : decode cX7_isCell 9 = .ok (.isub, 1) := by decide +kernel
theorem dX7_isCell_10 : decode cX7_isCell 10 = .ok (.invokestatic 48, 3) := by decide +kernel
theorem dX7_isCell_13 : decode cX7_isCell 13 = .ok (.ireturn, 1) := by decide +kernel
set_option maxRecDepth 20000 in
theorem ggX7_isPosition_X7_in : GoodIn wsX7_isPosition wsX7_in := goodIn_r _ [5] (by decide +kernel) (by decide +kernel)
set_option maxRecDepth 20000 in
theorem gX7_isPosition_X7_in : GoodIn wsX7_isPosition (va_wsS RX7 48 yX7_in wsX7_in) := goodIn_app (goodIn_of _ (by decide +kernel)) ggX7_isPosition_X7_in
theorem dX7_isPosition_0 : decode cX7_isPosition 0 = .ok (.iload_n 1, 1) := by decide +kernel
theorem dX7_isPosition_1 : decode cX7_isPosition 1 = .ok (.iconst 0, 1) := by decide +kernel
theorem dX7_isPosition_2 : decode cX7_isPosition 2 = .ok (.aload_n 0, 1) := by decide +kernel
theorem dX7_isPosition_3 : decode cX7_isPosition 3 = .ok (.getfield 7, 3) := by decide +kernel
theorem dX7_isPosition_6 : decode cX7_isPosition 6 = .ok (.iconst 0, 1) := by decide +kernel
theorem dX7_isPosition_7 : decode cX7_isPosition 7 = .ok (.iaload, 1) := by decide +kernel
theorem dX7_isPosition_8 : decode cX7_isPosition 8 = .ok (.invokestatic 48, 3) := by decide +kernel
theorem dX7_isPosition_11 : decode cX7_isPosition 11 = .ok (.ireturn, 1) := by decide +kernel
theorem dX7_refuses_0 : decode cX7_refuses 0 = .ok (.aload_n 0, 1) := by decide +kernel
theorem dX7_refuses_1 : decode cX7_refuses 1 = .ok (.iload_n 1, 1) := by decide +kernel
theorem dX7_refuses_2 : decode cX7_refuses 2 = .ok (.ifCond .eq 7, 3) := by decide +kernel
theorem dX7_refuses_5 : decode cX7_refuses 5 = .ok (.iconst 0, 1) := by decide +kernel
theorem dX7_refuses_6 : decode cX7_refuses 6 = .ok (.goto 4, 3) := by decide +kernel
theorem dX7_refuses_9 : decode cX7_refuses 9 = .ok (.iconst 1, 1) := by decide +kernel
theorem dX7_refuses_10 : decode cX7_refuses 10 = .ok (.putfield 41, 3) := by decide +kernel
theorem dX7_refuses_13 : decode cX7_refuses 13 = .ok (.iload_n 1, 1) := by decide +kernel
theorem dX7_refuses_14 : decode cX7_refuses 14 = .ok (.ifCond .ne 7, 3) := by decide +kernel
theorem dX7_refuses_17 : decode cX7_refuses 17 = .ok (.iconst 1, 1) := by decide +kernel
theorem dX7_refuses_18 : decode cX7_refuses 18 = .ok (.goto 4, 3) := by decide +kernel
theorem dX7_refuses_21 : decode cX7_refuses 21 = .ok (.iconst 0, 1) := by decide +kernel
theorem dX7_refuses_22 : decode cX7_refuses 22 = .ok (.ireturn, 1) := by decide +kernel
set_option maxRecDepth 20000 in
theorem ggX7_setLength_X7_in : GoodIn wsX7_setLength wsX7_in := goodIn_r _ [5] (by decide +kernel) (by decide +kernel)
set_option maxRecDepth 20000 in
theorem gX7_setLength_X7_in : GoodIn wsX7_setLength (va_wsS RX7 48 yX7_in wsX7_in) := goodIn_app (goodIn_of _ (by decide +kernel)) ggX7_setLength_X7_in
set_option maxRecDepth 20000 in
theorem ggX7_setLength_X7_refuses : GoodIn wsX7_setLength wsX7_refuses := goodIn_r _ [9, 10, 21, 22, 23, 24, 25, 26, 27, 28, 29, 30, 31, 32] (by decide +kernel) (by decide +kernel)
set_option maxRecDepth 20000 in
theorem gX7_setLength_X7_refuses : GoodIn wsX7_setLength (wsV RX7 52 RX7 yX7_refuses wsX7_refuses) := goodIn_app (goodIn_of _ (by decide +kernel)) ggX7_setLength_X7_refuses
set_option maxRecDepth 20000 in
theorem ggX7_setLength_X7_keep : GoodIn wsX7_setLength wsX7_keep := goodIn_r _ [14, 15, 16, 1, 21, 22, 23, 24, 25, 26, 27, 28, 29, 30, 31, 32] (by decide +kernel) (by decide +kernel)
set_option maxRecDepth 20000 in
theorem gX7_setLength_X7_keep : GoodIn wsX7_setLength (wsV RX7 56 RX7 yX7_keep wsX7_keep) := goodIn_app (goodIn_of _ (by decide +kernel)) ggX7_setLength_X7_keep
set_option maxRecDepth 20000 in
theorem ggX7_setLength_X7_newLine : GoodIn wsX7_setLength wsX7_newLine := goodIn_r _ [20, 1, 21, 22, 23, 24, 25, 26, 27, 28, 29, 30, 31, 32] (by decide +kernel) (by decide +kernel)
set_option maxRecDepth 20000 in
theorem gX7_setLength_X7_newLine : GoodIn wsX7_setLength (wsV RX7 38 RX7 yX7_newLine wsX7_newLine) := goodIn_app (goodIn_of _ (by decide +kernel)) ggX7_setLength_X7_newLine
theorem dX7_setLength_0 : decode cX7_setLength 0 = .ok (.aload_n 0, 1) := by decide +kernel
theorem dX7_setLength_1 : decode cX7_setLength 1 = .ok (.iload_n 1, 1) := by decide +kernel
theorem dX7_setLength_2 : decode cX7_setLength 2 = .ok (.bipush 10, 2) := by decide +kernel
theorem dX7_setLength_4 : decode cX7_setLength 4 = .ok (.bipush 120, 2) := by decide +kernel
theorem dX7_setLength_6 : decode cX7_setLength 6 = .ok (.invokestatic 48, 3) := by decide +kernel
theorem dX7_setLength_9 : decode cX7_setLength 9 = .ok (.invokevirtual 52, 3) := by decide +kernel
theorem dX7_setLength_12 : decode cX7_setLength 12 = .ok (.ifCond .eq 5, 3) := by decide +kernel
theorem dX7_setLength_15 : decode cX7_setLength 15 = .ok (.iconst 0, 1) := by decide +kernel
theorem dX7_setLength_16 : decode cX7_setLength 16 = .ok (.ireturn, 1) := by decide +kernel
theorem dX7_setLength_17 : decode cX7_setLength 17 = .ok (.aload_n 0, 1) := by decide +kernel
theorem dX7_setLength_18 : decode cX7_setLength 18 = .ok (.invokevirtual 56, 3) := by decide +kernel
theorem dX7_setLength_21 : decode cX7_setLength 21 = .ok (.aload_n 0, 1) := by decide +kernel
theorem dX7_setLength_22 : decode cX7_setLength 22 = .ok (.getfield 7, 3) := by decide +kernel
theorem dX7_setLength_25 : decode cX7_setLength 25 = .ok (.iconst 0, 1) := by decide +kernel
theorem dX7_setLength_26 : decode cX7_setLength 26 = .ok (.iaload, 1) := by decide +kernel
theorem dX7_setLength_27 : decode cX7_setLength 27 = .ok (.istore_n 2, 1) := by decide +kernel
theorem dX7_setLength_28 : decode cX7_setLength 28 = .ok (.aload_n 0, 1) := by decide +kernel
theorem dX7_setLength_29 : decode cX7_setLength 29 = .ok (.getfield 7, 3) := by decide +kernel
theorem dX7_setLength_32 : decode cX7_setLength 32 = .ok (.iconst 0, 1) := by decide +kernel
theorem dX7_setLength_33 : decode cX7_setLength 33 = .ok (.iload_n 1, 1) := by decide +kernel
theorem dX7_setLength_34 : decode cX7_setLength 34 = .ok (.iastore, 1) := by decide +kernel
theorem dX7_setLength_35 : decode cX7_setLength 35 = .ok (.aload_n 0, 1) := by decide +kernel
theorem dX7_setLength_36 : decode cX7_setLength 36 = .ok (.invokevirtual 38, 3) := by decide +kernel
theorem dX7_setLength_39 : decode cX7_setLength 39 = .ok (.iload_n 2, 1) := by decide +kernel
theorem dX7_setLength_40 : decode cX7_setLength 40 = .ok (.ireturn, 1) := by decide +kernel
set_option maxRecDepth 20000 in
theorem ggX7_spread_X7_keep : GoodIn wsX7_spread wsX7_keep := goodIn_r _ [6, 7, 8, 1, 9, 10, 11, 12, 13, 14, 15, 16, 17, 18, 19, 20] (by decide +kernel) (by decide +kernel)
set_option maxRecDepth 20000 in
theorem gX7_spread_X7_keep : GoodIn wsX7_spread (wsV RX7 56 RX7 yX7_keep wsX7_keep) := goodIn_app (goodIn_of _ (by decide +kernel)) ggX7_spread_X7_keep
theorem dX7_spread_0 : decode cX7_spread 0 = .ok (.aload_n 0, 1) := by decide +kernel
theorem dX7_spread_1 : decode cX7_spread 1 = .ok (.invokevirtual 56, 3) := by decide +kernel
theorem dX7_spread_4 : decode cX7_spread 4 = .ok (.iconst 0, 1) := by decide +kernel
theorem dX7_spread_5 : decode cX7_spread 5 = .ok (.istore 5, 2) := by decide +kernel
theorem dX7_spread_7 : decode cX7_spread 7 = .ok (.iload_n 1, 1) := by decide +kernel
theorem dX7_spread_8 : decode cX7_spread 8 = .ok (.iload_n 2, 1) := by decide +kernel
theorem dX7_spread_9 : decode cX7_spread 9 = .ok (.iadd, 1) := by decide +kernel
theorem dX7_spread_10 : decode cX7_spread 10 = .ok (.istore 6, 2) := by decide +kernel
theorem dX7_spread_12 : decode cX7_spread 12 = .ok (.iload 6, 2) := by decide +kernel
theorem dX7_spread_14 : decode cX7_spread 14 = .ok (.iload_n 1, 1) := by decide +kernel
theorem dX7_spread_15 : decode cX7_spread 15 = .ok (.iload_n 3, 1) := by decide +kernel
theorem dX7_spread_16 : decode cX7_spread 16 = .ok (.iadd, 1) := by decide +kernel
theorem dX7_spread_17 : decode cX7_spread 17 = .ok (.if_icmp .gt 40, 3) := by decide +kernel
theorem dX7_spread_20 : decode cX7_spread 20 = .ok (.iload 5, 2) := by decide +kernel
theorem dX7_spread_22 : decode cX7_spread 22 = .ok (.aload_n 0, 1) := by decide +kernel
theorem dX7_spread_23 : decode cX7_spread 23 = .ok (.getfield 7, 3) := by decide +kernel
theorem dX7_spread_26 : decode cX7_spread 26 = .ok (.iload 6, 2) := by decide +kernel
theorem dX7_spread_28 : decode cX7_spread 28 = .ok (.iaload, 1) := by decide +kernel
theorem dX7_spread_29 : decode cX7_spread 29 = .ok (.iload 4, 2) := by decide +kernel
theorem dX7_spread_31 : decode cX7_spread 31 = .ok (.if_icmp .ne 7, 3) := by decide +kernel
theorem dX7_spread_34 : decode cX7_spread 34 = .ok (.iconst 0, 1) := by decide +kernel
theorem dX7_spread_35 : decode cX7_spread 35 = .ok (.goto 4, 3) := by decide +kernel
theorem dX7_spread_38 : decode cX7_spread 38 = .ok (.iconst 1, 1) := by decide +kernel
theorem dX7_spread_39 : decode cX7_spread 39 = .ok (.iadd, 1) := by decide +kernel
theorem dX7_spread_40 : decode cX7_spread 40 = .ok (.istore 5, 2) := by decide +kernel
theorem dX7_spread_42 : decode cX7_spread 42 = .ok (.aload_n 0, 1) := by decide +kernel
theorem dX7_spread_43 : decode cX7_spread 43 = .ok (.getfield 7, 3) := by decide +kernel
theorem dX7_spread_46 : decode cX7_spread 46 = .ok (.iload 6, 2) := by decide +kernel
theorem dX7_spread_48 : decode cX7_spread 48 = .ok (.iload 4, 2) := by decide +kernel
theorem dX7_spread_50 : decode cX7_spread 50 = .ok (.iastore, 1) := by decide +kernel
theorem dX7_spread_51 : decode cX7_spread 51 = .ok (.iinc 6 1, 3) := by decide +kernel
theorem dX7_spread_54 : decode cX7_spread 54 = .ok (.goto (-42), 3) := by decide +kernel
theorem dX7_spread_57 : decode cX7_spread 57 = .ok (.iload 5, 2) := by decide +kernel
theorem dX7_spread_59 : decode cX7_spread 59 = .ok (.ireturn, 1) := by decide +kernel
set_option maxRecDepth 20000 in
theorem ggX7_setLimit_X7_isCell : GoodIn wsX7_setLimit wsX7_isCell := goodIn_r _ [5, 6, 7, 8, 4, 9, 25, 26, 27, 28, 29, 30, 31, 32, 33, 34, 35, 36] (by decide +kernel) (by decide +kernel)
set_option maxRecDepth 20000 in
theorem gX7_setLimit_X7_isCell : GoodIn wsX7_setLimit (wsV RX7 59 RX7 yX7_isCell wsX7_isCell) := goodIn_app (goodIn_of _ (by decide +kernel)) ggX7_setLimit_X7_isCell
set_option maxRecDepth 20000 in
theorem ggX7_setLimit_X7_in : GoodIn wsX7_setLimit wsX7_in := goodIn_r _ [9] (by decide +kernel) (by decide +kernel)
set_option maxRecDepth 20000 in
theorem gX7_setLimit_X7_in : GoodIn wsX7_setLimit (va_wsS RX7 48 yX7_in wsX7_in) := goodIn_app (goodIn_of _ (by decide +kernel)) ggX7_setLimit_X7_in
set_option maxRecDepth 20000 in
theorem ggX7_setLimit_X7_refuses : GoodIn wsX7_setLimit wsX7_refuses := goodIn_r _ [13, 14, 25, 26, 27, 28, 29, 30, 31, 32, 33, 34, 35, 36] (by decide +kernel) (by decide +kernel)
set_option maxRecDepth 20000 in
theorem gX7_setLimit_X7_refuses : GoodIn wsX7_setLimit (wsV RX7 52 RX7 yX7_refuses wsX7_refuses) := goodIn_app (goodIn_of _ (by decide +kernel)) ggX7_setLimit_X7_refuses
set_option maxRecDepth 20000 in
theorem ggX7_setLimit_X7_spread : GoodIn wsX7_setLimit wsX7_spread := goodIn_r _ [18, 6, 19, 20, 21, 4, 22, 23, 24, 25, 26, 27, 28, 29, 30, 31, 32, 33, 34, 35, 36] (by decide +kernel) (by decide +kernel)
set_option maxRecDepth 20000 in
theorem gX7_setLimit_X7_spread : GoodIn wsX7_setLimit (wsV RX7 63 RX7 yX7_spread wsX7_spread) := goodIn_app (goodIn_of _ (by decide +kernel)) ggX7_setLimit_X7_spread
theorem dX7_setLimit_0 : decode cX7_setLimit 0 = .ok (.aload_n 0, 1) := by decide +kernel
theorem dX7_setLimit_1 : decode cX7_setLimit 1 = .ok (.aload_n 0, 1) := by decide +kernel
theorem dX7_setLimit_2 : decode cX7_setLimit 2 = .ok (.iload_n 1, 1) := by decide +kernel
theorem dX7_setLimit_3 : decode cX7_setLimit 3 = .ok (.invokevirtual 59, 3) := by decide +kernel
theorem dX7_setLimit_6 : decode cX7_setLimit 6 = .ok (.ifCond .eq 32, 3) := by decide +kernel
theorem dX7_setLimit_9 : decode cX7_setLimit 9 = .ok (.aload_n 0, 1) := by decide +kernel
theorem dX7_setLimit_10 : decode cX7_setLimit 10 = .ok (.iload_n 2, 1) := by decide +kernel
theorem dX7_setLimit_11 : decode cX7_setLimit 11 = .ok (.invokevirtual 59, 3) := by decide +kernel
theorem dX7_setLimit_14 : decode cX7_setLimit 14 = .ok (.ifCond .eq 24, 3) := by decide +kernel
theorem dX7_setLimit_17 : decode cX7_setLimit 17 = .ok (.iload_n 1, 1) := by decide +kernel
theorem dX7_setLimit_18 : decode cX7_setLimit 18 = .ok (.iload_n 2, 1) := by decide +kernel
theorem dX7_setLimit_19 : decode cX7_setLimit 19 = .ok (.if_icmp .gt 19, 3) := by decide +kernel
theorem dX7_setLimit_22 : decode cX7_setLimit 22 = .ok (.iload_n 3, 1) := by decide +kernel
theorem dX7_setLimit_23 : decode cX7_setLimit 23 = .ok (.bipush 20, 2) := by decide +kernel
theorem dX7_setLimit_25 : decode cX7_setLimit 25 = .ok (.sipush 160, 3) := by decide +kernel
theorem dX7_setLimit_28 : decode cX7_setLimit 28 = .ok (.invokestatic 48, 3) := by decide +kernel
theorem dX7_setLimit_31 : decode cX7_setLimit 31 = .ok (.ifCond .eq 7, 3) := by decide +kernel
theorem dX7_setLimit_34 : decode cX7_setLimit 34 = .ok (.iconst 1, 1) := by decide +kernel
theorem dX7_setLimit_35 : decode cX7_setLimit 35 = .ok (.goto 4, 3) := by decide +kernel
theorem dX7_setLimit_38 : decode cX7_setLimit 38 = .ok (.iconst 0, 1) := by decide +kernel
theorem dX7_setLimit_39 : decode cX7_setLimit 39 = .ok (.invokevirtual 52, 3) := by decide +kernel
theorem dX7_setLimit_42 : decode cX7_setLimit 42 = .ok (.ifCond .eq 7, 3) := by decide +kernel
theorem dX7_setLimit_45 : decode cX7_setLimit 45 = .ok (.iconst 0, 1) := by decide +kernel
theorem dX7_setLimit_46 : decode cX7_setLimit 46 = .ok (.goto 12, 3) := by decide +kernel
theorem dX7_setLimit_49 : decode cX7_setLimit 49 = .ok (.aload_n 0, 1) := by decide +kernel
theorem dX7_setLimit_50 : decode cX7_setLimit 50 = .ok (.bipush 9, 2) := by decide +kernel
theorem dX7_setLimit_52 : decode cX7_setLimit 52 = .ok (.iload_n 1, 1) := by decide +kernel
theorem dX7_setLimit_53 : decode cX7_setLimit 53 = .ok (.iload_n 2, 1) := by decide +kernel
theorem dX7_setLimit_54 : decode cX7_setLimit 54 = .ok (.iload_n 3, 1) := by decide +kernel
theorem dX7_setLimit_55 : decode cX7_setLimit 55 = .ok (.invokevirtual 63, 3) := by decide +kernel
theorem dX7_setLimit_58 : decode cX7_setLimit 58 = .ok (.ireturn, 1) := by decide +kernel
set_option maxRecDepth 20000 in
theorem ggX7_setGradient_X7_isCell : GoodIn wsX7_setGradient wsX7_isCell := goodIn_r _ [5, 6, 7, 8, 4, 9, 25, 26, 27, 28, 29, 30, 31, 32, 33, 34, 35, 36] (by decide +kernel) (by decide +kernel)
set_option maxRecDepth 20000 in
theorem gX7_setGradient_X7_isCell : GoodIn wsX7_setGradient (wsV RX7 59 RX7 yX7_isCell wsX7_isCell) := goodIn_app (goodIn_of _ (by decide +kernel)) ggX7_setGradient_X7_isCell
set_option maxRecDepth 20000 in
theorem ggX7_setGradient_X7_in : GoodIn wsX7_setGradient wsX7_in := goodIn_r _ [9] (by decide +kernel) (by decide +kernel)
set_option maxRecDepth 20000 in
theorem gX7_setGradient_X7_in : GoodIn wsX7_setGradient (va_wsS RX7 48 yX7_in wsX7_in) := goodIn_app (goodIn_of _ (by decide +kernel)) ggX7_setGradient_X7_in
set_option maxRecDepth 20000 in
theorem ggX7_setGradient_X7_refuses : GoodIn wsX7_setGradient wsX7_refuses := goodIn_r _ [13, 14, 25, 26, 27, 28, 29, 30, 31, 32, 33, 34, 35, 36] (by decide +kernel) (by decide +kernel)
set_option maxRecDepth 20000 in
theorem gX7_setGradient_X7_refuses : GoodIn wsX7_setGradient (wsV RX7 52 RX7 yX7_refuses wsX7_refuses) := goodIn_app (goodIn_of _ (by decide +kernel)) ggX7_setGradient_X7_refuses
set_option maxRecDepth 20000 in
theorem ggX7_setGradient_X7_spread : GoodIn wsX7_setGradient wsX7_spread := goodIn_r _ [18, 6, 19, 20, 21, 4, 22, 23, 24, 25, 26, 27, 28, 29, 30, 31, 32, 33, 34, 35, 36] (by decide +kernel) (by decide +kernel)
set_option maxRecDepth 20000 in
theorem gX7_setGradient_X7_spread : GoodIn wsX7_setGradient (wsV RX7 63 RX7 yX7_spread wsX7_spread) := goodIn_app (goodIn_of _ (by decide +kernel)) ggX7_setGradient_X7_spread
theorem dX7_setGradient_0 : decode cX7_setGradient 0 = .ok (.aload_n 0, 1) := by decide +kernel
theorem dX7_setGradient_1 : decode cX7_setGradient 1 = .ok (.aload_n 0, 1) := by decide +kernel
theorem dX7_setGradient_2 : decode cX7_setGradient 2 = .ok (.iload_n 1, 1) := by decide +kernel
theorem dX7_setGradient_3 : decode cX7_setGradient 3 = .ok (.invokevirtual 59, 3) := by decide +kernel
theorem dX7_setGradient_6 : decode cX7_setGradient 6 = .ok (.ifCond .eq 31, 3) := by decide +kernel
theorem dX7_setGradient_9 : decode cX7_setGradient 9 = .ok (.aload_n 0, 1) := by decide +kernel
theorem dX7_setGradient_10 : decode cX7_setGradient 10 = .ok (.iload_n 2, 1) := by decide +kernel
theorem dX7_setGradient_11 : decode cX7_setGradient 11 = .ok (.invokevirtual 59, 3) := by decide +kernel
theorem dX7_setGradient_14 : decode cX7_setGradient 14 = .ok (.ifCond .eq 23, 3) := by decide +kernel
theorem dX7_setGradient_17 : decode cX7_setGradient 17 = .ok (.iload_n 1, 1) := by decide +kernel
theorem dX7_setGradient_18 : decode cX7_setGradient 18 = .ok (.iload_n 2, 1) := by decide +kernel
theorem dX7_setGradient_19 : decode cX7_setGradient 19 = .ok (.if_icmp .gt 18, 3) := by decide +kernel
theorem dX7_setGradient_22 : decode cX7_setGradient 22 = .ok (.iload_n 3, 1) := by decide +kernel
theorem dX7_setGradient_23 : decode cX7_setGradient 23 = .ok (.bipush (-40), 2) := by decide +kernel
theorem dX7_setGradient_25 : decode cX7_setGradient 25 = .ok (.bipush 40, 2) := by decide +kernel
theorem dX7_setGradient_27 : decode cX7_setGradient 27 = .ok (.invokestatic 48, 3) := by decide +kernel
theorem dX7_setGradient_30 : decode cX7_setGradient 30 = .ok (.ifCond .eq 7, 3) := by decide +kernel
theorem dX7_setGradient_33 : decode cX7_setGradient 33 = .ok (.iconst 1, 1) := by decide +kernel
theorem dX7_setGradient_34 : decode cX7_setGradient 34 = .ok (.goto 4, 3) := by decide +kernel
theorem dX7_setGradient_37 : decode cX7_setGradient 37 = .ok (.iconst 0, 1) := by decide +kernel
theorem dX7_setGradient_38 : decode cX7_setGradient 38 = .ok (.invokevirtual 52, 3) := by decide +kernel
theorem dX7_setGradient_41 : decode cX7_setGradient 41 = .ok (.ifCond .eq 7, 3) := by decide +kernel
theorem dX7_setGradient_44 : decode cX7_setGradient 44 = .ok (.iconst 0, 1) := by decide +kernel
theorem dX7_setGradient_45 : decode cX7_setGradient 45 = .ok (.goto 13, 3) := by decide +kernel
theorem dX7_setGradient_48 : decode cX7_setGradient 48 = .ok (.aload_n 0, 1) := by decide +kernel
theorem dX7_setGradient_49 : decode cX7_setGradient 49 = .ok (.sipush 129, 3) := by decide +kernel
theorem dX7_setGradient_52 : decode cX7_setGradient 52 = .ok (.iload_n 1, 1) := by decide +kernel
theorem dX7_setGradient_53 : decode cX7_setGradient 53 = .ok (.iload_n 2, 1) := by decide +kernel
theorem dX7_setGradient_54 : decode cX7_setGradient 54 = .ok (.iload_n 3, 1) := by decide +kernel
theorem dX7_setGradient_55 : decode cX7_setGradient 55 = .ok (.invokevirtual 63, 3) := by decide +kernel
theorem dX7_setGradient_58 : decode cX7_setGradient 58 = .ok (.ireturn, 1) := by decide +kernel
set_option maxRecDepth 20000 in
theorem ggX7_setBarred_X7_isPosition : GoodIn wsX7_setBarred wsX7_isPosition := goodIn_r _ [6, 1, 7, 8, 5, 9, 25, 26, 27, 28, 29, 30, 31, 32, 33, 34, 35, 36] (by decide +kernel) (by decide +kernel)
set_option maxRecDepth 20000 in
theorem gX7_setBarred_X7_isPosition : GoodIn wsX7_setBarred (wsV RX7 67 RX7 yX7_isPosition wsX7_isPosition) := goodIn_app (goodIn_of _ (by decide +kernel)) ggX7_setBarred_X7_isPosition
set_option maxRecDepth 20000 in
theorem ggX7_setBarred_X7_refuses : GoodIn wsX7_setBarred wsX7_refuses := goodIn_r _ [13, 14, 25, 26, 27, 28, 29, 30, 31, 32, 33, 34, 35, 36] (by decide +kernel) (by decide +kernel)
set_option maxRecDepth 20000 in
theorem gX7_setBarred_X7_refuses : GoodIn wsX7_setBarred (wsV RX7 52 RX7 yX7_refuses wsX7_refuses) := goodIn_app (goodIn_of _ (by decide +kernel)) ggX7_setBarred_X7_refuses
set_option maxRecDepth 20000 in
theorem ggX7_setBarred_X7_spread : GoodIn wsX7_setBarred wsX7_spread := goodIn_r _ [18, 1, 19, 20, 21, 5, 22, 23, 24, 25, 26, 27, 28, 29, 30, 31, 32, 33, 34, 35, 36] (by decide +kernel) (by decide +kernel)
set_option maxRecDepth 20000 in
theorem gX7_setBarred_X7_spread : GoodIn wsX7_setBarred (wsV RX7 63 RX7 yX7_spread wsX7_spread) := goodIn_app (goodIn_of _ (by decide +kernel)) ggX7_setBarred_X7_spread
theorem dX7_setBarred_0 : decode cX7_setBarred 0 = .ok (.aload_n 0, 1) := by decide +kernel
theorem dX7_setBarred_1 : decode cX7_setBarred 1 = .ok (.aload_n 0, 1) := by decide +kernel
theorem dX7_setBarred_2 : decode cX7_setBarred 2 = .ok (.iload_n 1, 1) := by decide +kernel
theorem dX7_setBarred_3 : decode cX7_setBarred 3 = .ok (.invokevirtual 67, 3) := by decide +kernel
theorem dX7_setBarred_6 : decode cX7_setBarred 6 = .ok (.ifCond .eq 20, 3) := by decide +kernel
theorem dX7_setBarred_9 : decode cX7_setBarred 9 = .ok (.aload_n 0, 1) := by decide +kernel
theorem dX7_setBarred_10 : decode cX7_setBarred 10 = .ok (.iload_n 2, 1) := by decide +kernel
theorem dX7_setBarred_11 : decode cX7_setBarred 11 = .ok (.invokevirtual 67, 3) := by decide +kernel
theorem dX7_setBarred_14 : decode cX7_setBarred 14 = .ok (.ifCond .eq 12, 3) := by decide +kernel
theorem dX7_setBarred_17 : decode cX7_setBarred 17 = .ok (.iload_n 1, 1) := by decide +kernel
theorem dX7_setBarred_18 : decode cX7_setBarred 18 = .ok (.iload_n 2, 1) := by decide +kernel
theorem dX7_setBarred_19 : decode cX7_setBarred 19 = .ok (.if_icmp .gt 7, 3) := by decide +kernel
theorem dX7_setBarred_22 : decode cX7_setBarred 22 = .ok (.iconst 1, 1) := by decide +kernel
theorem dX7_setBarred_23 : decode cX7_setBarred 23 = .ok (.goto 4, 3) := by decide +kernel
theorem dX7_setBarred_26 : decode cX7_setBarred 26 = .ok (.iconst 0, 1) := by decide +kernel
theorem dX7_setBarred_27 : decode cX7_setBarred 27 = .ok (.invokevirtual 52, 3) := by decide +kernel
theorem dX7_setBarred_30 : decode cX7_setBarred 30 = .ok (.ifCond .eq 5, 3) := by decide +kernel
theorem dX7_setBarred_33 : decode cX7_setBarred 33 = .ok (.iconst 0, 1) := by decide +kernel
theorem dX7_setBarred_34 : decode cX7_setBarred 34 = .ok (.ireturn, 1) := by decide +kernel
theorem dX7_setBarred_35 : decode cX7_setBarred 35 = .ok (.aload_n 0, 1) := by decide +kernel
theorem dX7_setBarred_36 : decode cX7_setBarred 36 = .ok (.sipush 249, 3) := by decide +kernel
theorem dX7_setBarred_39 : decode cX7_setBarred 39 = .ok (.iload_n 1, 1) := by decide +kernel
theorem dX7_setBarred_40 : decode cX7_setBarred 40 = .ok (.iload_n 2, 1) := by decide +kernel
theorem dX7_setBarred_41 : decode cX7_setBarred 41 = .ok (.iload_n 3, 1) := by decide +kernel
theorem dX7_setBarred_42 : decode cX7_setBarred 42 = .ok (.ifCond .eq 7, 3) := by decide +kernel
theorem dX7_setBarred_45 : decode cX7_setBarred 45 = .ok (.iconst 1, 1) := by decide +kernel
theorem dX7_setBarred_46 : decode cX7_setBarred 46 = .ok (.goto 4, 3) := by decide +kernel
theorem dX7_setBarred_49 : decode cX7_setBarred 49 = .ok (.iconst 0, 1) := by decide +kernel
theorem dX7_setBarred_50 : decode cX7_setBarred 50 = .ok (.invokevirtual 63, 3) := by decide +kernel
theorem dX7_setBarred_53 : decode cX7_setBarred 53 = .ok (.istore 4, 2) := by decide +kernel
theorem dX7_setBarred_55 : decode cX7_setBarred 55 = .ok (.iconst 0, 1) := by decide +kernel
theorem dX7_setBarred_56 : decode cX7_setBarred 56 = .ok (.istore 5, 2) := by decide +kernel
theorem dX7_setBarred_58 : decode cX7_setBarred 58 = .ok (.iconst 0, 1) := by decide +kernel
theorem dX7_setBarred_59 : decode cX7_setBarred 59 = .ok (.istore 6, 2) := by decide +kernel
theorem dX7_setBarred_61 : decode cX7_setBarred 61 = .ok (.iload 6, 2) := by decide +kernel
theorem dX7_setBarred_63 : decode cX7_setBarred 63 = .ok (.aload_n 0, 1) := by decide +kernel
theorem dX7_setBarred_64 : decode cX7_setBarred 64 = .ok (.getfield 7, 3) := by decide +kernel
theorem dX7_setBarred_67 : decode cX7_setBarred 67 = .ok (.iconst 0, 1) := by decide +kernel
theorem dX7_setBarred_68 : decode cX7_setBarred 68 = .ok (.iaload, 1) := by decide +kernel
theorem dX7_setBarred_69 : decode cX7_setBarred 69 = .ok (.if_icmp .gt 25, 3) := by decide +kernel
theorem dX7_setBarred_72 : decode cX7_setBarred 72 = .ok (.iload 5, 2) := by decide +kernel
theorem dX7_setBarred_74 : decode cX7_setBarred 74 = .ok (.aload_n 0, 1) := by decide +kernel
theorem dX7_setBarred_75 : decode cX7_setBarred 75 = .ok (.getfield 7, 3) := by decide +kernel
theorem dX7_setBarred_78 : decode cX7_setBarred 78 = .ok (.sipush 249, 3) := by decide +kernel
theorem dX7_setBarred_81 : decode cX7_setBarred 81 = .ok (.iload 6, 2) := by decide +kernel
theorem dX7_setBarred_83 : decode cX7_setBarred 83 = .ok (.iadd, 1) := by decide +kernel
theorem dX7_setBarred_84 : decode cX7_setBarred 84 = .ok (.iaload, 1) := by decide +kernel
theorem dX7_setBarred_85 : decode cX7_setBarred 85 = .ok (.iadd, 1) := by decide +kernel
theorem dX7_setBarred_86 : decode cX7_setBarred 86 = .ok (.istore 5, 2) := by decide +kernel
theorem dX7_setBarred_88 : decode cX7_setBarred 88 = .ok (.iinc 6 1, 3) := by decide +kernel
theorem dX7_setBarred_91 : decode cX7_setBarred 91 = .ok (.goto (-30), 3) := by decide +kernel
theorem dX7_setBarred_94 : decode cX7_setBarred 94 = .ok (.iload 5, 2) := by decide +kernel
theorem dX7_setBarred_96 : decode cX7_setBarred 96 = .ok (.ireturn, 1) := by decide +kernel
set_option maxRecDepth 20000 in
theorem ggX7_setRequired_X7_isPosition : GoodIn wsX7_setRequired wsX7_isPosition := goodIn_r _ [6, 1, 7, 8, 5, 9, 25, 26, 27, 28, 29, 30, 31, 32, 33, 34, 35, 36] (by decide +kernel) (by decide +kernel)
set_option maxRecDepth 20000 in
theorem gX7_setRequired_X7_isPosition : GoodIn wsX7_setRequired (wsV RX7 67 RX7 yX7_isPosition wsX7_isPosition) := goodIn_app (goodIn_of _ (by decide +kernel)) ggX7_setRequired_X7_isPosition
set_option maxRecDepth 20000 in
theorem ggX7_setRequired_X7_refuses : GoodIn wsX7_setRequired wsX7_refuses := goodIn_r _ [13, 14, 25, 26, 27, 28, 29, 30, 31, 32, 33, 34, 35, 36] (by decide +kernel) (by decide +kernel)
set_option maxRecDepth 20000 in
theorem gX7_setRequired_X7_refuses : GoodIn wsX7_setRequired (wsV RX7 52 RX7 yX7_refuses wsX7_refuses) := goodIn_app (goodIn_of _ (by decide +kernel)) ggX7_setRequired_X7_refuses
set_option maxRecDepth 20000 in
theorem ggX7_setRequired_X7_spread : GoodIn wsX7_setRequired wsX7_spread := goodIn_r _ [18, 1, 19, 20, 21, 5, 22, 23, 24, 25, 26, 27, 28, 29, 30, 31, 32, 33, 34, 35, 36] (by decide +kernel) (by decide +kernel)
set_option maxRecDepth 20000 in
theorem gX7_setRequired_X7_spread : GoodIn wsX7_setRequired (wsV RX7 63 RX7 yX7_spread wsX7_spread) := goodIn_app (goodIn_of _ (by decide +kernel)) ggX7_setRequired_X7_spread
theorem dX7_setRequired_0 : decode cX7_setRequired 0 = .ok (.aload_n 0, 1) := by decide +kernel
theorem dX7_setRequired_1 : decode cX7_setRequired 1 = .ok (.aload_n 0, 1) := by decide +kernel
theorem dX7_setRequired_2 : decode cX7_setRequired 2 = .ok (.iload_n 1, 1) := by decide +kernel
theorem dX7_setRequired_3 : decode cX7_setRequired 3 = .ok (.invokevirtual 67, 3) := by decide +kernel
theorem dX7_setRequired_6 : decode cX7_setRequired 6 = .ok (.invokevirtual 52, 3) := by decide +kernel
theorem dX7_setRequired_9 : decode cX7_setRequired 9 = .ok (.ifCond .eq 5, 3) := by decide +kernel
theorem dX7_setRequired_12 : decode cX7_setRequired 12 = .ok (.iconst 0, 1) := by decide +kernel
theorem dX7_setRequired_13 : decode cX7_setRequired 13 = .ok (.ireturn, 1) := by decide +kernel
theorem dX7_setRequired_14 : decode cX7_setRequired 14 = .ok (.aload_n 0, 1) := by decide +kernel
theorem dX7_setRequired_15 : decode cX7_setRequired 15 = .ok (.getfield 7, 3) := by decide +kernel
theorem dX7_setRequired_18 : decode cX7_setRequired 18 = .ok (.sipush 370, 3) := by decide +kernel
theorem dX7_setRequired_21 : decode cX7_setRequired 21 = .ok (.iload_n 1, 1) := by decide +kernel
theorem dX7_setRequired_22 : decode cX7_setRequired 22 = .ok (.iadd, 1) := by decide +kernel
theorem dX7_setRequired_23 : decode cX7_setRequired 23 = .ok (.iaload, 1) := by decide +kernel
theorem dX7_setRequired_24 : decode cX7_setRequired 24 = .ok (.iconst 1, 1) := by decide +kernel
theorem dX7_setRequired_25 : decode cX7_setRequired 25 = .ok (.if_icmp .ne 7, 3) := by decide +kernel
theorem dX7_setRequired_28 : decode cX7_setRequired 28 = .ok (.iconst 1, 1) := by decide +kernel
theorem dX7_setRequired_29 : decode cX7_setRequired 29 = .ok (.goto 4, 3) := by decide +kernel
theorem dX7_setRequired_32 : decode cX7_setRequired 32 = .ok (.iconst 0, 1) := by decide +kernel
theorem dX7_setRequired_33 : decode cX7_setRequired 33 = .ok (.istore_n 3, 1) := by decide +kernel
theorem dX7_setRequired_34 : decode cX7_setRequired 34 = .ok (.aload_n 0, 1) := by decide +kernel
theorem dX7_setRequired_35 : decode cX7_setRequired 35 = .ok (.sipush 370, 3) := by decide +kernel
theorem dX7_setRequired_38 : decode cX7_setRequired 38 = .ok (.iload_n 1, 1) := by decide +kernel
theorem dX7_setRequired_39 : decode cX7_setRequired 39 = .ok (.iload_n 1, 1) := by decide +kernel
theorem dX7_setRequired_40 : decode cX7_setRequired 40 = .ok (.iload_n 2, 1) := by decide +kernel
theorem dX7_setRequired_41 : decode cX7_setRequired 41 = .ok (.ifCond .eq 7, 3) := by decide +kernel
theorem dX7_setRequired_44 : decode cX7_setRequired 44 = .ok (.iconst 1, 1) := by decide +kernel
theorem dX7_setRequired_45 : decode cX7_setRequired 45 = .ok (.goto 4, 3) := by decide +kernel
theorem dX7_setRequired_48 : decode cX7_setRequired 48 = .ok (.iconst 0, 1) := by decide +kernel
theorem dX7_setRequired_49 : decode cX7_setRequired 49 = .ok (.invokevirtual 63, 3) := by decide +kernel
theorem dX7_setRequired_52 : decode cX7_setRequired 52 = .ok (.istore 4, 2) := by decide +kernel
theorem dX7_setRequired_54 : decode cX7_setRequired 54 = .ok (.iload_n 3, 1) := by decide +kernel
theorem dX7_setRequired_55 : decode cX7_setRequired 55 = .ok (.ireturn, 1) := by decide +kernel
set_option maxRecDepth 20000 in
theorem ggX7_setTrain_X7_in : GoodIn wsX7_setTrain wsX7_in := goodIn_r _ [5] (by decide +kernel) (by decide +kernel)
set_option maxRecDepth 20000 in
theorem gX7_setTrain_X7_in : GoodIn wsX7_setTrain (va_wsS RX7 48 yX7_in wsX7_in) := goodIn_app (goodIn_of _ (by decide +kernel)) ggX7_setTrain_X7_in
set_option maxRecDepth 20000 in
theorem ggX7_setTrain_X7_refuses : GoodIn wsX7_setTrain wsX7_refuses := goodIn_r _ [9, 10, 17, 18, 19, 20, 21, 22, 23, 24, 25, 26, 27, 28] (by decide +kernel) (by decide +kernel)
set_option maxRecDepth 20000 in
theorem gX7_setTrain_X7_refuses : GoodIn wsX7_setTrain (wsV RX7 52 RX7 yX7_refuses wsX7_refuses) := goodIn_app (goodIn_of _ (by decide +kernel)) ggX7_setTrain_X7_refuses
set_option maxRecDepth 20000 in
theorem ggX7_setTrain_X7_keep : GoodIn wsX7_setTrain wsX7_keep := goodIn_r _ [14, 15, 16, 1, 17, 18, 19, 20, 21, 22, 23, 24, 25, 26, 27, 28] (by decide +kernel) (by decide +kernel)
set_option maxRecDepth 20000 in
theorem gX7_setTrain_X7_keep : GoodIn wsX7_setTrain (wsV RX7 56 RX7 yX7_keep wsX7_keep) := goodIn_app (goodIn_of _ (by decide +kernel)) ggX7_setTrain_X7_keep
theorem dX7_setTrain_0 : decode cX7_setTrain 0 = .ok (.aload_n 0, 1) := by decide +kernel
theorem dX7_setTrain_1 : decode cX7_setTrain 1 = .ok (.iload_n 1, 1) := by decide +kernel
theorem dX7_setTrain_2 : decode cX7_setTrain 2 = .ok (.bipush 50, 2) := by decide +kernel
theorem dX7_setTrain_4 : decode cX7_setTrain 4 = .ok (.sipush 200, 3) := by decide +kernel
theorem dX7_setTrain_7 : decode cX7_setTrain 7 = .ok (.invokestatic 48, 3) := by decide +kernel
theorem dX7_setTrain_10 : decode cX7_setTrain 10 = .ok (.ifCond .eq 27, 3) := by decide +kernel
theorem dX7_setTrain_13 : decode cX7_setTrain 13 = .ok (.iload_n 2, 1) := by decide +kernel
theorem dX7_setTrain_14 : decode cX7_setTrain 14 = .ok (.iconst 0, 1) := by decide +kernel
theorem dX7_setTrain_15 : decode cX7_setTrain 15 = .ok (.bipush 100, 2) := by decide +kernel
theorem dX7_setTrain_17 : decode cX7_setTrain 17 = .ok (.invokestatic 48, 3) := by decide +kernel
theorem dX7_setTrain_20 : decode cX7_setTrain 20 = .ok (.ifCond .eq 17, 3) := by decide +kernel
theorem dX7_setTrain_23 : decode cX7_setTrain 23 = .ok (.iload_n 3, 1) := by decide +kernel
theorem dX7_setTrain_24 : decode cX7_setTrain 24 = .ok (.iconst 1, 1) := by decide +kernel
theorem dX7_setTrain_25 : decode cX7_setTrain 25 = .ok (.bipush 20, 2) := by decide +kernel
theorem dX7_setTrain_27 : decode cX7_setTrain 27 = .ok (.invokestatic 48, 3) := by decide +kernel
theorem dX7_setTrain_30 : decode cX7_setTrain 30 = .ok (.ifCond .eq 7, 3) := by decide +kernel
theorem dX7_setTrain_33 : decode cX7_setTrain 33 = .ok (.iconst 1, 1) := by decide +kernel
theorem dX7_setTrain_34 : decode cX7_setTrain 34 = .ok (.goto 4, 3) := by decide +kernel
theorem dX7_setTrain_37 : decode cX7_setTrain 37 = .ok (.iconst 0, 1) := by decide +kernel
theorem dX7_setTrain_38 : decode cX7_setTrain 38 = .ok (.invokevirtual 52, 3) := by decide +kernel
theorem dX7_setTrain_41 : decode cX7_setTrain 41 = .ok (.ifCond .eq 5, 3) := by decide +kernel
theorem dX7_setTrain_44 : decode cX7_setTrain 44 = .ok (.iconst 0, 1) := by decide +kernel
theorem dX7_setTrain_45 : decode cX7_setTrain 45 = .ok (.ireturn, 1) := by decide +kernel
theorem dX7_setTrain_46 : decode cX7_setTrain 46 = .ok (.aload_n 0, 1) := by decide +kernel
theorem dX7_setTrain_47 : decode cX7_setTrain 47 = .ok (.invokevirtual 56, 3) := by decide +kernel
theorem dX7_setTrain_50 : decode cX7_setTrain 50 = .ok (.aload_n 0, 1) := by decide +kernel
theorem dX7_setTrain_51 : decode cX7_setTrain 51 = .ok (.getfield 7, 3) := by decide +kernel
theorem dX7_setTrain_54 : decode cX7_setTrain 54 = .ok (.iconst 1, 1) := by decide +kernel
theorem dX7_setTrain_55 : decode cX7_setTrain 55 = .ok (.iaload, 1) := by decide +kernel
theorem dX7_setTrain_56 : decode cX7_setTrain 56 = .ok (.istore 4, 2) := by decide +kernel
theorem dX7_setTrain_58 : decode cX7_setTrain 58 = .ok (.aload_n 0, 1) := by decide +kernel
theorem dX7_setTrain_59 : decode cX7_setTrain 59 = .ok (.getfield 7, 3) := by decide +kernel
theorem dX7_setTrain_62 : decode cX7_setTrain 62 = .ok (.iconst 1, 1) := by decide +kernel
theorem dX7_setTrain_63 : decode cX7_setTrain 63 = .ok (.iload_n 1, 1) := by decide +kernel
theorem dX7_setTrain_64 : decode cX7_setTrain 64 = .ok (.iastore, 1) := by decide +kernel
theorem dX7_setTrain_65 : decode cX7_setTrain 65 = .ok (.aload_n 0, 1) := by decide +kernel
theorem dX7_setTrain_66 : decode cX7_setTrain 66 = .ok (.getfield 7, 3) := by decide +kernel
theorem dX7_setTrain_69 : decode cX7_setTrain 69 = .ok (.iconst 2, 1) := by decide +kernel
theorem dX7_setTrain_70 : decode cX7_setTrain 70 = .ok (.iload_n 2, 1) := by decide +kernel
theorem dX7_setTrain_71 : decode cX7_setTrain 71 = .ok (.iastore, 1) := by decide +kernel
theorem dX7_setTrain_72 : decode cX7_setTrain 72 = .ok (.aload_n 0, 1) := by decide +kernel
theorem dX7_setTrain_73 : decode cX7_setTrain 73 = .ok (.getfield 7, 3) := by decide +kernel
theorem dX7_setTrain_76 : decode cX7_setTrain 76 = .ok (.iconst 3, 1) := by decide +kernel
theorem dX7_setTrain_77 : decode cX7_setTrain 77 = .ok (.iload_n 3, 1) := by decide +kernel
theorem dX7_setTrain_78 : decode cX7_setTrain 78 = .ok (.iastore, 1) := by decide +kernel
theorem dX7_setTrain_79 : decode cX7_setTrain 79 = .ok (.iload 4, 2) := by decide +kernel
theorem dX7_setTrain_81 : decode cX7_setTrain 81 = .ok (.ireturn, 1) := by decide +kernel
set_option maxRecDepth 20000 in
theorem ggX7_setRules_X7_in : GoodIn wsX7_setRules wsX7_in := goodIn_r _ [5] (by decide +kernel) (by decide +kernel)
set_option maxRecDepth 20000 in
theorem gX7_setRules_X7_in : GoodIn wsX7_setRules (va_wsS RX7 48 yX7_in wsX7_in) := goodIn_app (goodIn_of _ (by decide +kernel)) ggX7_setRules_X7_in
set_option maxRecDepth 20000 in
theorem ggX7_setRules_X7_refuses : GoodIn wsX7_setRules wsX7_refuses := goodIn_r _ [9, 10, 17, 18, 19, 20, 21, 22, 23, 24, 25, 26, 27, 28] (by decide +kernel) (by decide +kernel)
set_option maxRecDepth 20000 in
theorem gX7_setRules_X7_refuses : GoodIn wsX7_setRules (wsV RX7 52 RX7 yX7_refuses wsX7_refuses) := goodIn_app (goodIn_of _ (by decide +kernel)) ggX7_setRules_X7_refuses
set_option maxRecDepth 20000 in
theorem ggX7_setRules_X7_keep : GoodIn wsX7_setRules wsX7_keep := goodIn_r _ [14, 15, 16, 1, 17, 18, 19, 20, 21, 22, 23, 24, 25, 26, 27, 28] (by decide +kernel) (by decide +kernel)
set_option maxRecDepth 20000 in
theorem gX7_setRules_X7_keep : GoodIn wsX7_setRules (wsV RX7 56 RX7 yX7_keep wsX7_keep) := goodIn_app (goodIn_of _ (by decide +kernel)) ggX7_setRules_X7_keep
theorem dX7_setRules_0 : decode cX7_setRules 0 = .ok (.aload_n 0, 1) := by decide +kernel
theorem dX7_setRules_1 : decode cX7_setRules 1 = .ok (.iload_n 1, 1) := by decide +kernel
theorem dX7_setRules_2 : decode cX7_setRules 2 = .ok (.iconst 2, 1) := by decide +kernel
theorem dX7_setRules_3 : decode cX7_setRules 3 = .ok (.iconst 4, 1) := by decide +kernel
theorem dX7_setRules_4 : decode cX7_setRules 4 = .ok (.invokestatic 48, 3) := by decide +kernel
theorem dX7_setRules_7 : decode cX7_setRules 7 = .ok (.ifCond .eq 26, 3) := by decide +kernel
theorem dX7_setRules_10 : decode cX7_setRules 10 = .ok (.iload_n 3, 1) := by decide +kernel
theorem dX7_setRules_11 : decode cX7_setRules 11 = .ok (.iconst 1, 1) := by decide +kernel
theorem dX7_setRules_12 : decode cX7_setRules 12 = .ok (.bipush 120, 2) := by decide +kernel
theorem dX7_setRules_14 : decode cX7_setRules 14 = .ok (.invokestatic 48, 3) := by decide +kernel
theorem dX7_setRules_17 : decode cX7_setRules 17 = .ok (.ifCond .eq 16, 3) := by decide +kernel
theorem dX7_setRules_20 : decode cX7_setRules 20 = .ok (.iload_n 2, 1) := by decide +kernel
theorem dX7_setRules_21 : decode cX7_setRules 21 = .ok (.iconst 1, 1) := by decide +kernel
theorem dX7_setRules_22 : decode cX7_setRules 22 = .ok (.iload_n 3, 1) := by decide +kernel
theorem dX7_setRules_23 : decode cX7_setRules 23 = .ok (.invokestatic 48, 3) := by decide +kernel
theorem dX7_setRules_26 : decode cX7_setRules 26 = .ok (.ifCond .eq 7, 3) := by decide +kernel
theorem dX7_setRules_29 : decode cX7_setRules 29 = .ok (.iconst 1, 1) := by decide +kernel
theorem dX7_setRules_30 : decode cX7_setRules 30 = .ok (.goto 4, 3) := by decide +kernel
theorem dX7_setRules_33 : decode cX7_setRules 33 = .ok (.iconst 0, 1) := by decide +kernel
theorem dX7_setRules_34 : decode cX7_setRules 34 = .ok (.invokevirtual 52, 3) := by decide +kernel
theorem dX7_setRules_37 : decode cX7_setRules 37 = .ok (.ifCond .eq 5, 3) := by decide +kernel
theorem dX7_setRules_40 : decode cX7_setRules 40 = .ok (.iconst 0, 1) := by decide +kernel
theorem dX7_setRules_41 : decode cX7_setRules 41 = .ok (.ireturn, 1) := by decide +kernel
theorem dX7_setRules_42 : decode cX7_setRules 42 = .ok (.aload_n 0, 1) := by decide +kernel
theorem dX7_setRules_43 : decode cX7_setRules 43 = .ok (.invokevirtual 56, 3) := by decide +kernel
theorem dX7_setRules_46 : decode cX7_setRules 46 = .ok (.aload_n 0, 1) := by decide +kernel
theorem dX7_setRules_47 : decode cX7_setRules 47 = .ok (.getfield 7, 3) := by decide +kernel
theorem dX7_setRules_50 : decode cX7_setRules 50 = .ok (.iconst 4, 1) := by decide +kernel
theorem dX7_setRules_51 : decode cX7_setRules 51 = .ok (.iaload, 1) := by decide +kernel
theorem dX7_setRules_52 : decode cX7_setRules 52 = .ok (.istore 4, 2) := by decide +kernel
theorem dX7_setRules_54 : decode cX7_setRules 54 = .ok (.aload_n 0, 1) := by decide +kernel
theorem dX7_setRules_55 : decode cX7_setRules 55 = .ok (.getfield 7, 3) := by decide +kernel
theorem dX7_setRules_58 : decode cX7_setRules 58 = .ok (.iconst 4, 1) := by decide +kernel
theorem dX7_setRules_59 : decode cX7_setRules 59 = .ok (.iload_n 1, 1) := by decide +kernel
theorem dX7_setRules_60 : decode cX7_setRules 60 = .ok (.iastore, 1) := by decide +kernel
theorem dX7_setRules_61 : decode cX7_setRules 61 = .ok (.aload_n 0, 1) := by decide +kernel
theorem dX7_setRules_62 : decode cX7_setRules 62 = .ok (.getfield 7, 3) := by decide +kernel
theorem dX7_setRules_65 : decode cX7_setRules 65 = .ok (.iconst 5, 1) := by decide +kernel
theorem dX7_setRules_66 : decode cX7_setRules 66 = .ok (.iload_n 2, 1) := by decide +kernel
theorem dX7_setRules_67 : decode cX7_setRules 67 = .ok (.iastore, 1) := by decide +kernel
theorem dX7_setRules_68 : decode cX7_setRules 68 = .ok (.aload_n 0, 1) := by decide +kernel
theorem dX7_setRules_69 : decode cX7_setRules 69 = .ok (.getfield 7, 3) := by decide +kernel
theorem dX7_setRules_72 : decode cX7_setRules 72 = .ok (.bipush 6, 2) := by decide +kernel
theorem dX7_setRules_74 : decode cX7_setRules 74 = .ok (.iload_n 3, 1) := by decide +kernel
theorem dX7_setRules_75 : decode cX7_setRules 75 = .ok (.iastore, 1) := by decide +kernel
theorem dX7_setRules_76 : decode cX7_setRules 76 = .ok (.iload 4, 2) := by decide +kernel
theorem dX7_setRules_78 : decode cX7_setRules 78 = .ok (.ireturn, 1) := by decide +kernel
set_option maxRecDepth 20000 in
theorem ggX7_setSight_X7_in : GoodIn wsX7_setSight wsX7_in := goodIn_r _ [5] (by decide +kernel) (by decide +kernel)
set_option maxRecDepth 20000 in
theorem gX7_setSight_X7_in : GoodIn wsX7_setSight (va_wsS RX7 48 yX7_in wsX7_in) := goodIn_app (goodIn_of _ (by decide +kernel)) ggX7_setSight_X7_in
set_option maxRecDepth 20000 in
theorem ggX7_setSight_X7_refuses : GoodIn wsX7_setSight wsX7_refuses := goodIn_r _ [9, 10, 17, 18, 19, 20, 21, 22, 23, 24, 25, 26, 27, 28] (by decide +kernel) (by decide +kernel)
set_option maxRecDepth 20000 in
theorem gX7_setSight_X7_refuses : GoodIn wsX7_setSight (wsV RX7 52 RX7 yX7_refuses wsX7_refuses) := goodIn_app (goodIn_of _ (by decide +kernel)) ggX7_setSight_X7_refuses
set_option maxRecDepth 20000 in
theorem ggX7_setSight_X7_keep : GoodIn wsX7_setSight wsX7_keep := goodIn_r _ [14, 15, 16, 1, 17, 18, 19, 20, 21, 22, 23, 24, 25, 26, 27, 28] (by decide +kernel) (by decide +kernel)
set_option maxRecDepth 20000 in
theorem gX7_setSight_X7_keep : GoodIn wsX7_setSight (wsV RX7 56 RX7 yX7_keep wsX7_keep) := goodIn_app (goodIn_of _ (by decide +kernel)) ggX7_setSight_X7_keep
theorem dX7_setSight_0 : decode cX7_setSight 0 = .ok (.aload_n 0, 1) := by decide +kernel
theorem dX7_setSight_1 : decode cX7_setSight 1 = .ok (.iload_n 1, 1) := by decide +kernel
theorem dX7_setSight_2 : decode cX7_setSight 2 = .ok (.iconst 0, 1) := by decide +kernel
theorem dX7_setSight_3 : decode cX7_setSight 3 = .ok (.bipush 40, 2) := by decide +kernel
theorem dX7_setSight_5 : decode cX7_setSight 5 = .ok (.invokestatic 48, 3) := by decide +kernel
theorem dX7_setSight_8 : decode cX7_setSight 8 = .ok (.ifCond .eq 17, 3) := by decide +kernel
theorem dX7_setSight_11 : decode cX7_setSight 11 = .ok (.iload_n 2, 1) := by decide +kernel
theorem dX7_setSight_12 : decode cX7_setSight 12 = .ok (.iconst 0, 1) := by decide +kernel
theorem dX7_setSight_13 : decode cX7_setSight 13 = .ok (.bipush 20, 2) := by decide +kernel
theorem dX7_setSight_15 : decode cX7_setSight 15 = .ok (.invokestatic 48, 3) := by decide +kernel
theorem dX7_setSight_18 : decode cX7_setSight 18 = .ok (.ifCond .eq 7, 3) := by decide +kernel
theorem dX7_setSight_21 : decode cX7_setSight 21 = .ok (.iconst 1, 1) := by decide +kernel
theorem dX7_setSight_22 : decode cX7_setSight 22 = .ok (.goto 4, 3) := by decide +kernel
theorem dX7_setSight_25 : decode cX7_setSight 25 = .ok (.iconst 0, 1) := by decide +kernel
theorem dX7_setSight_26 : decode cX7_setSight 26 = .ok (.invokevirtual 52, 3) := by decide +kernel
theorem dX7_setSight_29 : decode cX7_setSight 29 = .ok (.ifCond .eq 5, 3) := by decide +kernel
theorem dX7_setSight_32 : decode cX7_setSight 32 = .ok (.iconst 0, 1) := by decide +kernel
theorem dX7_setSight_33 : decode cX7_setSight 33 = .ok (.ireturn, 1) := by decide +kernel
theorem dX7_setSight_34 : decode cX7_setSight 34 = .ok (.aload_n 0, 1) := by decide +kernel
theorem dX7_setSight_35 : decode cX7_setSight 35 = .ok (.invokevirtual 56, 3) := by decide +kernel
theorem dX7_setSight_38 : decode cX7_setSight 38 = .ok (.aload_n 0, 1) := by decide +kernel
theorem dX7_setSight_39 : decode cX7_setSight 39 = .ok (.getfield 7, 3) := by decide +kernel
theorem dX7_setSight_42 : decode cX7_setSight 42 = .ok (.bipush 7, 2) := by decide +kernel
theorem dX7_setSight_44 : decode cX7_setSight 44 = .ok (.iaload, 1) := by decide +kernel
theorem dX7_setSight_45 : decode cX7_setSight 45 = .ok (.istore_n 3, 1) := by decide +kernel
theorem dX7_setSight_46 : decode cX7_setSight 46 = .ok (.aload_n 0, 1) := by decide +kernel
theorem dX7_setSight_47 : decode cX7_setSight 47 = .ok (.getfield 7, 3) := by decide +kernel
theorem dX7_setSight_50 : decode cX7_setSight 50 = .ok (.bipush 7, 2) := by decide +kernel
theorem dX7_setSight_52 : decode cX7_setSight 52 = .ok (.iload_n 1, 1) := by decide +kernel
theorem dX7_setSight_53 : decode cX7_setSight 53 = .ok (.iastore, 1) := by decide +kernel
theorem dX7_setSight_54 : decode cX7_setSight 54 = .ok (.aload_n 0, 1) := by decide +kernel
theorem dX7_setSight_55 : decode cX7_setSight 55 = .ok (.getfield 7, 3) := by decide +kernel
theorem dX7_setSight_58 : decode cX7_setSight 58 = .ok (.bipush 8, 2) := by decide +kernel
theorem dX7_setSight_60 : decode cX7_setSight 60 = .ok (.iload_n 2, 1) := by decide +kernel
theorem dX7_setSight_61 : decode cX7_setSight 61 = .ok (.iastore, 1) := by decide +kernel
theorem dX7_setSight_62 : decode cX7_setSight 62 = .ok (.iload_n 3, 1) := by decide +kernel
theorem dX7_setSight_63 : decode cX7_setSight 63 = .ok (.ireturn, 1) := by decide +kernel
set_option maxRecDepth 20000 in
theorem ggX7_limit_X7_isCell : GoodIn wsX7_limit wsX7_isCell := goodIn_r _ [6, 1, 7, 8, 5, 9, 15, 16, 17, 18, 19, 20, 21, 22, 23, 24, 25, 26] (by decide +kernel) (by decide +kernel)
set_option maxRecDepth 20000 in
theorem gX7_limit_X7_isCell : GoodIn wsX7_limit (wsV RX7 59 RX7 yX7_isCell wsX7_isCell) := goodIn_app (goodIn_of _ (by decide +kernel)) ggX7_limit_X7_isCell
set_option maxRecDepth 20000 in
theorem ggX7_limit_X7_refuses : GoodIn wsX7_limit wsX7_refuses := goodIn_r _ [13, 14, 15, 16, 17, 18, 19, 20, 21, 22, 23, 24, 25, 26] (by decide +kernel) (by decide +kernel)
set_option maxRecDepth 20000 in
theorem gX7_limit_X7_refuses : GoodIn wsX7_limit (wsV RX7 52 RX7 yX7_refuses wsX7_refuses) := goodIn_app (goodIn_of _ (by decide +kernel)) ggX7_limit_X7_refuses
theorem dX7_limit_0 : decode cX7_limit 0 = .ok (.aload_n 0, 1) := by decide +kernel
theorem dX7_limit_1 : decode cX7_limit 1 = .ok (.aload_n 0, 1) := by decide +kernel
theorem dX7_limit_2 : decode cX7_limit 2 = .ok (.iload_n 1, 1) := by decide +kernel
theorem dX7_limit_3 : decode cX7_limit 3 = .ok (.invokevirtual 59, 3) := by decide +kernel
theorem dX7_limit_6 : decode cX7_limit 6 = .ok (.invokevirtual 52, 3) := by decide +kernel
theorem dX7_limit_9 : decode cX7_limit 9 = .ok (.ifCond .eq 7, 3) := by decide +kernel
theorem dX7_limit_12 : decode cX7_limit 12 = .ok (.iconst 0, 1) := by decide +kernel
theorem dX7_limit_13 : decode cX7_limit 13 = .ok (.goto 12, 3) := by decide +kernel
theorem dX7_limit_16 : decode cX7_limit 16 = .ok (.aload_n 0, 1) := by decide +kernel
theorem dX7_limit_17 : decode cX7_limit 17 = .ok (.getfield 7, 3) := by decide +kernel
theorem dX7_limit_20 : decode cX7_limit 20 = .ok (.bipush 9, 2) := by decide +kernel
theorem dX7_limit_22 : decode cX7_limit 22 = .ok (.iload_n 1, 1) := by decide +kernel
theorem dX7_limit_23 : decode cX7_limit 23 = .ok (.iadd, 1) := by decide +kernel
theorem dX7_limit_24 : decode cX7_limit 24 = .ok (.iaload, 1) := by decide +kernel
theorem dX7_limit_25 : decode cX7_limit 25 = .ok (.ireturn, 1) := by decide +kernel
set_option maxRecDepth 20000 in
theorem ggX7_gradient_X7_isCell : GoodIn wsX7_gradient wsX7_isCell := goodIn_r _ [6, 1, 7, 8, 5, 9, 15, 16, 17, 18, 19, 20, 21, 22, 23, 24, 25, 26] (by decide +kernel) (by decide +kernel)
set_option maxRecDepth 20000 in
theorem gX7_gradient_X7_isCell : GoodIn wsX7_gradient (wsV RX7 59 RX7 yX7_isCell wsX7_isCell) := goodIn_app (goodIn_of _ (by decide +kernel)) ggX7_gradient_X7_isCell
set_option maxRecDepth 20000 in
theorem ggX7_gradient_X7_refuses : GoodIn wsX7_gradient wsX7_refuses := goodIn_r _ [13, 14, 15, 16, 17, 18, 19, 20, 21, 22, 23, 24, 25, 26] (by decide +kernel) (by decide +kernel)
set_option maxRecDepth 20000 in
theorem gX7_gradient_X7_refuses : GoodIn wsX7_gradient (wsV RX7 52 RX7 yX7_refuses wsX7_refuses) := goodIn_app (goodIn_of _ (by decide +kernel)) ggX7_gradient_X7_refuses
theorem dX7_gradient_0 : decode cX7_gradient 0 = .ok (.aload_n 0, 1) := by decide +kernel
theorem dX7_gradient_1 : decode cX7_gradient 1 = .ok (.aload_n 0, 1) := by decide +kernel
theorem dX7_gradient_2 : decode cX7_gradient 2 = .ok (.iload_n 1, 1) := by decide +kernel
theorem dX7_gradient_3 : decode cX7_gradient 3 = .ok (.invokevirtual 59, 3) := by decide +kernel
theorem dX7_gradient_6 : decode cX7_gradient 6 = .ok (.invokevirtual 52, 3) := by decide +kernel
theorem dX7_gradient_9 : decode cX7_gradient 9 = .ok (.ifCond .eq 7, 3) := by decide +kernel
theorem dX7_gradient_12 : decode cX7_gradient 12 = .ok (.iconst 0, 1) := by decide +kernel
theorem dX7_gradient_13 : decode cX7_gradient 13 = .ok (.goto 13, 3) := by decide +kernel
theorem dX7_gradient_16 : decode cX7_gradient 16 = .ok (.aload_n 0, 1) := by decide +kernel
theorem dX7_gradient_17 : decode cX7_gradient 17 = .ok (.getfield 7, 3) := by decide +kernel
theorem dX7_gradient_20 : decode cX7_gradient 20 = .ok (.sipush 129, 3) := by decide +kernel
theorem dX7_gradient_23 : decode cX7_gradient 23 = .ok (.iload_n 1, 1) := by decide +kernel
theorem dX7_gradient_24 : decode cX7_gradient 24 = .ok (.iadd, 1) := by decide +kernel
theorem dX7_gradient_25 : decode cX7_gradient 25 = .ok (.iaload, 1) := by decide +kernel
theorem dX7_gradient_26 : decode cX7_gradient 26 = .ok (.ireturn, 1) := by decide +kernel
set_option maxRecDepth 20000 in
theorem ggX7_isBarred_X7_isPosition : GoodIn wsX7_isBarred wsX7_isPosition := goodIn_r _ [6, 1, 7, 8, 5, 9, 15, 16, 17, 18, 19, 20, 21, 22, 23, 24, 25, 26] (by decide +kernel) (by decide +kernel)
set_option maxRecDepth 20000 in
theorem gX7_isBarred_X7_isPosition : GoodIn wsX7_isBarred (wsV RX7 67 RX7 yX7_isPosition wsX7_isPosition) := goodIn_app (goodIn_of _ (by decide +kernel)) ggX7_isBarred_X7_isPosition
set_option maxRecDepth 20000 in
theorem ggX7_isBarred_X7_refuses : GoodIn wsX7_isBarred wsX7_refuses := goodIn_r _ [13, 14, 15, 16, 17, 18, 19, 20, 21, 22, 23, 24, 25, 26] (by decide +kernel) (by decide +kernel)
set_option maxRecDepth 20000 in
theorem gX7_isBarred_X7_refuses : GoodIn wsX7_isBarred (wsV RX7 52 RX7 yX7_refuses wsX7_refuses) := goodIn_app (goodIn_of _ (by decide +kernel)) ggX7_isBarred_X7_refuses
theorem dX7_isBarred_0 : decode cX7_isBarred 0 = .ok (.aload_n 0, 1) := by decide +kernel
theorem dX7_isBarred_1 : decode cX7_isBarred 1 = .ok (.aload_n 0, 1) := by decide +kernel
theorem dX7_isBarred_2 : decode cX7_isBarred 2 = .ok (.iload_n 1, 1) := by decide +kernel
theorem dX7_isBarred_3 : decode cX7_isBarred 3 = .ok (.invokevirtual 67, 3) := by decide +kernel
theorem dX7_isBarred_6 : decode cX7_isBarred 6 = .ok (.invokevirtual 52, 3) := by decide +kernel
theorem dX7_isBarred_9 : decode cX7_isBarred 9 = .ok (.ifCond .ne 21, 3) := by decide +kernel
theorem dX7_isBarred_12 : decode cX7_isBarred 12 = .ok (.aload_n 0, 1) := by decide +kernel
theorem dX7_isBarred_13 : decode cX7_isBarred 13 = .ok (.getfield 7, 3) := by decide +kernel
theorem dX7_isBarred_16 : decode cX7_isBarred 16 = .ok (.sipush 249, 3) := by decide +kernel
theorem dX7_isBarred_19 : decode cX7_isBarred 19 = .ok (.iload_n 1, 1) := by decide +kernel
theorem dX7_isBarred_20 : decode cX7_isBarred 20 = .ok (.iadd, 1) := by decide +kernel
theorem dX7_isBarred_21 : decode cX7_isBarred 21 = .ok (.iaload, 1) := by decide +kernel
theorem dX7_isBarred_22 : decode cX7_isBarred 22 = .ok (.iconst 1, 1) := by decide +kernel
theorem dX7_isBarred_23 : decode cX7_isBarred 23 = .ok (.if_icmp .ne 7, 3) := by decide +kernel
theorem dX7_isBarred_26 : decode cX7_isBarred 26 = .ok (.iconst 1, 1) := by decide +kernel
theorem dX7_isBarred_27 : decode cX7_isBarred 27 = .ok (.goto 4, 3) := by decide +kernel
theorem dX7_isBarred_30 : decode cX7_isBarred 30 = .ok (.iconst 0, 1) := by decide +kernel
theorem dX7_isBarred_31 : decode cX7_isBarred 31 = .ok (.ireturn, 1) := by decide +kernel
theorem dX7_lost_0 : decode cX7_lost 0 = .ok (.iload_n 1, 1) := by decide +kernel
theorem dX7_lost_1 : decode cX7_lost 1 = .ok (.aload_n 0, 1) := by decide +kernel
theorem dX7_lost_2 : decode cX7_lost 2 = .ok (.getfield 7, 3) := by decide +kernel
theorem dX7_lost_5 : decode cX7_lost 5 = .ok (.iconst 0, 1) := by decide +kernel
theorem dX7_lost_6 : decode cX7_lost 6 = .ok (.iaload, 1) := by decide +kernel
theorem dX7_lost_7 : decode cX7_lost 7 = .ok (.if_icmp .ge 7, 3) := by decide +kernel
theorem dX7_lost_10 : decode cX7_lost 10 = .ok (.iload_n 1, 1) := by decide +kernel
theorem dX7_lost_11 : decode cX7_lost 11 = .ok (.goto 11, 3) := by decide +kernel
theorem dX7_lost_14 : decode cX7_lost 14 = .ok (.aload_n 0, 1) := by decide +kernel
theorem dX7_lost_15 : decode cX7_lost 15 = .ok (.getfield 7, 3) := by decide +kernel
theorem dX7_lost_18 : decode cX7_lost 18 = .ok (.iconst 0, 1) := by decide +kernel
theorem dX7_lost_19 : decode cX7_lost 19 = .ok (.iaload, 1) := by decide +kernel
theorem dX7_lost_20 : decode cX7_lost 20 = .ok (.iconst 1, 1) := by decide +kernel
theorem dX7_lost_21 : decode cX7_lost 21 = .ok (.isub, 1) := by decide +kernel
theorem dX7_lost_22 : decode cX7_lost 22 = .ok (.istore_n 2, 1) := by decide +kernel
theorem dX7_lost_23 : decode cX7_lost 23 = .ok (.ldc2_w 70, 3) := by decide +kernel
theorem dX7_lost_26 : decode cX7_lost 26 = .ok (.bipush 10, 2) := by decide +kernel
theorem dX7_lost_28 : decode cX7_lost 28 = .ok (.aload_n 0, 1) := by decide +kernel
theorem dX7_lost_29 : decode cX7_lost 29 = .ok (.getfield 7, 3) := by decide +kernel
theorem dX7_lost_32 : decode cX7_lost 32 = .ok (.iconst 1, 1) := by decide +kernel
theorem dX7_lost_33 : decode cX7_lost 33 = .ok (.iaload, 1) := by decide +kernel
theorem dX7_lost_34 : decode cX7_lost 34 = .ok (.imul, 1) := by decide +kernel
theorem dX7_lost_35 : decode cX7_lost 35 = .ok (.bipush 10, 2) := by decide +kernel
theorem dX7_lost_37 : decode cX7_lost 37 = .ok (.aload_n 0, 1) := by decide +kernel
theorem dX7_lost_38 : decode cX7_lost 38 = .ok (.getfield 7, 3) := by decide +kernel
theorem dX7_lost_41 : decode cX7_lost 41 = .ok (.sipush 129, 3) := by decide +kernel
theorem dX7_lost_44 : decode cX7_lost 44 = .ok (.iload_n 2, 1) := by decide +kernel
theorem dX7_lost_45 : decode cX7_lost 45 = .ok (.iadd, 1) := by decide +kernel
theorem dX7_lost_46 : decode cX7_lost 46 = .ok (.iaload, 1) := by decide +kernel
theorem dX7_lost_47 : decode cX7_lost 47 = .ok (.imul, 1) := by decide +kernel
theorem dX7_lost_48 : decode cX7_lost 48 = .ok (.iadd, 1) := by decide +kernel
theorem dX7_lost_49 : decode cX7_lost 49 = .ok (.i2l, 1) := by decide +kernel
theorem dX7_lost_50 : decode cX7_lost 50 = .ok (.lmul, 1) := by decide +kernel
theorem dX7_lost_51 : decode cX7_lost 51 = .ok (.lreturn, 1) := by decide +kernel
theorem dX7_most_0 : decode cX7_most 0 = .ok (.ldc2_w 72, 3) := by decide +kernel
theorem dX7_most_3 : decode cX7_most 3 = .ok (.aload_n 0, 1) := by decide +kernel
theorem dX7_most_4 : decode cX7_most 4 = .ok (.getfield 7, 3) := by decide +kernel
theorem dX7_most_7 : decode cX7_most 7 = .ok (.bipush 9, 2) := by decide +kernel
theorem dX7_most_9 : decode cX7_most 9 = .ok (.iload_n 1, 1) := by decide +kernel
theorem dX7_most_10 : decode cX7_most 10 = .ok (.iadd, 1) := by decide +kernel
theorem dX7_most_11 : decode cX7_most 11 = .ok (.iaload, 1) := by decide +kernel
theorem dX7_most_12 : decode cX7_most 12 = .ok (.i2l, 1) := by decide +kernel
theorem dX7_most_13 : decode cX7_most 13 = .ok (.lmul, 1) := by decide +kernel
theorem dX7_most_14 : decode cX7_most 14 = .ok (.aload_n 0, 1) := by decide +kernel
theorem dX7_most_15 : decode cX7_most 15 = .ok (.getfield 7, 3) := by decide +kernel
theorem dX7_most_18 : decode cX7_most 18 = .ok (.bipush 9, 2) := by decide +kernel
theorem dX7_most_20 : decode cX7_most 20 = .ok (.iload_n 1, 1) := by decide +kernel
theorem dX7_most_21 : decode cX7_most 21 = .ok (.iadd, 1) := by decide +kernel
theorem dX7_most_22 : decode cX7_most 22 = .ok (.iaload, 1) := by decide +kernel
theorem dX7_most_23 : decode cX7_most 23 = .ok (.i2l, 1) := by decide +kernel
theorem dX7_most_24 : decode cX7_most 24 = .ok (.lmul, 1) := by decide +kernel
theorem dX7_most_25 : decode cX7_most 25 = .ok (.lreturn, 1) := by decide +kernel
theorem dX7_speedFor_0 : decode cX7_speedFor 0 = .ok (.iconst 0, 1) := by decide +kernel
theorem dX7_speedFor_1 : decode cX7_speedFor 1 = .ok (.istore_n 2, 1) := by decide +kernel
theorem dX7_speedFor_2 : decode cX7_speedFor 2 = .ok (.sipush 200, 3) := by decide +kernel
theorem dX7_speedFor_5 : decode cX7_speedFor 5 = .ok (.istore_n 3, 1) := by decide +kernel
theorem dX7_speedFor_6 : decode cX7_speedFor 6 = .ok (.iload_n 2, 1) := by decide +kernel
theorem dX7_speedFor_7 : decode cX7_speedFor 7 = .ok (.iload_n 3, 1) := by decide +kernel
theorem dX7_speedFor_8 : decode cX7_speedFor 8 = .ok (.if_icmp .ge 42, 3) := by decide +kernel
theorem dX7_speedFor_11 : decode cX7_speedFor 11 = .ok (.iload_n 2, 1) := by decide +kernel
theorem dX7_speedFor_12 : decode cX7_speedFor 12 = .ok (.iload_n 3, 1) := by decide +kernel
theorem dX7_speedFor_13 : decode cX7_speedFor 13 = .ok (.iadd, 1) := by decide +kernel
theorem dX7_speedFor_14 : decode cX7_speedFor 14 = .ok (.iconst 1, 1) := by decide +kernel
theorem dX7_speedFor_15 : decode cX7_speedFor 15 = .ok (.iadd, 1) := by decide +kernel
theorem dX7_speedFor_16 : decode cX7_speedFor 16 = .ok (.iconst 2, 1) := by decide +kernel
theorem dX7_speedFor_17 : decode cX7_speedFor 17 = .ok (.idiv, 1) := by decide +kernel
theorem dX7_speedFor_18 : decode cX7_speedFor 18 = .ok (.istore 4, 2) := by decide +kernel
theorem dX7_speedFor_20 : decode cX7_speedFor 20 = .ok (.ldc2_w 72, 3) := by decide +kernel
theorem dX7_speedFor_23 : decode cX7_speedFor 23 = .ok (.iload 4, 2) := by decide +kernel
theorem dX7_speedFor_25 : decode cX7_speedFor 25 = .ok (.i2l, 1) := by decide +kernel
theorem dX7_speedFor_26 : decode cX7_speedFor 26 = .ok (.lmul, 1) := by decide +kernel
theorem dX7_speedFor_27 : decode cX7_speedFor 27 = .ok (.iload 4, 2) := by decide +kernel
theorem dX7_speedFor_29 : decode cX7_speedFor 29 = .ok (.i2l, 1) := by decide +kernel
theorem dX7_speedFor_30 : decode cX7_speedFor 30 = .ok (.lmul, 1) := by decide +kernel
theorem dX7_speedFor_31 : decode cX7_speedFor 31 = .ok (.lload_n 0, 1) := by decide +kernel
theorem dX7_speedFor_32 : decode cX7_speedFor 32 = .ok (.lcmp, 1) := by decide +kernel
theorem dX7_speedFor_33 : decode cX7_speedFor 33 = .ok (.ifCond .gt 9, 3) := by decide +kernel
theorem dX7_speedFor_36 : decode cX7_speedFor 36 = .ok (.iload 4, 2) := by decide +kernel
theorem dX7_speedFor_38 : decode cX7_speedFor 38 = .ok (.istore_n 2, 1) := by decide +kernel
theorem dX7_speedFor_39 : decode cX7_speedFor 39 = .ok (.goto 8, 3) := by decide +kernel
theorem dX7_speedFor_42 : decode cX7_speedFor 42 = .ok (.iload 4, 2) := by decide +kernel
theorem dX7_speedFor_44 : decode cX7_speedFor 44 = .ok (.iconst 1, 1) := by decide +kernel
theorem dX7_speedFor_45 : decode cX7_speedFor 45 = .ok (.isub, 1) := by decide +kernel
theorem dX7_speedFor_46 : decode cX7_speedFor 46 = .ok (.istore_n 3, 1) := by decide +kernel
theorem dX7_speedFor_47 : decode cX7_speedFor 47 = .ok (.goto (-41), 3) := by decide +kernel
theorem dX7_speedFor_50 : decode cX7_speedFor 50 = .ok (.iload_n 2, 1) := by decide +kernel
theorem dX7_speedFor_51 : decode cX7_speedFor 51 = .ok (.ireturn, 1) := by decide +kernel
set_option maxRecDepth 20000 in
theorem ggX7_distanceAt_X7_lost : GoodIn wsX7_distanceAt wsX7_lost := goodIn_r _ [8, 2, 9, 10, 11, 12, 13, 14, 15, 16, 17, 18, 19, 20, 21] (by decide +kernel) (by decide +kernel)
set_option maxRecDepth 20000 in
theorem gX7_distanceAt_X7_lost : GoodIn wsX7_distanceAt (wsV RX7 74 RX7 yX7_lost wsX7_lost) := goodIn_app (goodIn_of _ (by decide +kernel)) ggX7_distanceAt_X7_lost
theorem dX7_distanceAt_0 : decode cX7_distanceAt 0 = .ok (.aload_n 0, 1) := by decide +kernel
theorem dX7_distanceAt_1 : decode cX7_distanceAt 1 = .ok (.getfield 20, 3) := by decide +kernel
theorem dX7_distanceAt_4 : decode cX7_distanceAt 4 = .ok (.iload_n 1, 1) := by decide +kernel
theorem dX7_distanceAt_5 : decode cX7_distanceAt 5 = .ok (.iaload, 1) := by decide +kernel
theorem dX7_distanceAt_6 : decode cX7_distanceAt 6 = .ok (.aload_n 0, 1) := by decide +kernel
theorem dX7_distanceAt_7 : decode cX7_distanceAt 7 = .ok (.getfield 7, 3) := by decide +kernel
theorem dX7_distanceAt_10 : decode cX7_distanceAt 10 = .ok (.iconst 2, 1) := by decide +kernel
theorem dX7_distanceAt_11 : decode cX7_distanceAt 11 = .ok (.iaload, 1) := by decide +kernel
theorem dX7_distanceAt_12 : decode cX7_distanceAt 12 = .ok (.imul, 1) := by decide +kernel
theorem dX7_distanceAt_13 : decode cX7_distanceAt 13 = .ok (.sipush 1799, 3) := by decide +kernel
theorem dX7_distanceAt_16 : decode cX7_distanceAt 16 = .ok (.iadd, 1) := by decide +kernel
theorem dX7_distanceAt_17 : decode cX7_distanceAt 17 = .ok (.sipush 1800, 3) := by decide +kernel
theorem dX7_distanceAt_20 : decode cX7_distanceAt 20 = .ok (.idiv, 1) := by decide +kernel
theorem dX7_distanceAt_21 : decode cX7_distanceAt 21 = .ok (.istore_n 2, 1) := by decide +kernel
theorem dX7_distanceAt_22 : decode cX7_distanceAt 22 = .ok (.iconst 0, 1) := by decide +kernel
theorem dX7_distanceAt_23 : decode cX7_distanceAt 23 = .ok (.istore_n 3, 1) := by decide +kernel
theorem dX7_distanceAt_24 : decode cX7_distanceAt 24 = .ok (.aload_n 0, 1) := by decide +kernel
theorem dX7_distanceAt_25 : decode cX7_distanceAt 25 = .ok (.getfield 16, 3) := by decide +kernel
theorem dX7_distanceAt_28 : decode cX7_distanceAt 28 = .ok (.iload_n 1, 1) := by decide +kernel
theorem dX7_distanceAt_29 : decode cX7_distanceAt 29 = .ok (.laload, 1) := by decide +kernel
theorem dX7_distanceAt_30 : decode cX7_distanceAt 30 = .ok (.lstore 4, 2) := by decide +kernel
theorem dX7_distanceAt_32 : decode cX7_distanceAt 32 = .ok (.lload 4, 2) := by decide +kernel
theorem dX7_distanceAt_34 : decode cX7_distanceAt 34 = .ok (.lconst 0, 1) := by decide +kernel
theorem dX7_distanceAt_35 : decode cX7_distanceAt 35 = .ok (.lcmp, 1) := by decide +kernel
theorem dX7_distanceAt_36 : decode cX7_distanceAt 36 = .ok (.ifCond .le 23, 3) := by decide +kernel
theorem dX7_distanceAt_39 : decode cX7_distanceAt 39 = .ok (.lload 4, 2) := by decide +kernel
theorem dX7_distanceAt_41 : decode cX7_distanceAt 41 = .ok (.aload_n 0, 1) := by decide +kernel
theorem dX7_distanceAt_42 : decode cX7_distanceAt 42 = .ok (.iload_n 1, 1) := by decide +kernel
theorem dX7_distanceAt_43 : decode cX7_distanceAt 43 = .ok (.iload_n 2, 1) := by decide +kernel
theorem dX7_distanceAt_44 : decode cX7_distanceAt 44 = .ok (.iadd, 1) := by decide +kernel
theorem dX7_distanceAt_45 : decode cX7_distanceAt 45 = .ok (.iload_n 3, 1) := by decide +kernel
theorem dX7_distanceAt_46 : decode cX7_distanceAt 46 = .ok (.iadd, 1) := by decide +kernel
theorem dX7_distanceAt_47 : decode cX7_distanceAt 47 = .ok (.invokevirtual 74, 3) := by decide +kernel
theorem dX7_distanceAt_50 : decode cX7_distanceAt 50 = .ok (.lsub, 1) := by decide +kernel
theorem dX7_distanceAt_51 : decode cX7_distanceAt 51 = .ok (.lstore 4, 2) := by decide +kernel
theorem dX7_distanceAt_53 : decode cX7_distanceAt 53 = .ok (.iinc 3 1, 3) := by decide +kernel
theorem dX7_distanceAt_56 : decode cX7_distanceAt 56 = .ok (.goto (-24), 3) := by decide +kernel
theorem dX7_distanceAt_59 : decode cX7_distanceAt 59 = .ok (.iload_n 2, 1) := by decide +kernel
theorem dX7_distanceAt_60 : decode cX7_distanceAt 60 = .ok (.iload_n 3, 1) := by decide +kernel
theorem dX7_distanceAt_61 : decode cX7_distanceAt 61 = .ok (.iadd, 1) := by decide +kernel
theorem dX7_distanceAt_62 : decode cX7_distanceAt 62 = .ok (.ireturn, 1) := by decide +kernel
