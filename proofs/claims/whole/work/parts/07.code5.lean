set_option maxRecDepth 20000 in
theorem ggX7_blockTime_X7_layRow : GoodIn wsX7_blockTime wsX7_layRow := goodIn_r _ [5, 6, 7, 46, 47, 48, 49, 50, 51, 52, 53, 54, 55, 56, 57] (by decide +kernel) (by decide +kernel)
set_option maxRecDepth 20000 in
theorem gX7_blockTime_X7_layRow : GoodIn wsX7_blockTime (wsV RX7 93 RX7 yX7_layRow wsX7_layRow) := goodIn_app (goodIn_of _ (by decide +kernel)) ggX7_blockTime_X7_layRow
set_option maxRecDepth 20000 in
theorem ggX7_blockTime_X7_in : GoodIn wsX7_blockTime wsX7_in := goodIn_r _ [10] (by decide +kernel) (by decide +kernel)
set_option maxRecDepth 20000 in
theorem gX7_blockTime_X7_in : GoodIn wsX7_blockTime (va_wsS RX7 48 yX7_in wsX7_in) := goodIn_app (goodIn_of _ (by decide +kernel)) ggX7_blockTime_X7_in
set_option maxRecDepth 20000 in
theorem ggX7_blockTime_X7_refuses : GoodIn wsX7_blockTime wsX7_refuses := goodIn_r _ [14, 15, 46, 47, 48, 49, 50, 51, 52, 53, 54, 55, 56, 57] (by decide +kernel) (by decide +kernel)
set_option maxRecDepth 20000 in
theorem gX7_blockTime_X7_refuses : GoodIn wsX7_blockTime (wsV RX7 52 RX7 yX7_refuses wsX7_refuses) := goodIn_app (goodIn_of _ (by decide +kernel)) ggX7_blockTime_X7_refuses
set_option maxRecDepth 20000 in
theorem ggX7_blockTime_X7_lays : GoodIn wsX7_blockTime wsX7_lays := goodIn_r _ [19, 6, 20, 21, 22, 23, 24, 25, 26, 27, 4, 28, 29, 30, 31, 32, 33, 34, 35, 36, 37, 38, 39, 40, 41, 46, 47, 48, 49, 50, 51, 52, 53, 54, 55, 56, 57] (by decide +kernel) (by decide +kernel)
set_option maxRecDepth 20000 in
theorem gX7_blockTime_X7_lays : GoodIn wsX7_blockTime (wsV RX7 90 RX7 yX7_lays wsX7_lays) := goodIn_app (goodIn_of _ (by decide +kernel)) ggX7_blockTime_X7_lays
set_option maxRecDepth 20000 in
theorem ggX7_blockTime_X7_blockOf : GoodIn wsX7_blockTime wsX7_blockOf := goodIn_r _ [45, 6, 7, 23, 46, 47, 48, 49, 50, 51, 52, 53, 54, 55, 56, 57] (by decide +kernel) (by decide +kernel)
set_option maxRecDepth 20000 in
theorem gX7_blockTime_X7_blockOf : GoodIn wsX7_blockTime (wsV RX7 130 RX7 yX7_blockOf wsX7_blockOf) := goodIn_app (goodIn_of _ (by decide +kernel)) ggX7_blockTime_X7_blockOf
theorem dX7_blockTime_0 : decode cX7_blockTime 0 = .ok (.aload_n 0, 1) := by decide +kernel
theorem dX7_blockTime_1 : decode cX7_blockTime 1 = .ok (.invokevirtual 93, 3) := by decide +kernel
theorem dX7_blockTime_4 : decode cX7_blockTime 4 = .ok (.istore_n 2, 1) := by decide +kernel
theorem dX7_blockTime_5 : decode cX7_blockTime 5 = .ok (.aload_n 0, 1) := by decide +kernel
theorem dX7_blockTime_6 : decode cX7_blockTime 6 = .ok (.iload_n 1, 1) := by decide +kernel
theorem dX7_blockTime_7 : decode cX7_blockTime 7 = .ok (.iconst 0, 1) := by decide +kernel
theorem dX7_blockTime_8 : decode cX7_blockTime 8 = .ok (.iload_n 2, 1) := by decide +kernel
theorem dX7_blockTime_9 : decode cX7_blockTime 9 = .ok (.iconst 1, 1) := by decide +kernel
theorem dX7_blockTime_10 : decode cX7_blockTime 10 = .ok (.isub, 1) := by decide +kernel
theorem dX7_blockTime_11 : decode cX7_blockTime 11 = .ok (.invokestatic 48, 3) := by decide +kernel
theorem dX7_blockTime_14 : decode cX7_blockTime 14 = .ok (.invokevirtual 52, 3) := by decide +kernel
theorem dX7_blockTime_17 : decode cX7_blockTime 17 = .ok (.ifCond .eq 5, 3) := by decide +kernel
theorem dX7_blockTime_20 : decode cX7_blockTime 20 = .ok (.iconst 0, 1) := by decide +kernel
theorem dX7_blockTime_21 : decode cX7_blockTime 21 = .ok (.ireturn, 1) := by decide +kernel
theorem dX7_blockTime_22 : decode cX7_blockTime 22 = .ok (.aload_n 0, 1) := by decide +kernel
theorem dX7_blockTime_23 : decode cX7_blockTime 23 = .ok (.invokevirtual 90, 3) := by decide +kernel
theorem dX7_blockTime_26 : decode cX7_blockTime 26 = .ok (.aload_n 0, 1) := by decide +kernel
theorem dX7_blockTime_27 : decode cX7_blockTime 27 = .ok (.iload_n 1, 1) := by decide +kernel
theorem dX7_blockTime_28 : decode cX7_blockTime 28 = .ok (.iload_n 2, 1) := by decide +kernel
theorem dX7_blockTime_29 : decode cX7_blockTime 29 = .ok (.invokevirtual 130, 3) := by decide +kernel
theorem dX7_blockTime_32 : decode cX7_blockTime 32 = .ok (.ireturn, 1) := by decide +kernel
set_option maxRecDepth 20000 in
theorem ggX7_headwayNow_X7_lays : GoodIn wsX7_headwayNow wsX7_lays := goodIn_r _ [5, 6, 7, 8, 9, 10, 11, 12, 13, 14, 4, 15, 16, 17, 18, 19, 20, 21, 22, 23, 24, 25, 26, 27, 28, 38, 39, 40, 41, 42, 43, 44, 45, 46, 47, 48, 49] (by decide +kernel) (by decide +kernel)
set_option maxRecDepth 20000 in
theorem gX7_headwayNow_X7_lays : GoodIn wsX7_headwayNow (wsV RX7 90 RX7 yX7_lays wsX7_lays) := goodIn_app (goodIn_of _ (by decide +kernel)) ggX7_headwayNow_X7_lays
set_option maxRecDepth 20000 in
theorem ggX7_headwayNow_X7_layRow : GoodIn wsX7_headwayNow wsX7_layRow := goodIn_r _ [32, 6, 33, 38, 39, 40, 41, 42, 43, 44, 45, 46, 47, 48, 49] (by decide +kernel) (by decide +kernel)
set_option maxRecDepth 20000 in
theorem gX7_headwayNow_X7_layRow : GoodIn wsX7_headwayNow (wsV RX7 93 RX7 yX7_layRow wsX7_layRow) := goodIn_app (goodIn_of _ (by decide +kernel)) ggX7_headwayNow_X7_layRow
set_option maxRecDepth 20000 in
theorem ggX7_headwayNow_X7_blockOf : GoodIn wsX7_headwayNow wsX7_blockOf := goodIn_r _ [37, 6, 33, 10, 38, 39, 40, 41, 42, 43, 44, 45, 46, 47, 48, 49] (by decide +kernel) (by decide +kernel)
set_option maxRecDepth 20000 in
theorem gX7_headwayNow_X7_blockOf : GoodIn wsX7_headwayNow (wsV RX7 130 RX7 yX7_blockOf wsX7_blockOf) := goodIn_app (goodIn_of _ (by decide +kernel)) ggX7_headwayNow_X7_blockOf
theorem dX7_headwayNow_0 : decode cX7_headwayNow 0 = .ok (.aload_n 0, 1) := by decide +kernel
theorem dX7_headwayNow_1 : decode cX7_headwayNow 1 = .ok (.invokevirtual 90, 3) := by decide +kernel
theorem dX7_headwayNow_4 : decode cX7_headwayNow 4 = .ok (.aload_n 0, 1) := by decide +kernel
theorem dX7_headwayNow_5 : decode cX7_headwayNow 5 = .ok (.invokevirtual 93, 3) := by decide +kernel
theorem dX7_headwayNow_8 : decode cX7_headwayNow 8 = .ok (.istore_n 1, 1) := by decide +kernel
theorem dX7_headwayNow_9 : decode cX7_headwayNow 9 = .ok (.iconst (-1), 1) := by decide +kernel
theorem dX7_headwayNow_10 : decode cX7_headwayNow 10 = .ok (.istore_n 2, 1) := by decide +kernel
theorem dX7_headwayNow_11 : decode cX7_headwayNow 11 = .ok (.iconst 0, 1) := by decide +kernel
theorem dX7_headwayNow_12 : decode cX7_headwayNow 12 = .ok (.istore_n 3, 1) := by decide +kernel
theorem dX7_headwayNow_13 : decode cX7_headwayNow 13 = .ok (.iload_n 3, 1) := by decide +kernel
theorem dX7_headwayNow_14 : decode cX7_headwayNow 14 = .ok (.iload_n 1, 1) := by decide +kernel
theorem dX7_headwayNow_15 : decode cX7_headwayNow 15 = .ok (.if_icmp .ge 30, 3) := by decide +kernel
theorem dX7_headwayNow_18 : decode cX7_headwayNow 18 = .ok (.aload_n 0, 1) := by decide +kernel
theorem dX7_headwayNow_19 : decode cX7_headwayNow 19 = .ok (.iload_n 3, 1) := by decide +kernel
theorem dX7_headwayNow_20 : decode cX7_headwayNow 20 = .ok (.iload_n 1, 1) := by decide +kernel
theorem dX7_headwayNow_21 : decode cX7_headwayNow 21 = .ok (.invokevirtual 130, 3) := by decide +kernel
theorem dX7_headwayNow_24 : decode cX7_headwayNow 24 = .ok (.istore 4, 2) := by decide +kernel
theorem dX7_headwayNow_26 : decode cX7_headwayNow 26 = .ok (.iload 4, 2) := by decide +kernel
theorem dX7_headwayNow_28 : decode cX7_headwayNow 28 = .ok (.iload_n 2, 1) := by decide +kernel
theorem dX7_headwayNow_29 : decode cX7_headwayNow 29 = .ok (.if_icmp .le 8, 3) := by decide +kernel
theorem dX7_headwayNow_32 : decode cX7_headwayNow 32 = .ok (.iload 4, 2) := by decide +kernel
theorem dX7_headwayNow_34 : decode cX7_headwayNow 34 = .ok (.goto 4, 3) := by decide +kernel
theorem dX7_headwayNow_37 : decode cX7_headwayNow 37 = .ok (.iload_n 2, 1) := by decide +kernel
theorem dX7_headwayNow_38 : decode cX7_headwayNow 38 = .ok (.istore_n 2, 1) := by decide +kernel
theorem dX7_headwayNow_39 : decode cX7_headwayNow 39 = .ok (.iinc 3 1, 3) := by decide +kernel
theorem dX7_headwayNow_42 : decode cX7_headwayNow 42 = .ok (.goto (-29), 3) := by decide +kernel
theorem dX7_headwayNow_45 : decode cX7_headwayNow 45 = .ok (.iload_n 2, 1) := by decide +kernel
theorem dX7_headwayNow_46 : decode cX7_headwayNow 46 = .ok (.ireturn, 1) := by decide +kernel
set_option maxRecDepth 20000 in
theorem ggX7_headway_X7_headwayNow : GoodIn wsX7_headway wsX7_headwayNow := goodIn_r _ [6, 7, 8, 9, 5, 10, 11, 12, 13, 14, 15, 16, 17, 18, 19, 20, 21, 22, 23, 24, 25, 26, 27, 28, 29, 30, 31, 32, 33, 34, 35, 36, 37, 38, 39, 40, 41, 42, 43, 44, 45, 46, 47, 48, 49, 50, 51, 52, 53, 54] (by decide +kernel) (by decide +kernel)
set_option maxRecDepth 20000 in
theorem gX7_headway_X7_headwayNow : GoodIn wsX7_headway (wsV RX7 133 RX7 yX7_headwayNow wsX7_headwayNow) := goodIn_app (goodIn_of _ (by decide +kernel)) ggX7_headway_X7_headwayNow
theorem dX7_headway_0 : decode cX7_headway 0 = .ok (.aload_n 0, 1) := by decide +kernel
theorem dX7_headway_1 : decode cX7_headway 1 = .ok (.iconst 0, 1) := by decide +kernel
theorem dX7_headway_2 : decode cX7_headway 2 = .ok (.putfield 41, 3) := by decide +kernel
theorem dX7_headway_5 : decode cX7_headway 5 = .ok (.aload_n 0, 1) := by decide +kernel
theorem dX7_headway_6 : decode cX7_headway 6 = .ok (.invokevirtual 133, 3) := by decide +kernel
theorem dX7_headway_9 : decode cX7_headway 9 = .ok (.ireturn, 1) := by decide +kernel
set_option maxRecDepth 20000 in
theorem ggX7_capacity_X7_headwayNow : GoodIn wsX7_capacity wsX7_headwayNow := goodIn_r _ [6, 7, 8, 9, 5, 10, 11, 12, 13, 14, 15, 16, 17, 18, 19, 20, 21, 22, 23, 24, 25, 26, 27, 28, 29, 30, 31, 32, 33, 34, 35, 36, 37, 38, 39, 40, 41, 42, 48, 49, 50, 51, 52, 53, 54, 55, 56, 57, 58, 59] (by decide +kernel) (by decide +kernel)
set_option maxRecDepth 20000 in
theorem gX7_capacity_X7_headwayNow : GoodIn wsX7_capacity (wsV RX7 133 RX7 yX7_headwayNow wsX7_headwayNow) := goodIn_app (goodIn_of _ (by decide +kernel)) ggX7_capacity_X7_headwayNow
set_option maxRecDepth 20000 in
theorem ggX7_capacity_X7_refuses : GoodIn wsX7_capacity wsX7_refuses := goodIn_r _ [46, 47, 48, 49, 50, 51, 52, 53, 54, 55, 56, 57, 58, 59] (by decide +kernel) (by decide +kernel)
set_option maxRecDepth 20000 in
theorem gX7_capacity_X7_refuses : GoodIn wsX7_capacity (wsV RX7 52 RX7 yX7_refuses wsX7_refuses) := goodIn_app (goodIn_of _ (by decide +kernel)) ggX7_capacity_X7_refuses
theorem dX7_capacity_0 : decode cX7_capacity 0 = .ok (.aload_n 0, 1) := by decide +kernel
theorem dX7_capacity_1 : decode cX7_capacity 1 = .ok (.invokevirtual 133, 3) := by decide +kernel
theorem dX7_capacity_4 : decode cX7_capacity 4 = .ok (.istore_n 1, 1) := by decide +kernel
theorem dX7_capacity_5 : decode cX7_capacity 5 = .ok (.aload_n 0, 1) := by decide +kernel
theorem dX7_capacity_6 : decode cX7_capacity 6 = .ok (.iload_n 1, 1) := by decide +kernel
theorem dX7_capacity_7 : decode cX7_capacity 7 = .ok (.iconst (-1), 1) := by decide +kernel
theorem dX7_capacity_8 : decode cX7_capacity 8 = .ok (.if_icmp .eq 7, 3) := by decide +kernel
theorem dX7_capacity_11 : decode cX7_capacity 11 = .ok (.iconst 1, 1) := by decide +kernel
theorem dX7_capacity_12 : decode cX7_capacity 12 = .ok (.goto 4, 3) := by decide +kernel
theorem dX7_capacity_15 : decode cX7_capacity 15 = .ok (.iconst 0, 1) := by decide +kernel
theorem dX7_capacity_16 : decode cX7_capacity 16 = .ok (.invokevirtual 52, 3) := by decide +kernel
theorem dX7_capacity_19 : decode cX7_capacity 19 = .ok (.ifCond .eq 7, 3) := by decide +kernel
theorem dX7_capacity_22 : decode cX7_capacity 22 = .ok (.iconst 0, 1) := by decide +kernel
theorem dX7_capacity_23 : decode cX7_capacity 23 = .ok (.goto 7, 3) := by decide +kernel
theorem dX7_capacity_26 : decode cX7_capacity 26 = .ok (.ldc 136, 2) := by decide +kernel
theorem dX7_capacity_28 : decode cX7_capacity 28 = .ok (.iload_n 1, 1) := by decide +kernel
theorem dX7_capacity_29 : decode cX7_capacity 29 = .ok (.idiv, 1) := by decide +kernel
theorem dX7_capacity_30 : decode cX7_capacity 30 = .ok (.ireturn, 1) := by decide +kernel
set_option maxRecDepth 20000 in
theorem ggX7_undo_X7_refuses : GoodIn wsX7_undo wsX7_refuses := goodIn_r _ [8, 9, 10, 11, 12, 13, 14, 15, 16, 17, 18, 19, 20, 21] (by decide +kernel) (by decide +kernel)
set_option maxRecDepth 20000 in
theorem gX7_undo_X7_refuses : GoodIn wsX7_undo (wsV RX7 52 RX7 yX7_refuses wsX7_refuses) := goodIn_app (goodIn_of _ (by decide +kernel)) ggX7_undo_X7_refuses
theorem dX7_undo_0 : decode cX7_undo 0 = .ok (.aload_n 0, 1) := by decide +kernel
theorem dX7_undo_1 : decode cX7_undo 1 = .ok (.aload_n 0, 1) := by decide +kernel
theorem dX7_undo_2 : decode cX7_undo 2 = .ok (.getfield 45, 3) := by decide +kernel
theorem dX7_undo_5 : decode cX7_undo 5 = .ok (.ifCond .le 7, 3) := by decide +kernel
theorem dX7_undo_8 : decode cX7_undo 8 = .ok (.iconst 1, 1) := by decide +kernel
theorem dX7_undo_9 : decode cX7_undo 9 = .ok (.goto 4, 3) := by decide +kernel
theorem dX7_undo_12 : decode cX7_undo 12 = .ok (.iconst 0, 1) := by decide +kernel
theorem dX7_undo_13 : decode cX7_undo 13 = .ok (.invokevirtual 52, 3) := by decide +kernel
theorem dX7_undo_16 : decode cX7_undo 16 = .ok (.ifCond .eq 5, 3) := by decide +kernel
theorem dX7_undo_19 : decode cX7_undo 19 = .ok (.iconst 0, 1) := by decide +kernel
theorem dX7_undo_20 : decode cX7_undo 20 = .ok (.ireturn, 1) := by decide +kernel
theorem dX7_undo_21 : decode cX7_undo 21 = .ok (.aload_n 0, 1) := by decide +kernel
theorem dX7_undo_22 : decode cX7_undo 22 = .ok (.dup, 1) := by decide +kernel
theorem dX7_undo_23 : decode cX7_undo 23 = .ok (.getfield 45, 3) := by decide +kernel
theorem dX7_undo_26 : decode cX7_undo 26 = .ok (.iconst 1, 1) := by decide +kernel
theorem dX7_undo_27 : decode cX7_undo 27 = .ok (.isub, 1) := by decide +kernel
theorem dX7_undo_28 : decode cX7_undo 28 = .ok (.putfield 45, 3) := by decide +kernel
theorem dX7_undo_31 : decode cX7_undo 31 = .ok (.iconst 0, 1) := by decide +kernel
theorem dX7_undo_32 : decode cX7_undo 32 = .ok (.istore_n 1, 1) := by decide +kernel
theorem dX7_undo_33 : decode cX7_undo 33 = .ok (.iload_n 1, 1) := by decide +kernel
theorem dX7_undo_34 : decode cX7_undo 34 = .ok (.sipush 612, 3) := by decide +kernel
theorem dX7_undo_37 : decode cX7_undo 37 = .ok (.if_icmp .ge 30, 3) := by decide +kernel
theorem dX7_undo_40 : decode cX7_undo 40 = .ok (.aload_n 0, 1) := by decide +kernel
theorem dX7_undo_41 : decode cX7_undo 41 = .ok (.getfield 7, 3) := by decide +kernel
theorem dX7_undo_44 : decode cX7_undo 44 = .ok (.iload_n 1, 1) := by decide +kernel
theorem dX7_undo_45 : decode cX7_undo 45 = .ok (.aload_n 0, 1) := by decide +kernel
theorem dX7_undo_46 : decode cX7_undo 46 = .ok (.getfield 13, 3) := by decide +kernel
theorem dX7_undo_49 : decode cX7_undo 49 = .ok (.sipush 612, 3) := by decide +kernel
theorem dX7_undo_52 : decode cX7_undo 52 = .ok (.aload_n 0, 1) := by decide +kernel
theorem dX7_undo_53 : decode cX7_undo 53 = .ok (.getfield 45, 3) := by decide +kernel
theorem dX7_undo_56 : decode cX7_undo 56 = .ok (.imul, 1) := by decide +kernel
theorem dX7_undo_57 : decode cX7_undo 57 = .ok (.iload_n 1, 1) := by decide +kernel
theorem dX7_undo_58 : decode cX7_undo 58 = .ok (.iadd, 1) := by decide +kernel
theorem dX7_undo_59 : decode cX7_undo 59 = .ok (.iaload, 1) := by decide +kernel
theorem dX7_undo_60 : decode cX7_undo 60 = .ok (.iastore, 1) := by decide +kernel
theorem dX7_undo_61 : decode cX7_undo 61 = .ok (.iinc 1 1, 3) := by decide +kernel
theorem dX7_undo_64 : decode cX7_undo 64 = .ok (.goto (-31), 3) := by decide +kernel
theorem dX7_undo_67 : decode cX7_undo 67 = .ok (.aload_n 0, 1) := by decide +kernel
theorem dX7_undo_68 : decode cX7_undo 68 = .ok (.getfield 45, 3) := by decide +kernel
theorem dX7_undo_71 : decode cX7_undo 71 = .ok (.ireturn, 1) := by decide +kernel
theorem dX7_mix_0 : decode cX7_mix 0 = .ok (.aload_n 0, 1) := by decide +kernel
theorem dX7_mix_1 : decode cX7_mix 1 = .ok (.ldc2_w 137, 3) := by decide +kernel
theorem dX7_mix_4 : decode cX7_mix 4 = .ok (.aload_n 0, 1) := by decide +kernel
theorem dX7_mix_5 : decode cX7_mix 5 = .ok (.getfield 139, 3) := by decide +kernel
theorem dX7_mix_8 : decode cX7_mix 8 = .ok (.lmul, 1) := by decide +kernel
theorem dX7_mix_9 : decode cX7_mix 9 = .ok (.lload_n 1, 1) := by decide +kernel
theorem dX7_mix_10 : decode cX7_mix 10 = .ok (.ladd, 1) := by decide +kernel
theorem dX7_mix_11 : decode cX7_mix 11 = .ok (.putfield 139, 3) := by decide +kernel
theorem dX7_mix_14 : decode cX7_mix 14 = .ok (.return_, 1) := by decide +kernel
set_option maxRecDepth 20000 in
theorem ggX7_digest_X7_mix : GoodIn wsX7_digest wsX7_mix := goodIn_r _ [15, 16, 3, 72, 73, 74, 75, 76, 77, 78, 79, 80, 81, 82, 83] (by decide +kernel) (by decide +kernel)
set_option maxRecDepth 20000 in
theorem gX7_digest_X7_mix : GoodIn wsX7_digest (wsV RX7 145 RX7 yX7_mix wsX7_mix) := goodIn_app (goodIn_of _ (by decide +kernel)) ggX7_digest_X7_mix
set_option maxRecDepth 20000 in
theorem ggX7_digest_X7_lays : GoodIn wsX7_digest wsX7_lays := goodIn_r _ [20, 5, 6, 21, 7, 10, 22, 23, 24, 25, 14, 26, 27, 28, 29, 30, 31, 32, 33, 34, 35, 36, 37, 38, 39, 72, 73, 74, 75, 76, 77, 78, 79, 80, 81, 82, 83] (by decide +kernel) (by decide +kernel)
set_option maxRecDepth 20000 in
theorem gX7_digest_X7_lays : GoodIn wsX7_digest (wsV RX7 90 RX7 yX7_lays wsX7_lays) := goodIn_app (goodIn_of _ (by decide +kernel)) ggX7_digest_X7_lays
set_option maxRecDepth 20000 in
theorem ggX7_digest_X7_layRow : GoodIn wsX7_digest wsX7_layRow := goodIn_r _ [43, 5, 8, 72, 73, 74, 75, 76, 77, 78, 79, 80, 81, 82, 83] (by decide +kernel) (by decide +kernel)
set_option maxRecDepth 20000 in
theorem gX7_digest_X7_layRow : GoodIn wsX7_digest (wsV RX7 93 RX7 yX7_layRow wsX7_layRow) := goodIn_app (goodIn_of _ (by decide +kernel)) ggX7_digest_X7_layRow
set_option maxRecDepth 20000 in
theorem ggX7_digest_X7_findViolations : GoodIn wsX7_digest wsX7_findViolations := goodIn_r _ [47, 5, 9, 17, 18, 19, 14, 20, 6, 21, 7, 10, 22, 23, 24, 25, 26, 27, 28, 29, 30, 31, 32, 33, 34, 35, 36, 37, 38, 39, 40, 41, 42, 43, 8, 48, 49, 50, 51, 52, 53, 54, 55, 56, 57, 58, 59, 60, 61, 62, 63, 72, 73, 74, 75, 76, 77, 78, 79, 80, 81, 82, 83] (by decide +kernel) (by decide +kernel)
set_option maxRecDepth 20000 in
theorem gX7_digest_X7_findViolations : GoodIn wsX7_digest (wsV RX7 114 RX7 yX7_findViolations wsX7_findViolations) := goodIn_app (goodIn_of _ (by decide +kernel)) ggX7_digest_X7_findViolations
set_option maxRecDepth 20000 in
theorem ggX7_digest_X7_headwayNow : GoodIn wsX7_digest wsX7_headwayNow := goodIn_r _ [67, 17, 18, 19, 14, 20, 5, 6, 21, 7, 10, 22, 23, 24, 25, 26, 27, 28, 29, 30, 31, 32, 33, 34, 35, 36, 37, 38, 39, 40, 41, 42, 43, 8, 68, 69, 70, 71, 72, 73, 74, 75, 76, 77, 78, 79, 80, 81, 82, 83] (by decide +kernel) (by decide +kernel)
set_option maxRecDepth 20000 in
theorem gX7_digest_X7_headwayNow : GoodIn wsX7_digest (wsV RX7 133 RX7 yX7_headwayNow wsX7_headwayNow) := goodIn_app (goodIn_of _ (by decide +kernel)) ggX7_digest_X7_headwayNow
theorem dX7_digest_0 : decode cX7_digest 0 = .ok (.aload_n 0, 1) := by decide +kernel
theorem dX7_digest_1 : decode cX7_digest 1 = .ok (.iconst 0, 1) := by decide +kernel
theorem dX7_digest_2 : decode cX7_digest 2 = .ok (.putfield 41, 3) := by decide +kernel
theorem dX7_digest_5 : decode cX7_digest 5 = .ok (.aload_n 0, 1) := by decide +kernel
theorem dX7_digest_6 : decode cX7_digest 6 = .ok (.ldc2_w 143, 3) := by decide +kernel
theorem dX7_digest_9 : decode cX7_digest 9 = .ok (.putfield 139, 3) := by decide +kernel
theorem dX7_digest_12 : decode cX7_digest 12 = .ok (.aload_n 0, 1) := by decide +kernel
theorem dX7_digest_13 : decode cX7_digest 13 = .ok (.aload_n 0, 1) := by decide +kernel
theorem dX7_digest_14 : decode cX7_digest 14 = .ok (.getfield 45, 3) := by decide +kernel
theorem dX7_digest_17 : decode cX7_digest 17 = .ok (.i2l, 1) := by decide +kernel
theorem dX7_digest_18 : decode cX7_digest 18 = .ok (.invokevirtual 145, 3) := by decide +kernel
theorem dX7_digest_21 : decode cX7_digest 21 = .ok (.iconst 0, 1) := by decide +kernel
theorem dX7_digest_22 : decode cX7_digest 22 = .ok (.istore_n 1, 1) := by decide +kernel
theorem dX7_digest_23 : decode cX7_digest 23 = .ok (.iload_n 1, 1) := by decide +kernel
theorem dX7_digest_24 : decode cX7_digest 24 = .ok (.bipush 8, 2) := by decide +kernel
theorem dX7_digest_26 : decode cX7_digest 26 = .ok (.if_icmp .gt 20, 3) := by decide +kernel
theorem dX7_digest_29 : decode cX7_digest 29 = .ok (.aload_n 0, 1) := by decide +kernel
theorem dX7_digest_30 : decode cX7_digest 30 = .ok (.aload_n 0, 1) := by decide +kernel
theorem dX7_digest_31 : decode cX7_digest 31 = .ok (.getfield 7, 3) := by decide +kernel
theorem dX7_digest_34 : decode cX7_digest 34 = .ok (.iload_n 1, 1) := by decide +kernel
theorem dX7_digest_35 : decode cX7_digest 35 = .ok (.iaload, 1) := by decide +kernel
theorem dX7_digest_36 : decode cX7_digest 36 = .ok (.i2l, 1) := by decide +kernel
theorem dX7_digest_37 : decode cX7_digest 37 = .ok (.invokevirtual 145, 3) := by decide +kernel
theorem dX7_digest_40 : decode cX7_digest 40 = .ok (.iinc 1 1, 3) := by decide +kernel
theorem dX7_digest_43 : decode cX7_digest 43 = .ok (.goto (-20), 3) := by decide +kernel
theorem dX7_digest_46 : decode cX7_digest 46 = .ok (.iconst 0, 1) := by decide +kernel
theorem dX7_digest_47 : decode cX7_digest 47 = .ok (.istore_n 1, 1) := by decide +kernel
theorem dX7_digest_48 : decode cX7_digest 48 = .ok (.iload_n 1, 1) := by decide +kernel
theorem dX7_digest_49 : decode cX7_digest 49 = .ok (.aload_n 0, 1) := by decide +kernel
theorem dX7_digest_50 : decode cX7_digest 50 = .ok (.getfield 7, 3) := by decide +kernel
theorem dX7_digest_53 : decode cX7_digest 53 = .ok (.iconst 0, 1) := by decide +kernel
theorem dX7_digest_54 : decode cX7_digest 54 = .ok (.iaload, 1) := by decide +kernel
theorem dX7_digest_55 : decode cX7_digest 55 = .ok (.if_icmp .ge 38, 3) := by decide +kernel
theorem dX7_digest_58 : decode cX7_digest 58 = .ok (.aload_n 0, 1) := by decide +kernel
theorem dX7_digest_59 : decode cX7_digest 59 = .ok (.aload_n 0, 1) := by decide +kernel
theorem dX7_digest_60 : decode cX7_digest 60 = .ok (.getfield 7, 3) := by decide +kernel
theorem dX7_digest_63 : decode cX7_digest 63 = .ok (.bipush 9, 2) := by decide +kernel
theorem dX7_digest_65 : decode cX7_digest 65 = .ok (.iload_n 1, 1) := by decide +kernel
theorem dX7_digest_66 : decode cX7_digest 66 = .ok (.iadd, 1) := by decide +kernel
theorem dX7_digest_67 : decode cX7_digest 67 = .ok (.iaload, 1) := by decide +kernel
theorem dX7_digest_68 : decode cX7_digest 68 = .ok (.i2l, 1) := by decide +kernel
theorem dX7_digest_69 : decode cX7_digest 69 = .ok (.invokevirtual 145, 3) := by decide +kernel
theorem dX7_digest_72 : decode cX7_digest 72 = .ok (.aload_n 0, 1) := by decide +kernel
theorem dX7_digest_73 : decode cX7_digest 73 = .ok (.aload_n 0, 1) := by decide +kernel
theorem dX7_digest_74 : decode cX7_digest 74 = .ok (.getfield 7, 3) := by decide +kernel
theorem dX7_digest_77 : decode cX7_digest 77 = .ok (.sipush 129, 3) := by decide +kernel
theorem dX7_digest_80 : decode cX7_digest 80 = .ok (.iload_n 1, 1) := by decide +kernel
theorem dX7_digest_81 : decode cX7_digest 81 = .ok (.iadd, 1) := by decide +kernel
theorem dX7_digest_82 : decode cX7_digest 82 = .ok (.iaload, 1) := by decide +kernel
theorem dX7_digest_83 : decode cX7_digest 83 = .ok (.i2l, 1) := by decide +kernel
theorem dX7_digest_84 : decode cX7_digest 84 = .ok (.invokevirtual 145, 3) := by decide +kernel
theorem dX7_digest_87 : decode cX7_digest 87 = .ok (.iinc 1 1, 3) := by decide +kernel
theorem dX7_digest_90 : decode cX7_digest 90 = .ok (.goto (-42), 3) := by decide +kernel
theorem dX7_digest_93 : decode cX7_digest 93 = .ok (.aload_n 0, 1) := by decide +kernel
theorem dX7_digest_94 : decode cX7_digest 94 = .ok (.invokevirtual 90, 3) := by decide +kernel
theorem dX7_digest_97 : decode cX7_digest 97 = .ok (.iconst 0, 1) := by decide +kernel
theorem dX7_digest_98 : decode cX7_digest 98 = .ok (.istore_n 1, 1) := by decide +kernel
theorem dX7_digest_99 : decode cX7_digest 99 = .ok (.iload_n 1, 1) := by decide +kernel
theorem dX7_digest_100 : decode cX7_digest 100 = .ok (.aload_n 0, 1) := by decide +kernel
theorem dX7_digest_101 : decode cX7_digest 101 = .ok (.getfield 7, 3) := by decide +kernel
theorem dX7_digest_104 : decode cX7_digest 104 = .ok (.iconst 0, 1) := by decide +kernel
theorem dX7_digest_105 : decode cX7_digest 105 = .ok (.iaload, 1) := by decide +kernel
theorem dX7_digest_106 : decode cX7_digest 106 = .ok (.if_icmp .gt 60, 3) := by decide +kernel
theorem dX7_digest_109 : decode cX7_digest 109 = .ok (.aload_n 0, 1) := by decide +kernel
theorem dX7_digest_110 : decode cX7_digest 110 = .ok (.aload_n 0, 1) := by decide +kernel
theorem dX7_digest_111 : decode cX7_digest 111 = .ok (.getfield 7, 3) := by decide +kernel
theorem dX7_digest_114 : decode cX7_digest 114 = .ok (.sipush 249, 3) := by decide +kernel
theorem dX7_digest_117 : decode cX7_digest 117 = .ok (.iload_n 1, 1) := by decide +kernel
theorem dX7_digest_118 : decode cX7_digest 118 = .ok (.iadd, 1) := by decide +kernel
theorem dX7_digest_119 : decode cX7_digest 119 = .ok (.iaload, 1) := by decide +kernel
theorem dX7_digest_120 : decode cX7_digest 120 = .ok (.i2l, 1) := by decide +kernel
theorem dX7_digest_121 : decode cX7_digest 121 = .ok (.invokevirtual 145, 3) := by decide +kernel
theorem dX7_digest_124 : decode cX7_digest 124 = .ok (.aload_n 0, 1) := by decide +kernel
theorem dX7_digest_125 : decode cX7_digest 125 = .ok (.aload_n 0, 1) := by decide +kernel
theorem dX7_digest_126 : decode cX7_digest 126 = .ok (.getfield 7, 3) := by decide +kernel
theorem dX7_digest_129 : decode cX7_digest 129 = .ok (.sipush 370, 3) := by decide +kernel
theorem dX7_digest_132 : decode cX7_digest 132 = .ok (.iload_n 1, 1) := by decide +kernel
theorem dX7_digest_133 : decode cX7_digest 133 = .ok (.iadd, 1) := by decide +kernel
theorem dX7_digest_134 : decode cX7_digest 134 = .ok (.iaload, 1) := by decide +kernel
theorem dX7_digest_135 : decode cX7_digest 135 = .ok (.i2l, 1) := by decide +kernel
theorem dX7_digest_136 : decode cX7_digest 136 = .ok (.invokevirtual 145, 3) := by decide +kernel
theorem dX7_digest_139 : decode cX7_digest 139 = .ok (.aload_n 0, 1) := by decide +kernel
theorem dX7_digest_140 : decode cX7_digest 140 = .ok (.aload_n 0, 1) := by decide +kernel
theorem dX7_digest_141 : decode cX7_digest 141 = .ok (.getfield 16, 3) := by decide +kernel
theorem dX7_digest_144 : decode cX7_digest 144 = .ok (.iload_n 1, 1) := by decide +kernel
theorem dX7_digest_145 : decode cX7_digest 145 = .ok (.laload, 1) := by decide +kernel
theorem dX7_digest_146 : decode cX7_digest 146 = .ok (.invokevirtual 145, 3) := by decide +kernel
theorem dX7_digest_149 : decode cX7_digest 149 = .ok (.aload_n 0, 1) := by decide +kernel
theorem dX7_digest_150 : decode cX7_digest 150 = .ok (.aload_n 0, 1) := by decide +kernel
theorem dX7_digest_151 : decode cX7_digest 151 = .ok (.getfield 23, 3) := by decide +kernel
theorem dX7_digest_154 : decode cX7_digest 154 = .ok (.iload_n 1, 1) := by decide +kernel
theorem dX7_digest_155 : decode cX7_digest 155 = .ok (.iaload, 1) := by decide +kernel
theorem dX7_digest_156 : decode cX7_digest 156 = .ok (.i2l, 1) := by decide +kernel
theorem dX7_digest_157 : decode cX7_digest 157 = .ok (.invokevirtual 145, 3) := by decide +kernel
theorem dX7_digest_160 : decode cX7_digest 160 = .ok (.iinc 1 1, 3) := by decide +kernel
theorem dX7_digest_163 : decode cX7_digest 163 = .ok (.goto (-64), 3) := by decide +kernel
theorem dX7_digest_166 : decode cX7_digest 166 = .ok (.aload_n 0, 1) := by decide +kernel
theorem dX7_digest_167 : decode cX7_digest 167 = .ok (.invokevirtual 93, 3) := by decide +kernel
theorem dX7_digest_170 : decode cX7_digest 170 = .ok (.istore_n 1, 1) := by decide +kernel
theorem dX7_digest_171 : decode cX7_digest 171 = .ok (.aload_n 0, 1) := by decide +kernel
theorem dX7_digest_172 : decode cX7_digest 172 = .ok (.iload_n 1, 1) := by decide +kernel
theorem dX7_digest_173 : decode cX7_digest 173 = .ok (.i2l, 1) := by decide +kernel
theorem dX7_digest_174 : decode cX7_digest 174 = .ok (.invokevirtual 145, 3) := by decide +kernel
theorem dX7_digest_177 : decode cX7_digest 177 = .ok (.iconst 0, 1) := by decide +kernel
theorem dX7_digest_178 : decode cX7_digest 178 = .ok (.istore_n 2, 1) := by decide +kernel
theorem dX7_digest_179 : decode cX7_digest 179 = .ok (.iload_n 2, 1) := by decide +kernel
theorem dX7_digest_180 : decode cX7_digest 180 = .ok (.iload_n 1, 1) := by decide +kernel
theorem dX7_digest_181 : decode cX7_digest 181 = .ok (.if_icmp .ge 20, 3) := by decide +kernel
theorem dX7_digest_184 : decode cX7_digest 184 = .ok (.aload_n 0, 1) := by decide +kernel
theorem dX7_digest_185 : decode cX7_digest 185 = .ok (.aload_n 0, 1) := by decide +kernel
theorem dX7_digest_186 : decode cX7_digest 186 = .ok (.getfield 29, 3) := by decide +kernel
theorem dX7_digest_189 : decode cX7_digest 189 = .ok (.iload_n 2, 1) := by decide +kernel
theorem dX7_digest_190 : decode cX7_digest 190 = .ok (.iaload, 1) := by decide +kernel
theorem dX7_digest_191 : decode cX7_digest 191 = .ok (.i2l, 1) := by decide +kernel
theorem dX7_digest_192 : decode cX7_digest 192 = .ok (.invokevirtual 145, 3) := by decide +kernel
theorem dX7_digest_195 : decode cX7_digest 195 = .ok (.iinc 2 1, 3) := by decide +kernel
theorem dX7_digest_198 : decode cX7_digest 198 = .ok (.goto (-19), 3) := by decide +kernel
theorem dX7_digest_201 : decode cX7_digest 201 = .ok (.aload_n 0, 1) := by decide +kernel
theorem dX7_digest_202 : decode cX7_digest 202 = .ok (.invokevirtual 114, 3) := by decide +kernel
theorem dX7_digest_205 : decode cX7_digest 205 = .ok (.istore_n 2, 1) := by decide +kernel
theorem dX7_digest_206 : decode cX7_digest 206 = .ok (.aload_n 0, 1) := by decide +kernel
theorem dX7_digest_207 : decode cX7_digest 207 = .ok (.iload_n 2, 1) := by decide +kernel
theorem dX7_digest_208 : decode cX7_digest 208 = .ok (.i2l, 1) := by decide +kernel
theorem dX7_digest_209 : decode cX7_digest 209 = .ok (.invokevirtual 145, 3) := by decide +kernel
theorem dX7_digest_212 : decode cX7_digest 212 = .ok (.iconst 0, 1) := by decide +kernel
theorem dX7_digest_213 : decode cX7_digest 213 = .ok (.istore_n 3, 1) := by decide +kernel
theorem dX7_digest_214 : decode cX7_digest 214 = .ok (.iload_n 3, 1) := by decide +kernel
theorem dX7_digest_215 : decode cX7_digest 215 = .ok (.iload_n 2, 1) := by decide +kernel
theorem dX7_digest_216 : decode cX7_digest 216 = .ok (.if_icmp .ge 20, 3) := by decide +kernel
theorem dX7_digest_219 : decode cX7_digest 219 = .ok (.aload_n 0, 1) := by decide +kernel
theorem dX7_digest_220 : decode cX7_digest 220 = .ok (.aload_n 0, 1) := by decide +kernel
theorem dX7_digest_221 : decode cX7_digest 221 = .ok (.getfield 32, 3) := by decide +kernel
theorem dX7_digest_224 : decode cX7_digest 224 = .ok (.iload_n 3, 1) := by decide +kernel
theorem dX7_digest_225 : decode cX7_digest 225 = .ok (.iaload, 1) := by decide +kernel
theorem dX7_digest_226 : decode cX7_digest 226 = .ok (.i2l, 1) := by decide +kernel
theorem dX7_digest_227 : decode cX7_digest 227 = .ok (.invokevirtual 145, 3) := by decide +kernel
theorem dX7_digest_230 : decode cX7_digest 230 = .ok (.iinc 3 1, 3) := by decide +kernel
theorem dX7_digest_233 : decode cX7_digest 233 = .ok (.goto (-19), 3) := by decide +kernel
theorem dX7_digest_236 : decode cX7_digest 236 = .ok (.aload_n 0, 1) := by decide +kernel
theorem dX7_digest_237 : decode cX7_digest 237 = .ok (.aload_n 0, 1) := by decide +kernel
theorem dX7_digest_238 : decode cX7_digest 238 = .ok (.invokevirtual 133, 3) := by decide +kernel
theorem dX7_digest_241 : decode cX7_digest 241 = .ok (.i2l, 1) := by decide +kernel
theorem dX7_digest_242 : decode cX7_digest 242 = .ok (.invokevirtual 145, 3) := by decide +kernel
theorem dX7_digest_245 : decode cX7_digest 245 = .ok (.aload_n 0, 1) := by decide +kernel
theorem dX7_digest_246 : decode cX7_digest 246 = .ok (.aload_n 0, 1) := by decide +kernel
theorem dX7_digest_247 : decode cX7_digest 247 = .ok (.getfield 26, 3) := by decide +kernel
theorem dX7_digest_250 : decode cX7_digest 250 = .ok (.aload_n 0, 1) := by decide +kernel
theorem dX7_digest_251 : decode cX7_digest 251 = .ok (.getfield 7, 3) := by decide +kernel
theorem dX7_digest_254 : decode cX7_digest 254 = .ok (.iconst 0, 1) := by decide +kernel
theorem dX7_digest_255 : decode cX7_digest 255 = .ok (.iaload, 1) := by decide +kernel
theorem dX7_digest_256 : decode cX7_digest 256 = .ok (.iaload, 1) := by decide +kernel
theorem dX7_digest_257 : decode cX7_digest 257 = .ok (.i2l, 1) := by decide +kernel
theorem dX7_digest_258 : decode cX7_digest 258 = .ok (.invokevirtual 145, 3) := by decide +kernel
theorem dX7_digest_261 : decode cX7_digest 261 = .ok (.aload_n 0, 1) := by decide +kernel
theorem dX7_digest_262 : decode cX7_digest 262 = .ok (.getfield 139, 3) := by decide +kernel
theorem dX7_digest_265 : decode cX7_digest 265 = .ok (.lreturn, 1) := by decide +kernel
theorem dJ9_max_7cf53_0 : decode cJ9_max_7cf53 0 = .ok (.iload_n 0, 1) := by decide +kernel
theorem dJ9_max_7cf53_1 : decode cJ9_max_7cf53 1 = .ok (.iload_n 1, 1) := by decide +kernel
theorem dJ9_max_7cf53_2 : decode cJ9_max_7cf53 2 = .ok (.if_icmp .lt 7, 3) := by decide +kernel
theorem dJ9_max_7cf53_5 : decode cJ9_max_7cf53 5 = .ok (.iload_n 0, 1) := by decide +kernel
theorem dJ9_max_7cf53_6 : decode cJ9_max_7cf53 6 = .ok (.goto 4, 3) := by decide +kernel
theorem dJ9_max_7cf53_9 : decode cJ9_max_7cf53 9 = .ok (.iload_n 1, 1) := by decide +kernel
theorem dJ9_max_7cf53_10 : decode cJ9_max_7cf53 10 = .ok (.ireturn, 1) := by decide +kernel
theorem dJ9_min_7cf53_0 : decode cJ9_min_7cf53 0 = .ok (.iload_n 0, 1) := by decide +kernel
theorem dJ9_min_7cf53_1 : decode cJ9_min_7cf53 1 = .ok (.iload_n 1, 1) := by decide +kernel
theorem dJ9_min_7cf53_2 : decode cJ9_min_7cf53 2 = .ok (.if_icmp .gt 7, 3) := by decide +kernel
theorem dJ9_min_7cf53_5 : decode cJ9_min_7cf53 5 = .ok (.iload_n 0, 1) := by decide +kernel
theorem dJ9_min_7cf53_6 : decode cJ9_min_7cf53 6 = .ok (.goto 4, 3) := by decide +kernel
theorem dJ9_min_7cf53_9 : decode cJ9_min_7cf53 9 = .ok (.iload_n 1, 1) := by decide +kernel
theorem dJ9_min_7cf53_10 : decode cJ9_min_7cf53 10 = .ok (.ireturn, 1) := by decide +kernel
set_option maxRecDepth 20000 in
theorem ggL_setLength_X6_setLength : GoodIn wsL_setLength wsX6_setLength := goodIn_ca (goodIn_r _ [6, 7, 8, 9, 10, 11, 12, 5, 13, 14, 15, 16, 17, 18, 19, 20, 21, 22, 23, 24, 25, 26, 27, 28, 29, 30, 31, 32, 33, 34, 35, 36, 37, 38, 39, 40, 41, 42, 43, 44, 45, 46, 47, 48, 49, 50, 51, 52, 53, 54, 55, 56, 57, 58, 59, 60, 61, 62, 63, 64, 65, 66, 67, 68, 69, 70, 71, 72, 73, 74, 75, 76, 77, 78, 79, 80, 81, 82, 83, 84, 85, 86, 87, 88, 89, 90, 91, 92, 93, 94, 95, 96, 97, 98, 99, 100, 101, 102, 103, 104, 105] (by decide +kernel) (by decide +kernel)) (goodIn_sub (fun _ h => List.mem_cons_of_mem _ (List.mem_append_right _ h)) (by decide +kernel))
set_option maxRecDepth 20000 in
theorem gL_setLength_X6_setLength : GoodIn wsL_setLength (wsV RL 7 RX6 yX6_setLength wsX6_setLength) := goodIn_app (goodIn_of _ (by decide +kernel)) ggL_setLength_X6_setLength
theorem dL_setLength_0 : decode cL_setLength 0 = .ok (.aload_n 2, 1) := by decide +kernel
theorem dL_setLength_1 : decode cL_setLength 1 = .ok (.iconst 0, 1) := by decide +kernel
theorem dL_setLength_2 : decode cL_setLength 2 = .ok (.aload_n 0, 1) := by decide +kernel
theorem dL_setLength_3 : decode cL_setLength 3 = .ok (.iload_n 1, 1) := by decide +kernel
theorem dL_setLength_4 : decode cL_setLength 4 = .ok (.invokevirtual 7, 3) := by decide +kernel
theorem dL_setLength_7 : decode cL_setLength 7 = .ok (.i2l, 1) := by decide +kernel
theorem dL_setLength_8 : decode cL_setLength 8 = .ok (.lastore, 1) := by decide +kernel
theorem dL_setLength_9 : decode cL_setLength 9 = .ok (.goto 6, 3) := by decide +kernel
theorem dL_setLength_12 : decode cL_setLength 12 = .ok (.astore_n 3, 1) := by decide +kernel
theorem dL_setLength_13 : decode cL_setLength 13 = .ok (.iconst 1, 1) := by decide +kernel
theorem dL_setLength_14 : decode cL_setLength 14 = .ok (.ireturn, 1) := by decide +kernel
theorem dL_setLength_15 : decode cL_setLength 15 = .ok (.iconst 0, 1) := by decide +kernel
theorem dL_setLength_16 : decode cL_setLength 16 = .ok (.ireturn, 1) := by decide +kernel
set_option maxRecDepth 20000 in
theorem ggL_setLimit_X6_setLimit : GoodIn wsL_setLimit wsX6_setLimit := goodIn_ca (goodIn_r _ [6, 7, 8, 9, 10, 11, 12, 13, 5, 14, 15, 16, 17, 18, 19, 20, 21, 22, 23, 24, 25, 26, 27, 28, 29, 30, 31, 32, 33, 34, 35, 36, 37, 38, 39, 40, 41, 42, 43, 44, 45, 46, 47, 48, 49, 50, 51, 52, 53, 54, 55, 56, 57, 58, 59, 60, 61, 62, 63, 64, 65, 66, 67, 68, 69, 70, 71, 72, 73, 74, 75, 76, 77, 78, 79, 80, 81, 82, 83, 84, 85, 86, 87, 88, 89, 90, 91, 92, 93, 94, 95, 96, 97, 98, 99, 100, 101, 102, 103, 104, 105, 106, 107, 108] (by decide +kernel) (by decide +kernel)) (goodIn_sub (fun _ h => List.mem_cons_of_mem _ (List.mem_append_right _ h)) (by decide +kernel))
set_option maxRecDepth 20000 in
theorem gL_setLimit_X6_setLimit : GoodIn wsL_setLimit (wsV RL 15 RX6 yX6_setLimit wsX6_setLimit) := goodIn_app (goodIn_of _ (by decide +kernel)) ggL_setLimit_X6_setLimit
theorem dL_setLimit_0 : decode cL_setLimit 0 = .ok (.aload 4, 2) := by decide +kernel
theorem dL_setLimit_2 : decode cL_setLimit 2 = .ok (.iconst 0, 1) := by decide +kernel
theorem dL_setLimit_3 : decode cL_setLimit 3 = .ok (.aload_n 0, 1) := by decide +kernel
theorem dL_setLimit_4 : decode cL_setLimit 4 = .ok (.iload_n 1, 1) := by decide +kernel
theorem dL_setLimit_5 : decode cL_setLimit 5 = .ok (.iload_n 2, 1) := by decide +kernel
theorem dL_setLimit_6 : decode cL_setLimit 6 = .ok (.iload_n 3, 1) := by decide +kernel
theorem dL_setLimit_7 : decode cL_setLimit 7 = .ok (.invokevirtual 15, 3) := by decide +kernel
theorem dL_setLimit_10 : decode cL_setLimit 10 = .ok (.i2l, 1) := by decide +kernel
theorem dL_setLimit_11 : decode cL_setLimit 11 = .ok (.lastore, 1) := by decide +kernel
theorem dL_setLimit_12 : decode cL_setLimit 12 = .ok (.goto 7, 3) := by decide +kernel
theorem dL_setLimit_15 : decode cL_setLimit 15 = .ok (.astore 5, 2) := by decide +kernel
theorem dL_setLimit_17 : decode cL_setLimit 17 = .ok (.iconst 1, 1) := by decide +kernel
theorem dL_setLimit_18 : decode cL_setLimit 18 = .ok (.ireturn, 1) := by decide +kernel
theorem dL_setLimit_19 : decode cL_setLimit 19 = .ok (.iconst 0, 1) := by decide +kernel
theorem dL_setLimit_20 : decode cL_setLimit 20 = .ok (.ireturn, 1) := by decide +kernel
set_option maxRecDepth 20000 in
theorem ggL_setGradient_X6_setGradient : GoodIn wsL_setGradient wsX6_setGradient := goodIn_ca (goodIn_r _ [6, 7, 8, 9, 10, 11, 12, 13, 5, 14, 15, 16, 17, 18, 19, 20, 21, 22, 23, 24, 25, 26, 27, 28, 29, 30, 31, 32, 33, 34, 35, 36, 37, 38, 39, 40, 41, 42, 43, 44, 45, 46, 47, 48, 49, 50, 51, 52, 53, 54, 55, 56, 57, 58, 59, 60, 61, 62, 63, 64, 65, 66, 67, 68, 69, 70, 71, 72, 73, 74, 75, 76, 77, 78, 79, 80, 81, 82, 83, 84, 85, 86, 87, 88, 89, 90, 91, 92, 93, 94, 95, 96, 97, 98, 99, 100, 101, 102, 103, 104, 105, 106, 107, 108] (by decide +kernel) (by decide +kernel)) (goodIn_sub (fun _ h => List.mem_cons_of_mem _ (List.mem_append_right _ h)) (by decide +kernel))
set_option maxRecDepth 20000 in
theorem gL_setGradient_X6_setGradient : GoodIn wsL_setGradient (wsV RL 19 RX6 yX6_setGradient wsX6_setGradient) := goodIn_app (goodIn_of _ (by decide +kernel)) ggL_setGradient_X6_setGradient
theorem dL_setGradient_0 : decode cL_setGradient 0 = .ok (.aload 4, 2) := by decide +kernel
theorem dL_setGradient_2 : decode cL_setGradient 2 = .ok (.iconst 0, 1) := by decide +kernel
theorem dL_setGradient_3 : decode cL_setGradient 3 = .ok (.aload_n 0, 1) := by decide +kernel
theorem dL_setGradient_4 : decode cL_setGradient 4 = .ok (.iload_n 1, 1) := by decide +kernel
theorem dL_setGradient_5 : decode cL_setGradient 5 = .ok (.iload_n 2, 1) := by decide +kernel
theorem dL_setGradient_6 : decode cL_setGradient 6 = .ok (.iload_n 3, 1) := by decide +kernel
theorem dL_setGradient_7 : decode cL_setGradient 7 = .ok (.invokevirtual 19, 3) := by decide +kernel
theorem dL_setGradient_10 : decode cL_setGradient 10 = .ok (.i2l, 1) := by decide +kernel
theorem dL_setGradient_11 : decode cL_setGradient 11 = .ok (.lastore, 1) := by decide +kernel
theorem dL_setGradient_12 : decode cL_setGradient 12 = .ok (.goto 7, 3) := by decide +kernel
theorem dL_setGradient_15 : decode cL_setGradient 15 = .ok (.astore 5, 2) := by decide +kernel
theorem dL_setGradient_17 : decode cL_setGradient 17 = .ok (.iconst 1, 1) := by decide +kernel
theorem dL_setGradient_18 : decode cL_setGradient 18 = .ok (.ireturn, 1) := by decide +kernel
theorem dL_setGradient_19 : decode cL_setGradient 19 = .ok (.iconst 0, 1) := by decide +kernel
theorem dL_setGradient_20 : decode cL_setGradient 20 = .ok (.ireturn, 1) := by decide +kernel
set_option maxRecDepth 20000 in
theorem ggL_setBarred_X6_setBarred : GoodIn wsL_setBarred wsX6_setBarred := goodIn_ca (goodIn_r _ [6, 7, 8, 9, 10, 11, 12, 13, 5, 14, 15, 16, 17, 18, 19, 20, 21, 22, 23, 24, 25, 26, 27, 28, 29, 30, 31, 32, 33, 34, 35, 36, 37, 38, 39, 40, 41, 42, 43, 44, 45, 46, 47, 48, 49, 50, 51, 52, 53, 54, 55, 56, 57, 58, 59, 60, 61, 62, 63, 64, 65, 66, 67, 68, 69, 70, 71, 72, 73, 74, 75, 76, 77, 78, 79, 80, 81, 82, 83, 84, 85, 86, 87, 88, 89, 90, 91, 92, 93, 94, 95, 96, 97, 98, 99, 100, 101, 102, 103, 104, 105, 106, 107, 108, 109, 110, 111, 112, 113] (by decide +kernel) (by decide +kernel)) (goodIn_sub (fun _ h => List.mem_cons_of_mem _ (List.mem_append_right _ h)) (by decide +kernel))
set_option maxRecDepth 20000 in
theorem gL_setBarred_X6_setBarred : GoodIn wsL_setBarred (wsV RL 22 RX6 yX6_setBarred wsX6_setBarred) := goodIn_app (goodIn_of _ (by decide +kernel)) ggL_setBarred_X6_setBarred
theorem dL_setBarred_0 : decode cL_setBarred 0 = .ok (.aload 4, 2) := by decide +kernel
theorem dL_setBarred_2 : decode cL_setBarred 2 = .ok (.iconst 0, 1) := by decide +kernel
theorem dL_setBarred_3 : decode cL_setBarred 3 = .ok (.aload_n 0, 1) := by decide +kernel
theorem dL_setBarred_4 : decode cL_setBarred 4 = .ok (.iload_n 1, 1) := by decide +kernel
theorem dL_setBarred_5 : decode cL_setBarred 5 = .ok (.iload_n 2, 1) := by decide +kernel
theorem dL_setBarred_6 : decode cL_setBarred 6 = .ok (.iload_n 3, 1) := by decide +kernel
theorem dL_setBarred_7 : decode cL_setBarred 7 = .ok (.invokevirtual 22, 3) := by decide +kernel
theorem dL_setBarred_10 : decode cL_setBarred 10 = .ok (.i2l, 1) := by decide +kernel
theorem dL_setBarred_11 : decode cL_setBarred 11 = .ok (.lastore, 1) := by decide +kernel
theorem dL_setBarred_12 : decode cL_setBarred 12 = .ok (.goto 7, 3) := by decide +kernel
theorem dL_setBarred_15 : decode cL_setBarred 15 = .ok (.astore 5, 2) := by decide +kernel
theorem dL_setBarred_17 : decode cL_setBarred 17 = .ok (.iconst 1, 1) := by decide +kernel
theorem dL_setBarred_18 : decode cL_setBarred 18 = .ok (.ireturn, 1) := by decide +kernel
theorem dL_setBarred_19 : decode cL_setBarred 19 = .ok (.iconst 0, 1) := by decide +kernel
theorem dL_setBarred_20 : decode cL_setBarred 20 = .ok (.ireturn, 1) := by decide +kernel
set_option maxRecDepth 20000 in
theorem ggL_setRequired_X6_setRequired : GoodIn wsL_setRequired wsX6_setRequired := goodIn_ca (goodIn_r _ [6, 7, 8, 9, 10, 11, 12, 13, 5, 14, 15, 16, 17, 18, 19, 20, 21, 22, 23, 24, 25, 26, 27, 28, 29, 30, 31, 32, 33, 34, 35, 36, 37, 38, 39, 40, 41, 42, 43, 44, 45, 46, 47, 48, 49, 50, 51, 52, 53, 54, 55, 56, 57, 58, 59, 60, 61, 62, 63, 64, 65, 66, 67, 68, 69, 70, 71, 72, 73, 74, 75, 76, 77, 78, 79, 80, 81, 82, 83, 84, 85, 86, 87, 88, 89, 90, 91, 92, 93, 94, 95, 96, 97, 98, 99, 100, 101, 102, 103, 104, 105, 106] (by decide +kernel) (by decide +kernel)) (goodIn_sub (fun _ h => List.mem_cons_of_mem _ (List.mem_append_right _ h)) (by decide +kernel))
set_option maxRecDepth 20000 in
theorem gL_setRequired_X6_setRequired : GoodIn wsL_setRequired (wsV RL 26 RX6 yX6_setRequired wsX6_setRequired) := goodIn_app (goodIn_of _ (by decide +kernel)) ggL_setRequired_X6_setRequired
theorem dL_setRequired_0 : decode cL_setRequired 0 = .ok (.aload_n 3, 1) := by decide +kernel
theorem dL_setRequired_1 : decode cL_setRequired 1 = .ok (.iconst 0, 1) := by decide +kernel
theorem dL_setRequired_2 : decode cL_setRequired 2 = .ok (.aload_n 0, 1) := by decide +kernel
theorem dL_setRequired_3 : decode cL_setRequired 3 = .ok (.iload_n 1, 1) := by decide +kernel
theorem dL_setRequired_4 : decode cL_setRequired 4 = .ok (.iload_n 2, 1) := by decide +kernel
theorem dL_setRequired_5 : decode cL_setRequired 5 = .ok (.invokevirtual 26, 3) := by decide +kernel
theorem dL_setRequired_8 : decode cL_setRequired 8 = .ok (.ifCond .eq 7, 3) := by decide +kernel
theorem dL_setRequired_11 : decode cL_setRequired 11 = .ok (.lconst 1, 1) := by decide +kernel
theorem dL_setRequired_12 : decode cL_setRequired 12 = .ok (.goto 4, 3) := by decide +kernel
theorem dL_setRequired_15 : decode cL_setRequired 15 = .ok (.lconst 0, 1) := by decide +kernel
theorem dL_setRequired_16 : decode cL_setRequired 16 = .ok (.lastore, 1) := by decide +kernel
theorem dL_setRequired_17 : decode cL_setRequired 17 = .ok (.goto 7, 3) := by decide +kernel
theorem dL_setRequired_20 : decode cL_setRequired 20 = .ok (.astore 4, 2) := by decide +kernel
theorem dL_setRequired_22 : decode cL_setRequired 22 = .ok (.iconst 1, 1) := by decide +kernel
theorem dL_setRequired_23 : decode cL_setRequired 23 = .ok (.ireturn, 1) := by decide +kernel
theorem dL_setRequired_24 : decode cL_setRequired 24 = .ok (.iconst 0, 1) := by decide +kernel
theorem dL_setRequired_25 : decode cL_setRequired 25 = .ok (.ireturn, 1) := by decide +kernel
set_option maxRecDepth 20000 in
theorem ggL_setTrain_X6_setTrain : GoodIn wsL_setTrain wsX6_setTrain := goodIn_ca (goodIn_r _ [6, 7, 8, 9, 10, 11, 12, 13, 14, 5, 15, 16, 17, 18, 19, 20, 21, 22, 23, 24, 25, 26, 27, 28, 29, 30, 31, 32, 33, 34, 35, 36, 37, 38, 39, 40, 41, 42, 43, 44, 45, 46, 47, 48, 49, 50, 51, 52, 53, 54, 55, 56, 57, 58, 59, 60, 61, 62, 63, 64, 65, 66, 67, 68, 69, 70, 71, 72, 73, 74, 75, 76, 77, 78, 79, 80, 81, 82, 83, 84, 85, 86, 87, 88, 89, 90, 91, 92, 93, 94, 95, 96, 97, 98, 99] (by decide +kernel) (by decide +kernel)) (goodIn_sub (fun _ h => List.mem_cons_of_mem _ (List.mem_append_right _ h)) (by decide +kernel))
set_option maxRecDepth 20000 in
theorem gL_setTrain_X6_setTrain : GoodIn wsL_setTrain (wsV RL 30 RX6 yX6_setTrain wsX6_setTrain) := goodIn_app (goodIn_of _ (by decide +kernel)) ggL_setTrain_X6_setTrain
theorem dL_setTrain_0 : decode cL_setTrain 0 = .ok (.aload 4, 2) := by decide +kernel
theorem dL_setTrain_2 : decode cL_setTrain 2 = .ok (.iconst 0, 1) := by decide +kernel
theorem dL_setTrain_3 : decode cL_setTrain 3 = .ok (.aload_n 0, 1) := by decide +kernel
theorem dL_setTrain_4 : decode cL_setTrain 4 = .ok (.iload_n 1, 1) := by decide +kernel
theorem dL_setTrain_5 : decode cL_setTrain 5 = .ok (.iload_n 2, 1) := by decide +kernel
theorem dL_setTrain_6 : decode cL_setTrain 6 = .ok (.iload_n 3, 1) := by decide +kernel
theorem dL_setTrain_7 : decode cL_setTrain 7 = .ok (.invokevirtual 30, 3) := by decide +kernel
theorem dL_setTrain_10 : decode cL_setTrain 10 = .ok (.i2l, 1) := by decide +kernel
theorem dL_setTrain_11 : decode cL_setTrain 11 = .ok (.lastore, 1) := by decide +kernel
theorem dL_setTrain_12 : decode cL_setTrain 12 = .ok (.goto 7, 3) := by decide +kernel
theorem dL_setTrain_15 : decode cL_setTrain 15 = .ok (.astore 5, 2) := by decide +kernel
theorem dL_setTrain_17 : decode cL_setTrain 17 = .ok (.iconst 1, 1) := by decide +kernel
theorem dL_setTrain_18 : decode cL_setTrain 18 = .ok (.ireturn, 1) := by decide +kernel
theorem dL_setTrain_19 : decode cL_setTrain 19 = .ok (.iconst 0, 1) := by decide +kernel
theorem dL_setTrain_20 : decode cL_setTrain 20 = .ok (.ireturn, 1) := by decide +kernel
set_option maxRecDepth 20000 in
theorem ggL_setRules_X6_setRules : GoodIn wsL_setRules wsX6_setRules := goodIn_ca (goodIn_r _ [6, 7, 8, 9, 10, 11, 12, 13, 14, 5, 15, 16, 17, 18, 19, 20, 21, 22, 23, 24, 25, 26, 27, 28, 29, 30, 31, 32, 33, 34, 35, 36, 37, 38, 39, 40, 41, 42, 43, 44, 45, 46, 47, 48, 49, 50, 51, 52, 53, 54, 55, 56, 57, 58, 59, 60, 61, 62, 63, 64, 65, 66, 67, 68, 69, 70, 71, 72, 73, 74, 75, 76, 77, 78, 79, 80, 81, 82, 83, 84, 85, 86, 87, 88, 89, 90, 91, 92, 93, 94, 95, 96, 97, 98, 99] (by decide +kernel) (by decide +kernel)) (goodIn_sub (fun _ h => List.mem_cons_of_mem _ (List.mem_append_right _ h)) (by decide +kernel))
set_option maxRecDepth 20000 in
theorem gL_setRules_X6_setRules : GoodIn wsL_setRules (wsV RL 33 RX6 yX6_setRules wsX6_setRules) := goodIn_app (goodIn_of _ (by decide +kernel)) ggL_setRules_X6_setRules
theorem dL_setRules_0 : decode cL_setRules 0 = .ok (.aload 4, 2) := by decide +kernel
theorem dL_setRules_2 : decode cL_setRules 2 = .ok (.iconst 0, 1) := by decide +kernel
theorem dL_setRules_3 : decode cL_setRules 3 = .ok (.aload_n 0, 1) := by decide +kernel
theorem dL_setRules_4 : decode cL_setRules 4 = .ok (.iload_n 1, 1) := by decide +kernel
theorem dL_setRules_5 : decode cL_setRules 5 = .ok (.iload_n 2, 1) := by decide +kernel
theorem dL_setRules_6 : decode cL_setRules 6 = .ok (.iload_n 3, 1) := by decide +kernel
theorem dL_setRules_7 : decode cL_setRules 7 = .ok (.invokevirtual 33, 3) := by decide +kernel
theorem dL_setRules_10 : decode cL_setRules 10 = .ok (.i2l, 1) := by decide +kernel
theorem dL_setRules_11 : decode cL_setRules 11 = .ok (.lastore, 1) := by decide +kernel
theorem dL_setRules_12 : decode cL_setRules 12 = .ok (.goto 7, 3) := by decide +kernel
theorem dL_setRules_15 : decode cL_setRules 15 = .ok (.astore 5, 2) := by decide +kernel
theorem dL_setRules_17 : decode cL_setRules 17 = .ok (.iconst 1, 1) := by decide +kernel
theorem dL_setRules_18 : decode cL_setRules 18 = .ok (.ireturn, 1) := by decide +kernel
theorem dL_setRules_19 : decode cL_setRules 19 = .ok (.iconst 0, 1) := by decide +kernel
theorem dL_setRules_20 : decode cL_setRules 20 = .ok (.ireturn, 1) := by decide +kernel
set_option maxRecDepth 20000 in
theorem ggL_setSight_X6_setSight : GoodIn wsL_setSight wsX6_setSight := goodIn_ca (goodIn_r _ [6, 7, 8, 9, 10, 11, 12, 13, 5, 14, 15, 16, 17, 18, 19, 20, 21, 22, 23, 24, 25, 26, 27, 28, 29, 30, 31, 32, 33, 34, 35, 36, 37, 38, 39, 40, 41, 42, 43, 44, 45, 46, 47, 48, 49, 50, 51, 52, 53, 54, 55, 56, 57, 58, 59, 60, 61, 62, 63, 64, 65, 66, 67, 68, 69, 70, 71, 72, 73, 74, 75, 76, 77, 78, 79, 80, 81, 82, 83, 84, 85, 86, 87, 88, 89, 90, 91, 92, 93, 94, 95, 96, 97, 98] (by decide +kernel) (by decide +kernel)) (goodIn_sub (fun _ h => List.mem_cons_of_mem _ (List.mem_append_right _ h)) (by decide +kernel))
set_option maxRecDepth 20000 in
theorem gL_setSight_X6_setSight : GoodIn wsL_setSight (wsV RL 36 RX6 yX6_setSight wsX6_setSight) := goodIn_app (goodIn_of _ (by decide +kernel)) ggL_setSight_X6_setSight
theorem dL_setSight_0 : decode cL_setSight 0 = .ok (.aload_n 3, 1) := by decide +kernel
theorem dL_setSight_1 : decode cL_setSight 1 = .ok (.iconst 0, 1) := by decide +kernel
theorem dL_setSight_2 : decode cL_setSight 2 = .ok (.aload_n 0, 1) := by decide +kernel
theorem dL_setSight_3 : decode cL_setSight 3 = .ok (.iload_n 1, 1) := by decide +kernel
theorem dL_setSight_4 : decode cL_setSight 4 = .ok (.iload_n 2, 1) := by decide +kernel
theorem dL_setSight_5 : decode cL_setSight 5 = .ok (.invokevirtual 36, 3) := by decide +kernel
theorem dL_setSight_8 : decode cL_setSight 8 = .ok (.i2l, 1) := by decide +kernel
theorem dL_setSight_9 : decode cL_setSight 9 = .ok (.lastore, 1) := by decide +kernel
theorem dL_setSight_10 : decode cL_setSight 10 = .ok (.goto 7, 3) := by decide +kernel
theorem dL_setSight_13 : decode cL_setSight 13 = .ok (.astore 4, 2) := by decide +kernel
theorem dL_setSight_15 : decode cL_setSight 15 = .ok (.iconst 1, 1) := by decide +kernel
theorem dL_setSight_16 : decode cL_setSight 16 = .ok (.ireturn, 1) := by decide +kernel
theorem dL_setSight_17 : decode cL_setSight 17 = .ok (.iconst 0, 1) := by decide +kernel
theorem dL_setSight_18 : decode cL_setSight 18 = .ok (.ireturn, 1) := by decide +kernel
set_option maxRecDepth 20000 in
theorem ggL_limit_X6_limit : GoodIn wsL_limit wsX6_limit := goodIn_ca (goodIn_r _ [6, 7, 8, 9, 10, 11, 12, 13, 5, 14, 15, 16, 17, 18, 19, 20, 21, 22, 23, 24, 25, 26, 27, 28, 29, 30, 31, 32, 33, 34, 35, 36, 37, 38, 39, 40, 41] (by decide +kernel) (by decide +kernel)) (goodIn_sub (fun _ h => List.mem_cons_of_mem _ (List.mem_append_right _ h)) (by decide +kernel))
set_option maxRecDepth 20000 in
theorem gL_limit_X6_limit : GoodIn wsL_limit (wsV RL 40 RX6 yX6_limit wsX6_limit) := goodIn_app (goodIn_of _ (by decide +kernel)) ggL_limit_X6_limit
theorem dL_limit_0 : decode cL_limit 0 = .ok (.aload_n 2, 1) := by decide +kernel
theorem dL_limit_1 : decode cL_limit 1 = .ok (.iconst 0, 1) := by decide +kernel
theorem dL_limit_2 : decode cL_limit 2 = .ok (.aload_n 0, 1) := by decide +kernel
theorem dL_limit_3 : decode cL_limit 3 = .ok (.iload_n 1, 1) := by decide +kernel
theorem dL_limit_4 : decode cL_limit 4 = .ok (.invokevirtual 40, 3) := by decide +kernel
theorem dL_limit_7 : decode cL_limit 7 = .ok (.i2l, 1) := by decide +kernel
theorem dL_limit_8 : decode cL_limit 8 = .ok (.lastore, 1) := by decide +kernel
theorem dL_limit_9 : decode cL_limit 9 = .ok (.goto 6, 3) := by decide +kernel
theorem dL_limit_12 : decode cL_limit 12 = .ok (.astore_n 3, 1) := by decide +kernel
theorem dL_limit_13 : decode cL_limit 13 = .ok (.iconst 1, 1) := by decide +kernel
theorem dL_limit_14 : decode cL_limit 14 = .ok (.ireturn, 1) := by decide +kernel
theorem dL_limit_15 : decode cL_limit 15 = .ok (.iconst 0, 1) := by decide +kernel
theorem dL_limit_16 : decode cL_limit 16 = .ok (.ireturn, 1) := by decide +kernel
set_option maxRecDepth 20000 in
theorem ggL_gradient_X6_gradient : GoodIn wsL_gradient wsX6_gradient := goodIn_ca (goodIn_r _ [6, 7, 8, 9, 10, 11, 12, 13, 5, 14, 15, 16, 17, 18, 19, 20, 21, 22, 23, 24, 25, 26, 27, 28, 29, 30, 31, 32, 33, 34, 35, 36, 37, 38, 39, 40, 41] (by decide +kernel) (by decide +kernel)) (goodIn_sub (fun _ h => List.mem_cons_of_mem _ (List.mem_append_right _ h)) (by decide +kernel))
set_option maxRecDepth 20000 in
theorem gL_gradient_X6_gradient : GoodIn wsL_gradient (wsV RL 45 RX6 yX6_gradient wsX6_gradient) := goodIn_app (goodIn_of _ (by decide +kernel)) ggL_gradient_X6_gradient
theorem dL_gradient_0 : decode cL_gradient 0 = .ok (.aload_n 2, 1) := by decide +kernel
theorem dL_gradient_1 : decode cL_gradient 1 = .ok (.iconst 0, 1) := by decide +kernel
theorem dL_gradient_2 : decode cL_gradient 2 = .ok (.aload_n 0, 1) := by decide +kernel
theorem dL_gradient_3 : decode cL_gradient 3 = .ok (.iload_n 1, 1) := by decide +kernel
theorem dL_gradient_4 : decode cL_gradient 4 = .ok (.invokevirtual 45, 3) := by decide +kernel
theorem dL_gradient_7 : decode cL_gradient 7 = .ok (.i2l, 1) := by decide +kernel
theorem dL_gradient_8 : decode cL_gradient 8 = .ok (.lastore, 1) := by decide +kernel
theorem dL_gradient_9 : decode cL_gradient 9 = .ok (.goto 6, 3) := by decide +kernel
theorem dL_gradient_12 : decode cL_gradient 12 = .ok (.astore_n 3, 1) := by decide +kernel
theorem dL_gradient_13 : decode cL_gradient 13 = .ok (.iconst 1, 1) := by decide +kernel
theorem dL_gradient_14 : decode cL_gradient 14 = .ok (.ireturn, 1) := by decide +kernel
theorem dL_gradient_15 : decode cL_gradient 15 = .ok (.iconst 0, 1) := by decide +kernel
theorem dL_gradient_16 : decode cL_gradient 16 = .ok (.ireturn, 1) := by decide +kernel
set_option maxRecDepth 20000 in
theorem ggL_isBarred_X6_isBarred : GoodIn wsL_isBarred wsX6_isBarred := goodIn_ca (goodIn_r _ [6, 7, 8, 9, 10, 11, 12, 13, 5, 14, 15, 16, 17, 18, 19, 20, 21, 22, 23, 24, 25, 26, 27, 28, 29, 30, 31, 32, 33, 34, 35, 36, 37, 38, 39, 40, 41] (by decide +kernel) (by decide +kernel)) (goodIn_sub (fun _ h => List.mem_cons_of_mem _ (List.mem_append_right _ h)) (by decide +kernel))
set_option maxRecDepth 20000 in
theorem gL_isBarred_X6_isBarred : GoodIn wsL_isBarred (wsV RL 48 RX6 yX6_isBarred wsX6_isBarred) := goodIn_app (goodIn_of _ (by decide +kernel)) ggL_isBarred_X6_isBarred
theorem dL_isBarred_0 : decode cL_isBarred 0 = .ok (.aload_n 2, 1) := by decide +kernel
theorem dL_isBarred_1 : decode cL_isBarred 1 = .ok (.iconst 0, 1) := by decide +kernel
theorem dL_isBarred_2 : decode cL_isBarred 2 = .ok (.aload_n 0, 1) := by decide +kernel
theorem dL_isBarred_3 : decode cL_isBarred 3 = .ok (.iload_n 1, 1) := by decide +kernel
theorem dL_isBarred_4 : decode cL_isBarred 4 = .ok (.invokevirtual 48, 3) := by decide +kernel
theorem dL_isBarred_7 : decode cL_isBarred 7 = .ok (.ifCond .eq 7, 3) := by decide +kernel
theorem dL_isBarred_10 : decode cL_isBarred 10 = .ok (.lconst 1, 1) := by decide +kernel
theorem dL_isBarred_11 : decode cL_isBarred 11 = .ok (.goto 4, 3) := by decide +kernel
theorem dL_isBarred_14 : decode cL_isBarred 14 = .ok (.lconst 0, 1) := by decide +kernel
theorem dL_isBarred_15 : decode cL_isBarred 15 = .ok (.lastore, 1) := by decide +kernel
theorem dL_isBarred_16 : decode cL_isBarred 16 = .ok (.goto 6, 3) := by decide +kernel
theorem dL_isBarred_19 : decode cL_isBarred 19 = .ok (.astore_n 3, 1) := by decide +kernel
theorem dL_isBarred_20 : decode cL_isBarred 20 = .ok (.iconst 1, 1) := by decide +kernel
theorem dL_isBarred_21 : decode cL_isBarred 21 = .ok (.ireturn, 1) := by decide +kernel
theorem dL_isBarred_22 : decode cL_isBarred 22 = .ok (.iconst 0, 1) := by decide +kernel
theorem dL_isBarred_23 : decode cL_isBarred 23 = .ok (.ireturn, 1) := by decide +kernel
set_option maxRecDepth 20000 in
theorem ggL_energy_X6_energy : GoodIn wsL_energy wsX6_energy := goodIn_ca (goodIn_r _ [6, 7, 8, 9, 10, 11, 12, 13, 14, 5, 15, 16, 17, 18, 19, 20, 21, 22, 23, 24, 25, 26, 27, 28, 29, 30, 31, 32, 33, 34, 35, 36, 37, 38, 39, 40, 41, 42, 43, 44, 45, 46, 47, 48, 49, 50, 51, 52, 53, 54, 55, 56, 57, 58, 59, 60, 61, 62, 63, 64, 65, 66, 67, 68, 69, 70, 71, 72, 73, 74, 75, 76, 77, 78, 79, 80, 81, 82, 83, 84, 85, 86, 87, 88, 89, 90, 91, 92, 93, 94, 95, 96, 97, 98, 99, 100, 101, 102, 103, 104, 105, 106, 107, 108, 109, 110, 111] (by decide +kernel) (by decide +kernel)) (goodIn_sub (fun _ h => List.mem_cons_of_mem _ (List.mem_append_right _ h)) (by decide +kernel))
set_option maxRecDepth 20000 in
theorem gL_energy_X6_energy : GoodIn wsL_energy (wsV RL 52 RX6 yX6_energy wsX6_energy) := goodIn_app (goodIn_of _ (by decide +kernel)) ggL_energy_X6_energy
theorem dL_energy_0 : decode cL_energy 0 = .ok (.aload_n 2, 1) := by decide +kernel
theorem dL_energy_1 : decode cL_energy 1 = .ok (.iconst 0, 1) := by decide +kernel
theorem dL_energy_2 : decode cL_energy 2 = .ok (.aload_n 0, 1) := by decide +kernel
theorem dL_energy_3 : decode cL_energy 3 = .ok (.iload_n 1, 1) := by decide +kernel
theorem dL_energy_4 : decode cL_energy 4 = .ok (.invokevirtual 52, 3) := by decide +kernel
theorem dL_energy_7 : decode cL_energy 7 = .ok (.lastore, 1) := by decide +kernel
theorem dL_energy_8 : decode cL_energy 8 = .ok (.goto 6, 3) := by decide +kernel
theorem dL_energy_11 : decode cL_energy 11 = .ok (.astore_n 3, 1) := by decide +kernel
theorem dL_energy_12 : decode cL_energy 12 = .ok (.iconst 1, 1) := by decide +kernel
theorem dL_energy_13 : decode cL_energy 13 = .ok (.ireturn, 1) := by decide +kernel
theorem dL_energy_14 : decode cL_energy 14 = .ok (.iconst 0, 1) := by decide +kernel
theorem dL_energy_15 : decode cL_energy 15 = .ok (.ireturn, 1) := by decide +kernel
set_option maxRecDepth 20000 in
theorem ggL_profileSpeed_X6_profileSpeed : GoodIn wsL_profileSpeed wsX6_profileSpeed := goodIn_ca (goodIn_r _ [6, 7, 8, 9, 10, 11, 12, 13, 14, 5, 15, 16, 17, 18, 19, 20, 21, 22, 23, 24, 25, 26, 27, 28, 29, 30, 31, 32, 33, 34, 35, 36, 37, 38, 39, 40, 41, 42, 43, 44, 45, 46, 47, 48, 49, 50, 51, 52, 53, 54, 55, 56, 57, 58, 59, 60, 61, 62, 63, 64, 65, 66, 67, 68, 69, 70, 71, 72, 73, 74, 75, 76, 77, 78, 79, 80, 81, 82, 83, 84, 85, 86, 87, 88, 89, 90, 91, 92, 93, 94, 95, 96, 97, 98, 99, 100, 101, 102, 103, 104, 105, 106, 107, 108, 109, 110, 111] (by decide +kernel) (by decide +kernel)) (goodIn_sub (fun _ h => List.mem_cons_of_mem _ (List.mem_append_right _ h)) (by decide +kernel))
set_option maxRecDepth 20000 in
theorem gL_profileSpeed_X6_profileSpeed : GoodIn wsL_profileSpeed (wsV RL 56 RX6 yX6_profileSpeed wsX6_profileSpeed) := goodIn_app (goodIn_of _ (by decide +kernel)) ggL_profileSpeed_X6_profileSpeed
theorem dL_profileSpeed_0 : decode cL_profileSpeed 0 = .ok (.aload_n 2, 1) := by decide +kernel
theorem dL_profileSpeed_1 : decode cL_profileSpeed 1 = .ok (.iconst 0, 1) := by decide +kernel
theorem dL_profileSpeed_2 : decode cL_profileSpeed 2 = .ok (.aload_n 0, 1) := by decide +kernel
theorem dL_profileSpeed_3 : decode cL_profileSpeed 3 = .ok (.iload_n 1, 1) := by decide +kernel
theorem dL_profileSpeed_4 : decode cL_profileSpeed 4 = .ok (.invokevirtual 56, 3) := by decide +kernel
theorem dL_profileSpeed_7 : decode cL_profileSpeed 7 = .ok (.i2l, 1) := by decide +kernel
theorem dL_profileSpeed_8 : decode cL_profileSpeed 8 = .ok (.lastore, 1) := by decide +kernel
theorem dL_profileSpeed_9 : decode cL_profileSpeed 9 = .ok (.goto 6, 3) := by decide +kernel
theorem dL_profileSpeed_12 : decode cL_profileSpeed 12 = .ok (.astore_n 3, 1) := by decide +kernel
theorem dL_profileSpeed_13 : decode cL_profileSpeed 13 = .ok (.iconst 1, 1) := by decide +kernel
theorem dL_profileSpeed_14 : decode cL_profileSpeed 14 = .ok (.ireturn, 1) := by decide +kernel
theorem dL_profileSpeed_15 : decode cL_profileSpeed 15 = .ok (.iconst 0, 1) := by decide +kernel
theorem dL_profileSpeed_16 : decode cL_profileSpeed 16 = .ok (.ireturn, 1) := by decide +kernel
set_option maxRecDepth 20000 in
theorem ggL_brakingDistance_X6_brakingDistance : GoodIn wsL_brakingDistance wsX6_brakingDistance := goodIn_ca (goodIn_r _ [6, 7, 8, 9, 10, 11, 12, 13, 14, 5, 15, 16, 17, 18, 19, 20, 21, 22, 23, 24, 25, 26, 27, 28, 29, 30, 31, 32, 33, 34, 35, 36, 37, 38, 39, 40, 41, 42, 43, 44, 45, 46, 47, 48, 49, 50, 51, 52, 53, 54, 55, 56, 57, 58, 59, 60, 61, 62, 63, 64, 65, 66, 67, 68, 69, 70, 71, 72, 73, 74, 75, 76, 77, 78, 79, 80, 81, 82, 83, 84, 85, 86, 87, 88, 89, 90, 91, 92, 93, 94, 95, 96, 97, 98, 99, 100, 101, 102, 103, 104, 105, 106, 107, 108, 109, 110, 111] (by decide +kernel) (by decide +kernel)) (goodIn_sub (fun _ h => List.mem_cons_of_mem _ (List.mem_append_right _ h)) (by decide +kernel))
set_option maxRecDepth 20000 in
theorem gL_brakingDistance_X6_brakingDistance : GoodIn wsL_brakingDistance (wsV RL 59 RX6 yX6_brakingDistance wsX6_brakingDistance) := goodIn_app (goodIn_of _ (by decide +kernel)) ggL_brakingDistance_X6_brakingDistance
theorem dL_brakingDistance_0 : decode cL_brakingDistance 0 = .ok (.aload_n 2, 1) := by decide +kernel
theorem dL_brakingDistance_1 : decode cL_brakingDistance 1 = .ok (.iconst 0, 1) := by decide +kernel
theorem dL_brakingDistance_2 : decode cL_brakingDistance 2 = .ok (.aload_n 0, 1) := by decide +kernel
theorem dL_brakingDistance_3 : decode cL_brakingDistance 3 = .ok (.iload_n 1, 1) := by decide +kernel
theorem dL_brakingDistance_4 : decode cL_brakingDistance 4 = .ok (.invokevirtual 59, 3) := by decide +kernel
theorem dL_brakingDistance_7 : decode cL_brakingDistance 7 = .ok (.i2l, 1) := by decide +kernel
theorem dL_brakingDistance_8 : decode cL_brakingDistance 8 = .ok (.lastore, 1) := by decide +kernel
theorem dL_brakingDistance_9 : decode cL_brakingDistance 9 = .ok (.goto 6, 3) := by decide +kernel
theorem dL_brakingDistance_12 : decode cL_brakingDistance 12 = .ok (.astore_n 3, 1) := by decide +kernel
theorem dL_brakingDistance_13 : decode cL_brakingDistance 13 = .ok (.iconst 1, 1) := by decide +kernel
theorem dL_brakingDistance_14 : decode cL_brakingDistance 14 = .ok (.ireturn, 1) := by decide +kernel
theorem dL_brakingDistance_15 : decode cL_brakingDistance 15 = .ok (.iconst 0, 1) := by decide +kernel
theorem dL_brakingDistance_16 : decode cL_brakingDistance 16 = .ok (.ireturn, 1) := by decide +kernel
set_option maxRecDepth 20000 in
theorem ggL_travelTime_X6_travelTime : GoodIn wsL_travelTime wsX6_travelTime := goodIn_ca (goodIn_r _ [6, 7, 8, 9, 10, 11, 12, 13, 5, 14, 15, 16, 17, 18, 19, 20, 21, 22, 23, 24, 25, 26, 27, 28, 29, 30, 31, 32, 33, 34, 35, 36, 37, 38, 39, 40, 41, 42, 43, 44, 45, 46, 47, 48, 49, 50, 51, 52, 53, 54, 55, 56, 57, 58, 59, 60, 61, 62, 63, 64, 65, 66, 67, 68, 69, 70, 71, 72, 73, 74, 75, 76, 77, 78, 79, 80, 81, 82, 83, 84, 85, 86, 87, 88, 89, 90, 91, 92, 93, 94, 95, 96, 97, 98, 99, 100, 101, 102, 103, 104, 105, 106, 107, 108, 109, 110, 111, 112, 113] (by decide +kernel) (by decide +kernel)) (goodIn_sub (fun _ h => List.mem_cons_of_mem _ (List.mem_append_right _ h)) (by decide +kernel))
set_option maxRecDepth 20000 in
theorem gL_travelTime_X6_travelTime : GoodIn wsL_travelTime (wsV RL 62 RX6 yX6_travelTime wsX6_travelTime) := goodIn_app (goodIn_of _ (by decide +kernel)) ggL_travelTime_X6_travelTime
theorem dL_travelTime_0 : decode cL_travelTime 0 = .ok (.aload_n 3, 1) := by decide +kernel
theorem dL_travelTime_1 : decode cL_travelTime 1 = .ok (.iconst 0, 1) := by decide +kernel
theorem dL_travelTime_2 : decode cL_travelTime 2 = .ok (.aload_n 0, 1) := by decide +kernel
theorem dL_travelTime_3 : decode cL_travelTime 3 = .ok (.iload_n 1, 1) := by decide +kernel
theorem dL_travelTime_4 : decode cL_travelTime 4 = .ok (.iload_n 2, 1) := by decide +kernel
theorem dL_travelTime_5 : decode cL_travelTime 5 = .ok (.invokevirtual 62, 3) := by decide +kernel
theorem dL_travelTime_8 : decode cL_travelTime 8 = .ok (.i2l, 1) := by decide +kernel
theorem dL_travelTime_9 : decode cL_travelTime 9 = .ok (.lastore, 1) := by decide +kernel
theorem dL_travelTime_10 : decode cL_travelTime 10 = .ok (.goto 7, 3) := by decide +kernel
theorem dL_travelTime_13 : decode cL_travelTime 13 = .ok (.astore 4, 2) := by decide +kernel
theorem dL_travelTime_15 : decode cL_travelTime 15 = .ok (.iconst 1, 1) := by decide +kernel
theorem dL_travelTime_16 : decode cL_travelTime 16 = .ok (.ireturn, 1) := by decide +kernel
theorem dL_travelTime_17 : decode cL_travelTime 17 = .ok (.iconst 0, 1) := by decide +kernel
theorem dL_travelTime_18 : decode cL_travelTime 18 = .ok (.ireturn, 1) := by decide +kernel
set_option maxRecDepth 20000 in
theorem ggL_addPost_X6_addPost : GoodIn wsL_addPost wsX6_addPost := goodIn_ca (goodIn_ca (goodIn_r _ [7, 8, 9, 10, 11, 12, 13, 14, 15, 6, 16, 17, 18, 19, 20, 21, 22, 23, 24, 25, 26, 27, 28, 29, 30, 31, 32, 33, 34, 35, 36, 37, 38, 39, 40, 41, 42, 43, 44, 45, 46, 47, 48, 49, 50, 51, 52, 53, 54, 55, 56, 57, 58, 59, 60, 61, 62, 63, 64, 65, 66, 67, 68, 69, 70, 71, 72, 73, 74, 75, 76, 77, 78, 79, 80, 81, 82, 83, 84, 85, 86, 87, 88, 89, 90, 91, 92, 93, 94, 95, 96, 97, 98, 99, 100, 101, 102, 103, 104, 105, 106, 107, 108, 109, 110, 111, 112, 113, 114, 115, 116, 117, 118, 119, 120] (by decide +kernel) (by decide +kernel)) (goodIn_sub (fun _ h => List.mem_cons_of_mem _ (List.mem_append_left _ (List.mem_append_right _ h))) (by decide +kernel))) (goodIn_sub (fun _ h => List.mem_cons_of_mem _ (List.mem_append_right _ h)) (by decide +kernel))
set_option maxRecDepth 20000 in
theorem gL_addPost_X6_addPost : GoodIn wsL_addPost (wsV RL 65 RX6 yX6_addPost wsX6_addPost) := goodIn_app (goodIn_of _ (by decide +kernel)) ggL_addPost_X6_addPost
theorem dL_addPost_0 : decode cL_addPost 0 = .ok (.aload_n 2, 1) := by decide +kernel
theorem dL_addPost_1 : decode cL_addPost 1 = .ok (.iconst 0, 1) := by decide +kernel
theorem dL_addPost_2 : decode cL_addPost 2 = .ok (.aload_n 0, 1) := by decide +kernel
theorem dL_addPost_3 : decode cL_addPost 3 = .ok (.iload_n 1, 1) := by decide +kernel
theorem dL_addPost_4 : decode cL_addPost 4 = .ok (.invokevirtual 65, 3) := by decide +kernel
theorem dL_addPost_7 : decode cL_addPost 7 = .ok (.i2l, 1) := by decide +kernel
theorem dL_addPost_8 : decode cL_addPost 8 = .ok (.lastore, 1) := by decide +kernel
theorem dL_addPost_9 : decode cL_addPost 9 = .ok (.goto 9, 3) := by decide +kernel
theorem dL_addPost_12 : decode cL_addPost 12 = .ok (.astore_n 3, 1) := by decide +kernel
theorem dL_addPost_13 : decode cL_addPost 13 = .ok (.iconst 1, 1) := by decide +kernel
theorem dL_addPost_14 : decode cL_addPost 14 = .ok (.ireturn, 1) := by decide +kernel
theorem dL_addPost_15 : decode cL_addPost 15 = .ok (.astore_n 3, 1) := by decide +kernel
theorem dL_addPost_16 : decode cL_addPost 16 = .ok (.iconst 2, 1) := by decide +kernel
theorem dL_addPost_17 : decode cL_addPost 17 = .ok (.ireturn, 1) := by decide +kernel
theorem dL_addPost_18 : decode cL_addPost 18 = .ok (.iconst 0, 1) := by decide +kernel
theorem dL_addPost_19 : decode cL_addPost 19 = .ok (.ireturn, 1) := by decide +kernel
set_option maxRecDepth 20000 in
theorem ggL_removePost_X6_removePost : GoodIn wsL_removePost wsX6_removePost := goodIn_ca (goodIn_ca (goodIn_r _ [7, 8, 9, 10, 11, 12, 13, 14, 15, 16, 6, 17, 18, 19, 20, 21, 22, 23, 24, 25, 26, 27, 28, 29, 30, 31, 32, 33, 34, 35, 36, 37, 38, 39, 40, 41, 42, 43, 44, 45, 46, 47, 48, 49, 50, 51, 52, 53, 54, 55, 56, 57, 58, 59, 60, 61, 62, 63, 64, 65, 66, 67, 68, 69, 70, 71, 72, 73, 74, 75, 76, 77, 78, 79, 80, 81, 82, 83, 84, 85, 86, 87, 88, 89, 90, 91, 92, 93, 94, 95, 96, 97, 98, 99, 100, 101, 102, 103, 104, 105, 106, 107, 108, 109, 110, 111, 112, 113, 114, 115, 116, 117, 118, 119, 120, 121] (by decide +kernel) (by decide +kernel)) (goodIn_sub (fun _ h => List.mem_cons_of_mem _ (List.mem_append_left _ (List.mem_append_right _ h))) (by decide +kernel))) (goodIn_sub (fun _ h => List.mem_cons_of_mem _ (List.mem_append_right _ h)) (by decide +kernel))
set_option maxRecDepth 20000 in
theorem gL_removePost_X6_removePost : GoodIn wsL_removePost (wsV RL 70 RX6 yX6_removePost wsX6_removePost) := goodIn_app (goodIn_of _ (by decide +kernel)) ggL_removePost_X6_removePost
theorem dL_removePost_0 : decode cL_removePost 0 = .ok (.aload_n 2, 1) := by decide +kernel
theorem dL_removePost_1 : decode cL_removePost 1 = .ok (.iconst 0, 1) := by decide +kernel
theorem dL_removePost_2 : decode cL_removePost 2 = .ok (.aload_n 0, 1) := by decide +kernel
theorem dL_removePost_3 : decode cL_removePost 3 = .ok (.iload_n 1, 1) := by decide +kernel
theorem dL_removePost_4 : decode cL_removePost 4 = .ok (.invokevirtual 70, 3) := by decide +kernel
theorem dL_removePost_7 : decode cL_removePost 7 = .ok (.i2l, 1) := by decide +kernel
theorem dL_removePost_8 : decode cL_removePost 8 = .ok (.lastore, 1) := by decide +kernel
theorem dL_removePost_9 : decode cL_removePost 9 = .ok (.goto 9, 3) := by decide +kernel
theorem dL_removePost_12 : decode cL_removePost 12 = .ok (.astore_n 3, 1) := by decide +kernel
theorem dL_removePost_13 : decode cL_removePost 13 = .ok (.iconst 1, 1) := by decide +kernel
theorem dL_removePost_14 : decode cL_removePost 14 = .ok (.ireturn, 1) := by decide +kernel
theorem dL_removePost_15 : decode cL_removePost 15 = .ok (.astore_n 3, 1) := by decide +kernel
theorem dL_removePost_16 : decode cL_removePost 16 = .ok (.iconst 2, 1) := by decide +kernel
theorem dL_removePost_17 : decode cL_removePost 17 = .ok (.ireturn, 1) := by decide +kernel
theorem dL_removePost_18 : decode cL_removePost 18 = .ok (.iconst 0, 1) := by decide +kernel
theorem dL_removePost_19 : decode cL_removePost 19 = .ok (.ireturn, 1) := by decide +kernel
set_option maxRecDepth 20000 in
theorem ggL_post_X6_post : GoodIn wsL_post wsX6_post := goodIn_ca (goodIn_r _ [6, 7, 8, 9, 10, 11, 12, 13, 5, 14, 15, 16, 17, 18, 19, 20, 21, 22, 23, 24, 25, 26, 27, 28, 29, 30, 31, 32, 33, 34, 35, 36, 37, 38, 39, 40, 41] (by decide +kernel) (by decide +kernel)) (goodIn_sub (fun _ h => List.mem_cons_of_mem _ (List.mem_append_right _ h)) (by decide +kernel))
set_option maxRecDepth 20000 in
theorem gL_post_X6_post : GoodIn wsL_post (wsV RL 73 RX6 yX6_post wsX6_post) := goodIn_app (goodIn_of _ (by decide +kernel)) ggL_post_X6_post
theorem dL_post_0 : decode cL_post 0 = .ok (.aload_n 2, 1) := by decide +kernel
theorem dL_post_1 : decode cL_post 1 = .ok (.iconst 0, 1) := by decide +kernel
theorem dL_post_2 : decode cL_post 2 = .ok (.aload_n 0, 1) := by decide +kernel
theorem dL_post_3 : decode cL_post 3 = .ok (.iload_n 1, 1) := by decide +kernel
theorem dL_post_4 : decode cL_post 4 = .ok (.invokevirtual 73, 3) := by decide +kernel
theorem dL_post_7 : decode cL_post 7 = .ok (.i2l, 1) := by decide +kernel
theorem dL_post_8 : decode cL_post 8 = .ok (.lastore, 1) := by decide +kernel
theorem dL_post_9 : decode cL_post 9 = .ok (.goto 6, 3) := by decide +kernel
theorem dL_post_12 : decode cL_post 12 = .ok (.astore_n 3, 1) := by decide +kernel
theorem dL_post_13 : decode cL_post 13 = .ok (.iconst 1, 1) := by decide +kernel
theorem dL_post_14 : decode cL_post 14 = .ok (.ireturn, 1) := by decide +kernel
theorem dL_post_15 : decode cL_post 15 = .ok (.iconst 0, 1) := by decide +kernel
theorem dL_post_16 : decode cL_post 16 = .ok (.ireturn, 1) := by decide +kernel
set_option maxRecDepth 20000 in
theorem ggL_violation_X6_violation : GoodIn wsL_violation wsX6_violation := goodIn_ca (goodIn_r _ [6, 7, 8, 9, 10, 11, 12, 13, 14, 15, 16, 17, 18, 19, 20, 21, 22, 23, 24, 25, 26, 27, 28, 29, 30, 31, 32, 33, 34, 35, 36, 37, 38, 39, 40, 41, 42, 43, 44, 45, 46, 47, 48, 49, 50, 51, 52, 53, 54, 55, 56, 57, 58, 59, 60, 61, 62, 63, 64, 65, 66, 67, 68, 69, 70, 71, 72, 73, 74, 75, 76, 77, 78, 79, 80, 81, 82, 83, 84, 85, 86, 87, 88, 89, 90, 91, 92, 93, 94, 95, 96, 97, 98, 99, 100, 101, 102, 103, 104, 105, 106, 107, 108, 109, 110, 111, 112, 113, 114, 115, 116, 117, 118, 119, 120, 121, 122, 123, 124, 125, 126, 127, 128, 129, 5, 130, 131, 132, 133, 134, 135, 136, 137, 138, 139, 140, 141, 142, 143, 144, 145, 146, 147, 148, 149, 150, 151, 152, 153, 154, 155, 156, 157, 158, 159, 160, 161, 162] (by decide +kernel) (by decide +kernel)) (goodIn_sub (fun _ h => List.mem_cons_of_mem _ (List.mem_append_right _ h)) (by decide +kernel))
set_option maxRecDepth 20000 in
theorem gL_violation_X6_violation : GoodIn wsL_violation (wsV RL 76 RX6 yX6_violation wsX6_violation) := goodIn_app (goodIn_of _ (by decide +kernel)) ggL_violation_X6_violation
theorem dL_violation_0 : decode cL_violation 0 = .ok (.aload_n 2, 1) := by decide +kernel
theorem dL_violation_1 : decode cL_violation 1 = .ok (.iconst 0, 1) := by decide +kernel
theorem dL_violation_2 : decode cL_violation 2 = .ok (.aload_n 0, 1) := by decide +kernel
theorem dL_violation_3 : decode cL_violation 3 = .ok (.iload_n 1, 1) := by decide +kernel
theorem dL_violation_4 : decode cL_violation 4 = .ok (.invokevirtual 76, 3) := by decide +kernel
theorem dL_violation_7 : decode cL_violation 7 = .ok (.i2l, 1) := by decide +kernel
theorem dL_violation_8 : decode cL_violation 8 = .ok (.lastore, 1) := by decide +kernel
theorem dL_violation_9 : decode cL_violation 9 = .ok (.goto 6, 3) := by decide +kernel
theorem dL_violation_12 : decode cL_violation 12 = .ok (.astore_n 3, 1) := by decide +kernel
theorem dL_violation_13 : decode cL_violation 13 = .ok (.iconst 1, 1) := by decide +kernel
theorem dL_violation_14 : decode cL_violation 14 = .ok (.ireturn, 1) := by decide +kernel
theorem dL_violation_15 : decode cL_violation 15 = .ok (.iconst 0, 1) := by decide +kernel
theorem dL_violation_16 : decode cL_violation 16 = .ok (.ireturn, 1) := by decide +kernel
set_option maxRecDepth 20000 in
theorem ggL_design_X6_design : GoodIn wsL_design wsX6_design := goodIn_ca (goodIn_r _ [6, 7, 8, 9, 10, 11, 12, 13, 14, 15, 16, 17, 18, 19, 20, 21, 22, 23, 24, 25, 26, 27, 28, 29, 30, 31, 32, 33, 34, 35, 36, 37, 38, 39, 40, 41, 42, 43, 44, 45, 46, 47, 48, 49, 50, 51, 52, 53, 54, 55, 56, 57, 58, 59, 60, 61, 62, 63, 64, 65, 66, 67, 68, 69, 70, 71, 72, 73, 74, 75, 76, 77, 78, 79, 80, 81, 82, 83, 84, 85, 86, 87, 88, 89, 90, 91, 92, 93, 94, 95, 96, 97, 98, 99, 100, 101, 102, 103, 104, 105, 106, 107, 108, 109, 110, 111, 112, 113, 114, 115, 116, 117, 118, 119, 120, 121, 122, 123, 124, 125, 126, 127, 128, 129, 130, 131, 132, 133, 134, 135, 136, 137, 138, 139, 140, 141, 142, 143, 144, 145, 146, 147, 148, 149, 150, 151, 152, 153, 154, 155, 156, 5, 157, 158, 159, 160, 161, 162, 163, 164, 165, 166, 167, 168, 169, 170, 171, 172, 173, 174, 175, 176, 177, 178, 179, 180, 181, 182, 183, 184, 185, 186, 187, 188, 189, 190, 191, 192, 193, 194, 195, 196, 197, 198, 199, 200, 201, 202, 203, 204, 205, 206, 207, 208, 209, 210, 211, 212, 213, 214, 215, 216, 217, 218, 219, 220, 221, 222, 223, 224, 225, 226, 227, 228, 229, 230, 231, 232] (by decide +kernel) (by decide +kernel)) (goodIn_sub (fun _ h => List.mem_cons_of_mem _ (List.mem_append_right _ h)) (by decide +kernel))
set_option maxRecDepth 20000 in
theorem gL_design_X6_design : GoodIn wsL_design (wsV RL 79 RX6 yX6_design wsX6_design) := goodIn_app (goodIn_of _ (by decide +kernel)) ggL_design_X6_design
theorem dL_design_0 : decode cL_design 0 = .ok (.aload_n 1, 1) := by decide +kernel
theorem dL_design_1 : decode cL_design 1 = .ok (.iconst 0, 1) := by decide +kernel
theorem dL_design_2 : decode cL_design 2 = .ok (.aload_n 0, 1) := by decide +kernel
theorem dL_design_3 : decode cL_design 3 = .ok (.invokevirtual 79, 3) := by decide +kernel
theorem dL_design_6 : decode cL_design 6 = .ok (.i2l, 1) := by decide +kernel
theorem dL_design_7 : decode cL_design 7 = .ok (.lastore, 1) := by decide +kernel
theorem dL_design_8 : decode cL_design 8 = .ok (.goto 6, 3) := by decide +kernel
theorem dL_design_11 : decode cL_design 11 = .ok (.astore_n 2, 1) := by decide +kernel
theorem dL_design_12 : decode cL_design 12 = .ok (.iconst 1, 1) := by decide +kernel
theorem dL_design_13 : decode cL_design 13 = .ok (.ireturn, 1) := by decide +kernel
theorem dL_design_14 : decode cL_design 14 = .ok (.iconst 0, 1) := by decide +kernel
theorem dL_design_15 : decode cL_design 15 = .ok (.ireturn, 1) := by decide +kernel
set_option maxRecDepth 20000 in
theorem ggL_blockTime_X6_blockTime : GoodIn wsL_blockTime wsX6_blockTime := goodIn_ca (goodIn_r _ [6, 7, 8, 9, 10, 11, 12, 13, 5, 14, 15, 16, 17, 18, 19, 20, 21, 22, 23, 24, 25, 26, 27, 28, 29, 30, 31, 32, 33, 34, 35, 36, 37, 38, 39, 40, 41, 42, 43, 44, 45, 46, 47, 48, 49, 50, 51, 52, 53, 54, 55, 56, 57, 58, 59, 60, 61, 62, 63, 64, 65, 66, 67, 68, 69, 70, 71, 72, 73, 74, 75, 76, 77, 78, 79, 80, 81, 82, 83, 84, 85, 86, 87, 88, 89, 90, 91, 92, 93, 94, 95, 96, 97, 98, 99, 100, 101, 102, 103, 104, 105, 106, 107, 108, 109, 110, 111, 112, 113, 114, 115, 116, 117, 118, 119, 120, 121, 122, 123, 124, 125, 126, 127] (by decide +kernel) (by decide +kernel)) (goodIn_sub (fun _ h => List.mem_cons_of_mem _ (List.mem_append_right _ h)) (by decide +kernel))
set_option maxRecDepth 20000 in
theorem gL_blockTime_X6_blockTime : GoodIn wsL_blockTime (wsV RL 83 RX6 yX6_blockTime wsX6_blockTime) := goodIn_app (goodIn_of _ (by decide +kernel)) ggL_blockTime_X6_blockTime
theorem dL_blockTime_0 : decode cL_blockTime 0 = .ok (.aload_n 2, 1) := by decide +kernel
theorem dL_blockTime_1 : decode cL_blockTime 1 = .ok (.iconst 0, 1) := by decide +kernel
theorem dL_blockTime_2 : decode cL_blockTime 2 = .ok (.aload_n 0, 1) := by decide +kernel
theorem dL_blockTime_3 : decode cL_blockTime 3 = .ok (.iload_n 1, 1) := by decide +kernel
theorem dL_blockTime_4 : decode cL_blockTime 4 = .ok (.invokevirtual 83, 3) := by decide +kernel
theorem dL_blockTime_7 : decode cL_blockTime 7 = .ok (.i2l, 1) := by decide +kernel
theorem dL_blockTime_8 : decode cL_blockTime 8 = .ok (.lastore, 1) := by decide +kernel
theorem dL_blockTime_9 : decode cL_blockTime 9 = .ok (.goto 6, 3) := by decide +kernel
theorem dL_blockTime_12 : decode cL_blockTime 12 = .ok (.astore_n 3, 1) := by decide +kernel
theorem dL_blockTime_13 : decode cL_blockTime 13 = .ok (.iconst 1, 1) := by decide +kernel
theorem dL_blockTime_14 : decode cL_blockTime 14 = .ok (.ireturn, 1) := by decide +kernel
theorem dL_blockTime_15 : decode cL_blockTime 15 = .ok (.iconst 0, 1) := by decide +kernel
theorem dL_blockTime_16 : decode cL_blockTime 16 = .ok (.ireturn, 1) := by decide +kernel
set_option maxRecDepth 20000 in
theorem ggL_capacity_X6_capacity : GoodIn wsL_capacity wsX6_capacity := goodIn_ca (goodIn_r _ [6, 7, 8, 9, 10, 11, 12, 13, 14, 15, 16, 17, 18, 19, 20, 21, 22, 23, 24, 25, 26, 27, 28, 29, 30, 31, 32, 33, 34, 35, 36, 37, 38, 39, 40, 41, 42, 43, 44, 45, 46, 47, 48, 49, 50, 51, 52, 53, 54, 55, 56, 57, 58, 59, 60, 61, 62, 63, 64, 65, 66, 67, 68, 69, 70, 71, 72, 73, 74, 75, 76, 77, 78, 79, 80, 81, 82, 83, 84, 85, 86, 87, 88, 89, 90, 91, 92, 93, 94, 95, 96, 97, 98, 99, 100, 101, 102, 103, 104, 105, 106, 107, 108, 109, 110, 111, 112, 113, 114, 115, 116, 117, 118, 119, 120, 121, 122, 123, 124, 125, 126, 127, 128, 129, 130] (by decide +kernel) (by decide +kernel)) (goodIn_sub (fun _ h => List.mem_cons_of_mem _ (List.mem_append_right _ h)) (by decide +kernel))
set_option maxRecDepth 20000 in
theorem gL_capacity_X6_capacity : GoodIn wsL_capacity (wsV RL 86 RX6 yX6_capacity wsX6_capacity) := goodIn_app (goodIn_of _ (by decide +kernel)) ggL_capacity_X6_capacity
theorem dL_capacity_0 : decode cL_capacity 0 = .ok (.aload_n 1, 1) := by decide +kernel
theorem dL_capacity_1 : decode cL_capacity 1 = .ok (.iconst 0, 1) := by decide +kernel
theorem dL_capacity_2 : decode cL_capacity 2 = .ok (.aload_n 0, 1) := by decide +kernel
theorem dL_capacity_3 : decode cL_capacity 3 = .ok (.invokevirtual 86, 3) := by decide +kernel
theorem dL_capacity_6 : decode cL_capacity 6 = .ok (.i2l, 1) := by decide +kernel
theorem dL_capacity_7 : decode cL_capacity 7 = .ok (.lastore, 1) := by decide +kernel
theorem dL_capacity_8 : decode cL_capacity 8 = .ok (.goto 6, 3) := by decide +kernel
theorem dL_capacity_11 : decode cL_capacity 11 = .ok (.astore_n 2, 1) := by decide +kernel
theorem dL_capacity_12 : decode cL_capacity 12 = .ok (.iconst 1, 1) := by decide +kernel
theorem dL_capacity_13 : decode cL_capacity 13 = .ok (.ireturn, 1) := by decide +kernel
theorem dL_capacity_14 : decode cL_capacity 14 = .ok (.iconst 0, 1) := by decide +kernel
theorem dL_capacity_15 : decode cL_capacity 15 = .ok (.ireturn, 1) := by decide +kernel
set_option maxRecDepth 20000 in
theorem ggL_undo_X6_undo : GoodIn wsL_undo wsX6_undo := goodIn_ca (goodIn_r _ [6, 7, 8, 9, 10, 11, 12, 13, 14, 15, 16, 17, 18, 19, 20, 21, 22, 23, 24, 25, 26, 27, 28, 29, 30, 31, 32, 33, 34, 35, 36, 37, 38, 39, 40, 41, 42, 43, 44, 45, 46, 47, 48, 49, 50, 51, 52, 53, 54, 55, 56, 57, 58, 59, 60, 61, 62, 63, 64, 65, 66, 67, 68, 69, 70, 71, 72, 73, 74, 75, 76, 77, 78, 79, 80, 81, 82, 83, 84, 85, 86] (by decide +kernel) (by decide +kernel)) (goodIn_sub (fun _ h => List.mem_cons_of_mem _ (List.mem_append_right _ h)) (by decide +kernel))
set_option maxRecDepth 20000 in
theorem gL_undo_X6_undo : GoodIn wsL_undo (wsV RL 89 RX6 yX6_undo wsX6_undo) := goodIn_app (goodIn_of _ (by decide +kernel)) ggL_undo_X6_undo
theorem dL_undo_0 : decode cL_undo 0 = .ok (.aload_n 1, 1) := by decide +kernel
theorem dL_undo_1 : decode cL_undo 1 = .ok (.iconst 0, 1) := by decide +kernel
theorem dL_undo_2 : decode cL_undo 2 = .ok (.aload_n 0, 1) := by decide +kernel
theorem dL_undo_3 : decode cL_undo 3 = .ok (.invokevirtual 89, 3) := by decide +kernel
theorem dL_undo_6 : decode cL_undo 6 = .ok (.i2l, 1) := by decide +kernel
theorem dL_undo_7 : decode cL_undo 7 = .ok (.lastore, 1) := by decide +kernel
theorem dL_undo_8 : decode cL_undo 8 = .ok (.goto 6, 3) := by decide +kernel
theorem dL_undo_11 : decode cL_undo 11 = .ok (.astore_n 2, 1) := by decide +kernel
theorem dL_undo_12 : decode cL_undo 12 = .ok (.iconst 1, 1) := by decide +kernel
theorem dL_undo_13 : decode cL_undo 13 = .ok (.ireturn, 1) := by decide +kernel
theorem dL_undo_14 : decode cL_undo 14 = .ok (.iconst 0, 1) := by decide +kernel
theorem dL_undo_15 : decode cL_undo 15 = .ok (.ireturn, 1) := by decide +kernel
