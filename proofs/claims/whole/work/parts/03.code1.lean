set_option maxRecDepth 20000 in
theorem ggX0_init_X4_init : GoodIn wsX0_init wsX4_init := goodIn_r _ [10, 11, 2, 3, 12, 13, 14, 15, 16, 17, 18, 19, 20, 21, 22, 23, 24, 25, 26, 27, 28, 29, 30, 31, 32, 33, 34, 35, 36, 7, 37, 38, 39, 40, 41, 42, 43, 62, 47, 48, 49, 50, 51, 52, 53, 54, 55, 56, 57, 58, 59, 60, 61] (by decide +kernel) (by decide +kernel)
set_option maxRecDepth 20000 in
theorem gX0_init_X4_init : GoodIn wsX0_init (wsX4_init) := ggX0_init_X4_init
theorem dX0_init_0 : decode cX0_init 0 = .ok (.aload_n 0, 1) := by decide +kernel
theorem dX0_init_1 : decode cX0_init 1 = .ok (.invokespecial 3, 3) := by decide +kernel
theorem dX0_init_4 : decode cX0_init 4 = .ok (.aload_n 0, 1) := by decide +kernel
theorem dX0_init_5 : decode cX0_init 5 = .ok (.iconst 4, 1) := by decide +kernel
theorem dX0_init_6 : decode cX0_init 6 = .ok (.anewarray 9, 3) := by decide +kernel
theorem dX0_init_9 : decode cX0_init 9 = .ok (.putfield 11, 3) := by decide +kernel
theorem dX0_init_12 : decode cX0_init 12 = .ok (.iconst 0, 1) := by decide +kernel
theorem dX0_init_13 : decode cX0_init 13 = .ok (.istore_n 1, 1) := by decide +kernel
theorem dX0_init_14 : decode cX0_init 14 = .ok (.iload_n 1, 1) := by decide +kernel
theorem dX0_init_15 : decode cX0_init 15 = .ok (.aload_n 0, 1) := by decide +kernel
theorem dX0_init_16 : decode cX0_init 16 = .ok (.getfield 11, 3) := by decide +kernel
theorem dX0_init_19 : decode cX0_init 19 = .ok (.arraylength, 1) := by decide +kernel
theorem dX0_init_20 : decode cX0_init 20 = .ok (.if_icmp .ge 22, 3) := by decide +kernel
theorem dX0_init_23 : decode cX0_init 23 = .ok (.aload_n 0, 1) := by decide +kernel
theorem dX0_init_24 : decode cX0_init 24 = .ok (.getfield 11, 3) := by decide +kernel
theorem dX0_init_27 : decode cX0_init 27 = .ok (.iload_n 1, 1) := by decide +kernel
theorem dX0_init_28 : decode cX0_init 28 = .ok (.new 9, 3) := by decide +kernel
theorem dX0_init_31 : decode cX0_init 31 = .ok (.dup, 1) := by decide +kernel
theorem dX0_init_32 : decode cX0_init 32 = .ok (.invokespecial 17, 3) := by decide +kernel
theorem dX0_init_35 : decode cX0_init 35 = .ok (.aastore, 1) := by decide +kernel
theorem dX0_init_36 : decode cX0_init 36 = .ok (.iinc 1 1, 3) := by decide +kernel
theorem dX0_init_39 : decode cX0_init 39 = .ok (.goto (-25), 3) := by decide +kernel
theorem dX0_init_42 : decode cX0_init 42 = .ok (.return_, 1) := by decide +kernel
set_option maxRecDepth 20000 in
theorem ggX0_push_X0_latestSlot : GoodIn wsX0_push wsX0_latestSlot := goodIn_r _ [11, 1, 12, 39, 40, 41] (by decide +kernel) (by decide +kernel)
set_option maxRecDepth 20000 in
theorem gX0_push_X0_latestSlot : GoodIn wsX0_push (wsV RX0 22 RX0 yX0_latestSlot wsX0_latestSlot) := goodIn_app (goodIn_of _ (by decide +kernel)) ggX0_push_X0_latestSlot
set_option maxRecDepth 20000 in
theorem ggX0_push_X4_copy : GoodIn wsX0_push wsX4_copy := goodIn_r _ [17, 18, 19, 20, 21, 22, 23, 24, 25, 26, 27, 28, 29, 30, 31, 32, 33, 34, 35, 36, 37, 38, 42, 43, 44, 45, 46, 47, 48, 49, 50, 51, 52, 53, 54, 55, 56, 57] (by decide +kernel) (by decide +kernel)
set_option maxRecDepth 20000 in
theorem gX0_push_X4_copy : GoodIn wsX0_push (wsV RX0 26 RX4 yX4_copy wsX4_copy) := goodIn_app (goodIn_of _ (by decide +kernel)) ggX0_push_X4_copy
theorem dX0_push_0 : decode cX0_push 0 = .ok (.aload_n 0, 1) := by decide +kernel
theorem dX0_push_1 : decode cX0_push 1 = .ok (.aload_n 0, 1) := by decide +kernel
theorem dX0_push_2 : decode cX0_push 2 = .ok (.getfield 18, 3) := by decide +kernel
theorem dX0_push_5 : decode cX0_push 5 = .ok (.iconst 1, 1) := by decide +kernel
theorem dX0_push_6 : decode cX0_push 6 = .ok (.iadd, 1) := by decide +kernel
theorem dX0_push_7 : decode cX0_push 7 = .ok (.iconst 4, 1) := by decide +kernel
theorem dX0_push_8 : decode cX0_push 8 = .ok (.if_icmp .ge 12, 3) := by decide +kernel
theorem dX0_push_11 : decode cX0_push 11 = .ok (.aload_n 0, 1) := by decide +kernel
theorem dX0_push_12 : decode cX0_push 12 = .ok (.getfield 18, 3) := by decide +kernel
theorem dX0_push_15 : decode cX0_push 15 = .ok (.iconst 1, 1) := by decide +kernel
theorem dX0_push_16 : decode cX0_push 16 = .ok (.iadd, 1) := by decide +kernel
theorem dX0_push_17 : decode cX0_push 17 = .ok (.goto 4, 3) := by decide +kernel
theorem dX0_push_20 : decode cX0_push 20 = .ok (.iconst 0, 1) := by decide +kernel
theorem dX0_push_21 : decode cX0_push 21 = .ok (.putfield 18, 3) := by decide +kernel
theorem dX0_push_24 : decode cX0_push 24 = .ok (.aload_n 0, 1) := by decide +kernel
theorem dX0_push_25 : decode cX0_push 25 = .ok (.invokevirtual 22, 3) := by decide +kernel
theorem dX0_push_28 : decode cX0_push 28 = .ok (.astore_n 2, 1) := by decide +kernel
theorem dX0_push_29 : decode cX0_push 29 = .ok (.aload_n 2, 1) := by decide +kernel
theorem dX0_push_30 : decode cX0_push 30 = .ok (.ifnull 22, 3) := by decide +kernel
theorem dX0_push_33 : decode cX0_push 33 = .ok (.aload_n 2, 1) := by decide +kernel
theorem dX0_push_34 : decode cX0_push 34 = .ok (.aload_n 1, 1) := by decide +kernel
theorem dX0_push_35 : decode cX0_push 35 = .ok (.invokevirtual 26, 3) := by decide +kernel
theorem dX0_push_38 : decode cX0_push 38 = .ok (.aload_n 0, 1) := by decide +kernel
theorem dX0_push_39 : decode cX0_push 39 = .ok (.aload_n 0, 1) := by decide +kernel
theorem dX0_push_40 : decode cX0_push 40 = .ok (.getfield 30, 3) := by decide +kernel
theorem dX0_push_43 : decode cX0_push 43 = .ok (.iconst 1, 1) := by decide +kernel
theorem dX0_push_44 : decode cX0_push 44 = .ok (.iadd, 1) := by decide +kernel
theorem dX0_push_45 : decode cX0_push 45 = .ok (.iconst 4, 1) := by decide +kernel
theorem dX0_push_46 : decode cX0_push 46 = .ok (.invokestatic 33, 3) := by decide +kernel
theorem dX0_push_49 : decode cX0_push 49 = .ok (.putfield 30, 3) := by decide +kernel
theorem dX0_push_52 : decode cX0_push 52 = .ok (.return_, 1) := by decide +kernel
set_option maxRecDepth 20000 in
theorem ggX0_pop_X0_latestSlot : GoodIn wsX0_pop wsX0_latestSlot := goodIn_r _ [7, 2, 8, 35, 36, 37] (by decide +kernel) (by decide +kernel)
set_option maxRecDepth 20000 in
theorem gX0_pop_X0_latestSlot : GoodIn wsX0_pop (wsV RX0 22 RX0 yX0_latestSlot wsX0_latestSlot) := goodIn_app (goodIn_of _ (by decide +kernel)) ggX0_pop_X0_latestSlot
set_option maxRecDepth 20000 in
theorem ggX0_pop_X4_copy : GoodIn wsX0_pop wsX4_copy := goodIn_r _ [13, 14, 15, 16, 17, 18, 19, 20, 21, 22, 23, 24, 25, 26, 27, 28, 29, 30, 31, 32, 33, 34, 38, 39, 40, 41, 42, 43, 44, 45, 46, 47, 48, 49, 50, 51, 52, 53] (by decide +kernel) (by decide +kernel)
set_option maxRecDepth 20000 in
theorem gX0_pop_X4_copy : GoodIn wsX0_pop (wsV RX0 26 RX4 yX4_copy wsX4_copy) := goodIn_app (goodIn_of _ (by decide +kernel)) ggX0_pop_X4_copy
theorem dX0_pop_0 : decode cX0_pop 0 = .ok (.aload_n 0, 1) := by decide +kernel
theorem dX0_pop_1 : decode cX0_pop 1 = .ok (.invokevirtual 22, 3) := by decide +kernel
theorem dX0_pop_4 : decode cX0_pop 4 = .ok (.astore_n 2, 1) := by decide +kernel
theorem dX0_pop_5 : decode cX0_pop 5 = .ok (.aload_n 2, 1) := by decide +kernel
theorem dX0_pop_6 : decode cX0_pop 6 = .ok (.ifnull 46, 3) := by decide +kernel
theorem dX0_pop_9 : decode cX0_pop 9 = .ok (.aload_n 0, 1) := by decide +kernel
theorem dX0_pop_10 : decode cX0_pop 10 = .ok (.getfield 30, 3) := by decide +kernel
theorem dX0_pop_13 : decode cX0_pop 13 = .ok (.ifCond .le 39, 3) := by decide +kernel
theorem dX0_pop_16 : decode cX0_pop 16 = .ok (.aload_n 1, 1) := by decide +kernel
theorem dX0_pop_17 : decode cX0_pop 17 = .ok (.aload_n 2, 1) := by decide +kernel
theorem dX0_pop_18 : decode cX0_pop 18 = .ok (.invokevirtual 26, 3) := by decide +kernel
theorem dX0_pop_21 : decode cX0_pop 21 = .ok (.aload_n 0, 1) := by decide +kernel
theorem dX0_pop_22 : decode cX0_pop 22 = .ok (.dup, 1) := by decide +kernel
theorem dX0_pop_23 : decode cX0_pop 23 = .ok (.getfield 30, 3) := by decide +kernel
theorem dX0_pop_26 : decode cX0_pop 26 = .ok (.iconst 1, 1) := by decide +kernel
theorem dX0_pop_27 : decode cX0_pop 27 = .ok (.isub, 1) := by decide +kernel
theorem dX0_pop_28 : decode cX0_pop 28 = .ok (.putfield 30, 3) := by decide +kernel
theorem dX0_pop_31 : decode cX0_pop 31 = .ok (.aload_n 0, 1) := by decide +kernel
theorem dX0_pop_32 : decode cX0_pop 32 = .ok (.aload_n 0, 1) := by decide +kernel
theorem dX0_pop_33 : decode cX0_pop 33 = .ok (.getfield 18, 3) := by decide +kernel
theorem dX0_pop_36 : decode cX0_pop 36 = .ok (.ifCond .le 12, 3) := by decide +kernel
theorem dX0_pop_39 : decode cX0_pop 39 = .ok (.aload_n 0, 1) := by decide +kernel
theorem dX0_pop_40 : decode cX0_pop 40 = .ok (.getfield 18, 3) := by decide +kernel
theorem dX0_pop_43 : decode cX0_pop 43 = .ok (.iconst 1, 1) := by decide +kernel
theorem dX0_pop_44 : decode cX0_pop 44 = .ok (.isub, 1) := by decide +kernel
theorem dX0_pop_45 : decode cX0_pop 45 = .ok (.goto 4, 3) := by decide +kernel
theorem dX0_pop_48 : decode cX0_pop 48 = .ok (.iconst 3, 1) := by decide +kernel
theorem dX0_pop_49 : decode cX0_pop 49 = .ok (.putfield 18, 3) := by decide +kernel
theorem dX0_pop_52 : decode cX0_pop 52 = .ok (.return_, 1) := by decide +kernel
theorem dX0_latestSlot_0 : decode cX0_latestSlot 0 = .ok (.aload_n 0, 1) := by decide +kernel
theorem dX0_latestSlot_1 : decode cX0_latestSlot 1 = .ok (.getfield 18, 3) := by decide +kernel
theorem dX0_latestSlot_4 : decode cX0_latestSlot 4 = .ok (.ifCond .lt 27, 3) := by decide +kernel
theorem dX0_latestSlot_7 : decode cX0_latestSlot 7 = .ok (.aload_n 0, 1) := by decide +kernel
theorem dX0_latestSlot_8 : decode cX0_latestSlot 8 = .ok (.getfield 18, 3) := by decide +kernel
theorem dX0_latestSlot_11 : decode cX0_latestSlot 11 = .ok (.aload_n 0, 1) := by decide +kernel
theorem dX0_latestSlot_12 : decode cX0_latestSlot 12 = .ok (.getfield 11, 3) := by decide +kernel
theorem dX0_latestSlot_15 : decode cX0_latestSlot 15 = .ok (.arraylength, 1) := by decide +kernel
theorem dX0_latestSlot_16 : decode cX0_latestSlot 16 = .ok (.if_icmp .ge 15, 3) := by decide +kernel
theorem dX0_latestSlot_19 : decode cX0_latestSlot 19 = .ok (.aload_n 0, 1) := by decide +kernel
theorem dX0_latestSlot_20 : decode cX0_latestSlot 20 = .ok (.getfield 11, 3) := by decide +kernel
theorem dX0_latestSlot_23 : decode cX0_latestSlot 23 = .ok (.aload_n 0, 1) := by decide +kernel
theorem dX0_latestSlot_24 : decode cX0_latestSlot 24 = .ok (.getfield 18, 3) := by decide +kernel
theorem dX0_latestSlot_27 : decode cX0_latestSlot 27 = .ok (.aaload, 1) := by decide +kernel
theorem dX0_latestSlot_28 : decode cX0_latestSlot 28 = .ok (.goto 4, 3) := by decide +kernel
theorem dX0_latestSlot_31 : decode cX0_latestSlot 31 = .ok (.aconst_null, 1) := by decide +kernel
theorem dX0_latestSlot_32 : decode cX0_latestSlot 32 = .ok (.areturn, 1) := by decide +kernel
set_option maxRecDepth 20000 in
theorem ggX1_init_X3_init : GoodIn wsX1_init wsX3_init := goodIn_r _ [14, 15, 2, 3, 16, 17, 18] (by decide +kernel) (by decide +kernel)
set_option maxRecDepth 20000 in
theorem gX1_init_X3_init : GoodIn wsX1_init (wsX3_init) := ggX1_init_X3_init
theorem dX1_init_0 : decode cX1_init 0 = .ok (.aload_n 0, 1) := by decide +kernel
theorem dX1_init_1 : decode cX1_init 1 = .ok (.invokespecial 3, 3) := by decide +kernel
theorem dX1_init_4 : decode cX1_init 4 = .ok (.aload_n 0, 1) := by decide +kernel
theorem dX1_init_5 : decode cX1_init 5 = .ok (.new 9, 3) := by decide +kernel
theorem dX1_init_8 : decode cX1_init 8 = .ok (.dup, 1) := by decide +kernel
theorem dX1_init_9 : decode cX1_init 9 = .ok (.bipush 121, 2) := by decide +kernel
theorem dX1_init_11 : decode cX1_init 11 = .ok (.invokespecial 11, 3) := by decide +kernel
theorem dX1_init_14 : decode cX1_init 14 = .ok (.putfield 14, 3) := by decide +kernel
theorem dX1_init_17 : decode cX1_init 17 = .ok (.aload_n 0, 1) := by decide +kernel
theorem dX1_init_18 : decode cX1_init 18 = .ok (.new 9, 3) := by decide +kernel
theorem dX1_init_21 : decode cX1_init 21 = .ok (.dup, 1) := by decide +kernel
theorem dX1_init_22 : decode cX1_init 22 = .ok (.sipush 14520, 3) := by decide +kernel
theorem dX1_init_25 : decode cX1_init 25 = .ok (.invokespecial 11, 3) := by decide +kernel
theorem dX1_init_28 : decode cX1_init 28 = .ok (.putfield 20, 3) := by decide +kernel
theorem dX1_init_31 : decode cX1_init 31 = .ok (.aload_n 0, 1) := by decide +kernel
theorem dX1_init_32 : decode cX1_init 32 = .ok (.new 9, 3) := by decide +kernel
theorem dX1_init_35 : decode cX1_init 35 = .ok (.dup, 1) := by decide +kernel
theorem dX1_init_36 : decode cX1_init 36 = .ok (.bipush 121, 2) := by decide +kernel
theorem dX1_init_38 : decode cX1_init 38 = .ok (.invokespecial 11, 3) := by decide +kernel
theorem dX1_init_41 : decode cX1_init 41 = .ok (.putfield 23, 3) := by decide +kernel
theorem dX1_init_44 : decode cX1_init 44 = .ok (.aload_n 0, 1) := by decide +kernel
theorem dX1_init_45 : decode cX1_init 45 = .ok (.aload_n 1, 1) := by decide +kernel
theorem dX1_init_46 : decode cX1_init 46 = .ok (.putfield 26, 3) := by decide +kernel
theorem dX1_init_49 : decode cX1_init 49 = .ok (.aload_n 0, 1) := by decide +kernel
theorem dX1_init_50 : decode cX1_init 50 = .ok (.aload_n 2, 1) := by decide +kernel
theorem dX1_init_51 : decode cX1_init 51 = .ok (.putfield 30, 3) := by decide +kernel
theorem dX1_init_54 : decode cX1_init 54 = .ok (.return_, 1) := by decide +kernel
set_option maxRecDepth 20000 in
theorem ggX1_plan_X1_markOpen : GoodIn wsX1_plan wsX1_markOpen := goodIn_r _ [8, 1, 2, 9, 10, 11, 3, 12, 13, 14, 15, 16, 17, 18, 19, 20, 21, 22, 23, 24, 25, 26, 27, 28, 29, 30, 31, 32, 33, 34, 83, 84, 85, 86, 87, 88, 89, 90, 91, 92, 93, 94, 95, 96, 97, 98, 99, 100, 101, 102, 103, 104, 105, 106, 107, 108, 109] (by decide +kernel) (by decide +kernel)
set_option maxRecDepth 20000 in
theorem gX1_plan_X1_markOpen : GoodIn wsX1_plan (wsV RX1 34 RX1 yX1_markOpen wsX1_markOpen) := goodIn_app (goodIn_of _ (by decide +kernel)) ggX1_plan_X1_markOpen
set_option maxRecDepth 20000 in
theorem ggX1_plan_X1_weigh : GoodIn wsX1_plan wsX1_weigh := goodIn_r _ [38, 1, 2, 39, 40, 41, 42, 43, 44, 45, 46, 7, 47, 48, 49, 50, 51, 52, 53, 54, 55, 56, 25, 26, 27, 28, 29, 57, 58, 59, 60, 61, 11, 30, 62, 63, 64, 65, 9, 10, 66, 67, 68, 69, 70, 71, 72, 73, 31, 32, 33, 34, 83, 84, 85, 86, 87, 88, 89, 90, 91, 92, 93, 94, 95, 96, 97, 98, 99, 100, 101, 102, 109, 103, 104, 105, 106, 107, 108] (by decide +kernel) (by decide +kernel)
set_option maxRecDepth 20000 in
theorem gX1_plan_X1_weigh : GoodIn wsX1_plan (wsV RX1 43 RX1 yX1_weigh wsX1_weigh) := goodIn_app (goodIn_of _ (by decide +kernel)) ggX1_plan_X1_weigh
set_option maxRecDepth 20000 in
theorem ggX1_plan_X1_earliestBehind : GoodIn wsX1_plan wsX1_earliestBehind := goodIn_r _ [65, 1, 9, 10, 66, 30, 25, 26, 27, 28, 29, 83, 84, 85, 86, 87, 88, 89, 90, 91, 92, 93, 94, 95, 96, 97, 98, 99, 100, 101, 102, 103, 104, 105, 106, 107, 108, 109] (by decide +kernel) (by decide +kernel)
set_option maxRecDepth 20000 in
theorem gX1_plan_X1_earliestBehind : GoodIn wsX1_plan (wsV RX1 46 RX1 yX1_earliestBehind wsX1_earliestBehind) := goodIn_app (goodIn_of _ (by decide +kernel)) ggX1_plan_X1_earliestBehind
set_option maxRecDepth 20000 in
theorem ggX1_plan_X1_fewestBehind : GoodIn wsX1_plan wsX1_fewestBehind := goodIn_r _ [70, 1, 2, 43, 71, 72, 41, 73, 30, 25, 26, 27, 28, 29, 83, 84, 85, 86, 87, 88, 89, 90, 91, 92, 93, 94, 95, 96, 97, 98, 99, 100, 101, 102, 109] (by decide +kernel) (by decide +kernel)
set_option maxRecDepth 20000 in
theorem gX1_plan_X1_fewestBehind : GoodIn wsX1_plan (wsV RX1 50 RX1 yX1_fewestBehind wsX1_fewestBehind) := goodIn_app (goodIn_of _ (by decide +kernel)) ggX1_plan_X1_fewestBehind
set_option maxRecDepth 20000 in
theorem ggX1_plan_X3_at : GoodIn wsX1_plan wsX3_at := goodIn_r _ [28, 29, 109] (by decide +kernel) (by decide +kernel)
set_option maxRecDepth 20000 in
theorem gX1_plan_X3_at : GoodIn wsX1_plan (wsV RX1 56 RX3 yX3_at wsX3_at) := goodIn_app (goodIn_of _ (by decide +kernel)) ggX1_plan_X3_at
set_option maxRecDepth 20000 in
theorem ggX1_plan_X1_trace : GoodIn wsX1_plan wsX1_trace := goodIn_r _ [77, 78, 31, 32, 33, 27, 34, 29, 62, 63, 64, 7, 65, 1, 9, 10, 66, 30, 25, 26, 28, 79, 80, 81, 82, 71, 72, 41, 73, 67, 68, 69, 70, 2, 43, 44, 45, 46, 47, 48, 39, 40, 42, 49, 50, 51, 52, 53, 54, 55, 56, 57, 58, 59, 60, 61, 11, 83, 84, 85, 86, 87, 109, 88, 89, 90, 91, 92, 93, 94, 95, 96, 97, 98, 99, 100, 101, 102, 103, 104, 105, 106, 107, 108] (by decide +kernel) (by decide +kernel)
set_option maxRecDepth 20000 in
theorem gX1_plan_X1_trace : GoodIn wsX1_plan (wsV RX1 60 RX1 yX1_trace wsX1_trace) := goodIn_app (goodIn_of _ (by decide +kernel)) ggX1_plan_X1_trace
theorem dX1_plan_0 : decode cX1_plan 0 = .ok (.aload_n 0, 1) := by decide +kernel
theorem dX1_plan_1 : decode cX1_plan 1 = .ok (.invokevirtual 34, 3) := by decide +kernel
theorem dX1_plan_4 : decode cX1_plan 4 = .ok (.aload_n 0, 1) := by decide +kernel
theorem dX1_plan_5 : decode cX1_plan 5 = .ok (.getfield 26, 3) := by decide +kernel
theorem dX1_plan_8 : decode cX1_plan 8 = .ok (.getfield 37, 3) := by decide +kernel
theorem dX1_plan_11 : decode cX1_plan 11 = .ok (.iconst 1, 1) := by decide +kernel
theorem dX1_plan_12 : decode cX1_plan 12 = .ok (.isub, 1) := by decide +kernel
theorem dX1_plan_13 : decode cX1_plan 13 = .ok (.istore_n 1, 1) := by decide +kernel
theorem dX1_plan_14 : decode cX1_plan 14 = .ok (.iload_n 1, 1) := by decide +kernel
theorem dX1_plan_15 : decode cX1_plan 15 = .ok (.ifCond .lt 14, 3) := by decide +kernel
theorem dX1_plan_18 : decode cX1_plan 18 = .ok (.aload_n 0, 1) := by decide +kernel
theorem dX1_plan_19 : decode cX1_plan 19 = .ok (.iload_n 1, 1) := by decide +kernel
theorem dX1_plan_20 : decode cX1_plan 20 = .ok (.invokevirtual 43, 3) := by decide +kernel
theorem dX1_plan_23 : decode cX1_plan 23 = .ok (.iinc 1 (-1), 3) := by decide +kernel
theorem dX1_plan_26 : decode cX1_plan 26 = .ok (.goto (-12), 3) := by decide +kernel
theorem dX1_plan_29 : decode cX1_plan 29 = .ok (.iconst 1, 1) := by decide +kernel
theorem dX1_plan_30 : decode cX1_plan 30 = .ok (.aload_n 0, 1) := by decide +kernel
theorem dX1_plan_31 : decode cX1_plan 31 = .ok (.iconst 0, 1) := by decide +kernel
theorem dX1_plan_32 : decode cX1_plan 32 = .ok (.aload_n 0, 1) := by decide +kernel
theorem dX1_plan_33 : decode cX1_plan 33 = .ok (.iconst (-1), 1) := by decide +kernel
theorem dX1_plan_34 : decode cX1_plan 34 = .ok (.iconst 0, 1) := by decide +kernel
theorem dX1_plan_35 : decode cX1_plan 35 = .ok (.invokevirtual 46, 3) := by decide +kernel
theorem dX1_plan_38 : decode cX1_plan 38 = .ok (.invokevirtual 50, 3) := by decide +kernel
theorem dX1_plan_41 : decode cX1_plan 41 = .ok (.iadd, 1) := by decide +kernel
theorem dX1_plan_42 : decode cX1_plan 42 = .ok (.istore_n 1, 1) := by decide +kernel
theorem dX1_plan_43 : decode cX1_plan 43 = .ok (.iload_n 1, 1) := by decide +kernel
theorem dX1_plan_44 : decode cX1_plan 44 = .ok (.sipush 1000, 3) := by decide +kernel
theorem dX1_plan_47 : decode cX1_plan 47 = .ok (.if_icmp .gt 18, 3) := by decide +kernel
theorem dX1_plan_50 : decode cX1_plan 50 = .ok (.aload_n 0, 1) := by decide +kernel
theorem dX1_plan_51 : decode cX1_plan 51 = .ok (.getfield 26, 3) := by decide +kernel
theorem dX1_plan_54 : decode cX1_plan 54 = .ok (.getfield 53, 3) := by decide +kernel
theorem dX1_plan_57 : decode cX1_plan 57 = .ok (.iconst 0, 1) := by decide +kernel
theorem dX1_plan_58 : decode cX1_plan 58 = .ok (.invokevirtual 56, 3) := by decide +kernel
theorem dX1_plan_61 : decode cX1_plan 61 = .ok (.iconst 1, 1) := by decide +kernel
theorem dX1_plan_62 : decode cX1_plan 62 = .ok (.if_icmp .ne 5, 3) := by decide +kernel
theorem dX1_plan_65 : decode cX1_plan 65 = .ok (.iconst (-1), 1) := by decide +kernel
theorem dX1_plan_66 : decode cX1_plan 66 = .ok (.ireturn, 1) := by decide +kernel
theorem dX1_plan_67 : decode cX1_plan 67 = .ok (.aload_n 0, 1) := by decide +kernel
theorem dX1_plan_68 : decode cX1_plan 68 = .ok (.iload_n 1, 1) := by decide +kernel
theorem dX1_plan_69 : decode cX1_plan 69 = .ok (.invokevirtual 60, 3) := by decide +kernel
theorem dX1_plan_72 : decode cX1_plan 72 = .ok (.iload_n 1, 1) := by decide +kernel
theorem dX1_plan_73 : decode cX1_plan 73 = .ok (.ireturn, 1) := by decide +kernel
set_option maxRecDepth 20000 in
theorem ggX1_markOpen_X2_stopsInSight : GoodIn wsX1_markOpen wsX2_stopsInSight := goodIn_r _ [11, 12, 13, 14, 15, 10, 16, 17, 18, 19, 20, 21, 22, 23, 24, 50, 51, 52, 53, 54, 55, 35, 36, 37, 38, 39, 40, 41, 42, 43, 44, 45, 46, 47, 48, 49, 56] (by decide +kernel) (by decide +kernel)
set_option maxRecDepth 20000 in
theorem gX1_markOpen_X2_stopsInSight : GoodIn wsX1_markOpen (wsV RX1 66 RX2 yX2_stopsInSight wsX2_stopsInSight) := goodIn_app (goodIn_of _ (by decide +kernel)) ggX1_markOpen_X2_stopsInSight
set_option maxRecDepth 20000 in
theorem ggX1_markOpen_X3_at : GoodIn wsX1_markOpen wsX3_at := goodIn_r _ [23, 24, 56] (by decide +kernel) (by decide +kernel)
set_option maxRecDepth 20000 in
theorem gX1_markOpen_X3_at : GoodIn wsX1_markOpen (wsV RX1 56 RX3 yX3_at wsX3_at) := goodIn_app (goodIn_of _ (by decide +kernel)) ggX1_markOpen_X3_at
set_option maxRecDepth 20000 in
theorem ggX1_markOpen_X3_put : GoodIn wsX1_markOpen wsX3_put := goodIn_r _ [29, 24, 56] (by decide +kernel) (by decide +kernel)
set_option maxRecDepth 20000 in
theorem gX1_markOpen_X3_put : GoodIn wsX1_markOpen (wsV RX1 72 RX3 yX3_put wsX3_put) := goodIn_app (goodIn_of _ (by decide +kernel)) ggX1_markOpen_X3_put
theorem dX1_markOpen_0 : decode cX1_markOpen 0 = .ok (.iconst 1, 1) := by decide +kernel
theorem dX1_markOpen_1 : decode cX1_markOpen 1 = .ok (.istore_n 1, 1) := by decide +kernel
theorem dX1_markOpen_2 : decode cX1_markOpen 2 = .ok (.iload_n 1, 1) := by decide +kernel
theorem dX1_markOpen_3 : decode cX1_markOpen 3 = .ok (.aload_n 0, 1) := by decide +kernel
theorem dX1_markOpen_4 : decode cX1_markOpen 4 = .ok (.getfield 26, 3) := by decide +kernel
theorem dX1_markOpen_7 : decode cX1_markOpen 7 = .ok (.getfield 37, 3) := by decide +kernel
theorem dX1_markOpen_10 : decode cX1_markOpen 10 = .ok (.if_icmp .gt 68, 3) := by decide +kernel
theorem dX1_markOpen_13 : decode cX1_markOpen 13 = .ok (.aload_n 0, 1) := by decide +kernel
theorem dX1_markOpen_14 : decode cX1_markOpen 14 = .ok (.getfield 26, 3) := by decide +kernel
theorem dX1_markOpen_17 : decode cX1_markOpen 17 = .ok (.getfield 63, 3) := by decide +kernel
theorem dX1_markOpen_20 : decode cX1_markOpen 20 = .ok (.iconst 2, 1) := by decide +kernel
theorem dX1_markOpen_21 : decode cX1_markOpen 21 = .ok (.if_icmp .ne 14, 3) := by decide +kernel
theorem dX1_markOpen_24 : decode cX1_markOpen 24 = .ok (.aload_n 0, 1) := by decide +kernel
theorem dX1_markOpen_25 : decode cX1_markOpen 25 = .ok (.getfield 30, 3) := by decide +kernel
theorem dX1_markOpen_28 : decode cX1_markOpen 28 = .ok (.iload_n 1, 1) := by decide +kernel
theorem dX1_markOpen_29 : decode cX1_markOpen 29 = .ok (.invokevirtual 66, 3) := by decide +kernel
theorem dX1_markOpen_32 : decode cX1_markOpen 32 = .ok (.ifCond .eq 7, 3) := by decide +kernel
theorem dX1_markOpen_35 : decode cX1_markOpen 35 = .ok (.iconst 1, 1) := by decide +kernel
theorem dX1_markOpen_36 : decode cX1_markOpen 36 = .ok (.goto 4, 3) := by decide +kernel
theorem dX1_markOpen_39 : decode cX1_markOpen 39 = .ok (.iconst 0, 1) := by decide +kernel
theorem dX1_markOpen_40 : decode cX1_markOpen 40 = .ok (.istore_n 2, 1) := by decide +kernel
theorem dX1_markOpen_41 : decode cX1_markOpen 41 = .ok (.aload_n 0, 1) := by decide +kernel
theorem dX1_markOpen_42 : decode cX1_markOpen 42 = .ok (.getfield 14, 3) := by decide +kernel
theorem dX1_markOpen_45 : decode cX1_markOpen 45 = .ok (.iload_n 1, 1) := by decide +kernel
theorem dX1_markOpen_46 : decode cX1_markOpen 46 = .ok (.iload_n 2, 1) := by decide +kernel
theorem dX1_markOpen_47 : decode cX1_markOpen 47 = .ok (.ifCond .eq 21, 3) := by decide +kernel
theorem dX1_markOpen_50 : decode cX1_markOpen 50 = .ok (.aload_n 0, 1) := by decide +kernel
theorem dX1_markOpen_51 : decode cX1_markOpen 51 = .ok (.getfield 26, 3) := by decide +kernel
theorem dX1_markOpen_54 : decode cX1_markOpen 54 = .ok (.getfield 53, 3) := by decide +kernel
theorem dX1_markOpen_57 : decode cX1_markOpen 57 = .ok (.iload_n 1, 1) := by decide +kernel
theorem dX1_markOpen_58 : decode cX1_markOpen 58 = .ok (.invokevirtual 56, 3) := by decide +kernel
theorem dX1_markOpen_61 : decode cX1_markOpen 61 = .ok (.ifCond .ne 7, 3) := by decide +kernel
theorem dX1_markOpen_64 : decode cX1_markOpen 64 = .ok (.iconst 1, 1) := by decide +kernel
theorem dX1_markOpen_65 : decode cX1_markOpen 65 = .ok (.goto 4, 3) := by decide +kernel
theorem dX1_markOpen_68 : decode cX1_markOpen 68 = .ok (.iconst 0, 1) := by decide +kernel
theorem dX1_markOpen_69 : decode cX1_markOpen 69 = .ok (.invokevirtual 72, 3) := by decide +kernel
theorem dX1_markOpen_72 : decode cX1_markOpen 72 = .ok (.iinc 1 1, 3) := by decide +kernel
theorem dX1_markOpen_75 : decode cX1_markOpen 75 = .ok (.goto (-73), 3) := by decide +kernel
theorem dX1_markOpen_78 : decode cX1_markOpen 78 = .ok (.return_, 1) := by decide +kernel
set_option maxRecDepth 20000 in
theorem ggX1_weigh_X1_lastBehind : GoodIn wsX1_weigh wsX1_lastBehind := goodIn_r _ [12, 1, 13, 2, 3, 4, 5, 6, 14, 15, 16, 17, 18, 19, 20, 21, 22, 23, 24, 25, 26, 52, 53, 54, 55, 56, 57, 58, 59, 60, 61, 62, 63, 64, 65, 66, 67, 68, 69, 70, 71, 72] (by decide +kernel) (by decide +kernel)
set_option maxRecDepth 20000 in
theorem gX1_weigh_X1_lastBehind : GoodIn wsX1_weigh (wsV RX1 76 RX1 yX1_lastBehind wsX1_lastBehind) := goodIn_app (goodIn_of _ (by decide +kernel)) ggX1_weigh_X1_lastBehind
set_option maxRecDepth 20000 in
theorem ggX1_weigh_X1_fewestThrough : GoodIn wsX1_weigh wsX1_fewestThrough := goodIn_r _ [30, 1, 31, 32, 2, 3, 4, 5, 6, 33, 22, 23, 24, 25, 26, 34, 35, 36, 11, 37, 38, 39, 40, 41, 42, 43, 44, 7, 45, 46, 47, 52, 53, 54, 55, 56, 57, 58, 59, 60, 61, 62, 63, 64, 65, 66, 67, 68, 69, 70, 71, 72, 73, 74, 75, 76, 77, 78] (by decide +kernel) (by decide +kernel)
set_option maxRecDepth 20000 in
theorem gX1_weigh_X1_fewestThrough : GoodIn wsX1_weigh (wsV RX1 79 RX1 yX1_fewestThrough wsX1_fewestThrough) := goodIn_app (goodIn_of _ (by decide +kernel)) ggX1_weigh_X1_fewestThrough
set_option maxRecDepth 20000 in
theorem ggX1_weigh_X3_put : GoodIn wsX1_weigh wsX3_put := goodIn_r _ [51, 26, 72] (by decide +kernel) (by decide +kernel)
set_option maxRecDepth 20000 in
theorem gX1_weigh_X3_put : GoodIn wsX1_weigh (wsV RX1 72 RX3 yX3_put wsX3_put) := goodIn_app (goodIn_of _ (by decide +kernel)) ggX1_weigh_X3_put
theorem dX1_weigh_0 : decode cX1_weigh 0 = .ok (.aload_n 0, 1) := by decide +kernel
theorem dX1_weigh_1 : decode cX1_weigh 1 = .ok (.iload_n 1, 1) := by decide +kernel
theorem dX1_weigh_2 : decode cX1_weigh 2 = .ok (.invokevirtual 76, 3) := by decide +kernel
theorem dX1_weigh_5 : decode cX1_weigh 5 = .ok (.istore_n 2, 1) := by decide +kernel
theorem dX1_weigh_6 : decode cX1_weigh 6 = .ok (.sipush 1000, 3) := by decide +kernel
theorem dX1_weigh_9 : decode cX1_weigh 9 = .ok (.istore_n 3, 1) := by decide +kernel
theorem dX1_weigh_10 : decode cX1_weigh 10 = .ok (.aload_n 0, 1) := by decide +kernel
theorem dX1_weigh_11 : decode cX1_weigh 11 = .ok (.getfield 26, 3) := by decide +kernel
theorem dX1_weigh_14 : decode cX1_weigh 14 = .ok (.getfield 37, 3) := by decide +kernel
theorem dX1_weigh_17 : decode cX1_weigh 17 = .ok (.istore 4, 2) := by decide +kernel
theorem dX1_weigh_19 : decode cX1_weigh 19 = .ok (.iload 4, 2) := by decide +kernel
theorem dX1_weigh_21 : decode cX1_weigh 21 = .ok (.iload_n 1, 1) := by decide +kernel
theorem dX1_weigh_22 : decode cX1_weigh 22 = .ok (.if_icmp .le 42, 3) := by decide +kernel
theorem dX1_weigh_25 : decode cX1_weigh 25 = .ok (.iload 4, 2) := by decide +kernel
theorem dX1_weigh_27 : decode cX1_weigh 27 = .ok (.iload_n 2, 1) := by decide +kernel
theorem dX1_weigh_28 : decode cX1_weigh 28 = .ok (.if_icmp .gt 15, 3) := by decide +kernel
theorem dX1_weigh_31 : decode cX1_weigh 31 = .ok (.iload_n 3, 1) := by decide +kernel
theorem dX1_weigh_32 : decode cX1_weigh 32 = .ok (.aload_n 0, 1) := by decide +kernel
theorem dX1_weigh_33 : decode cX1_weigh 33 = .ok (.iload_n 1, 1) := by decide +kernel
theorem dX1_weigh_34 : decode cX1_weigh 34 = .ok (.iload 4, 2) := by decide +kernel
theorem dX1_weigh_36 : decode cX1_weigh 36 = .ok (.invokevirtual 79, 3) := by decide +kernel
theorem dX1_weigh_39 : decode cX1_weigh 39 = .ok (.invokestatic 82, 3) := by decide +kernel
theorem dX1_weigh_42 : decode cX1_weigh 42 = .ok (.istore_n 3, 1) := by decide +kernel
theorem dX1_weigh_43 : decode cX1_weigh 43 = .ok (.aload_n 0, 1) := by decide +kernel
theorem dX1_weigh_44 : decode cX1_weigh 44 = .ok (.getfield 20, 3) := by decide +kernel
theorem dX1_weigh_47 : decode cX1_weigh 47 = .ok (.iload_n 1, 1) := by decide +kernel
theorem dX1_weigh_48 : decode cX1_weigh 48 = .ok (.bipush 121, 2) := by decide +kernel
theorem dX1_weigh_50 : decode cX1_weigh 50 = .ok (.imul, 1) := by decide +kernel
theorem dX1_weigh_51 : decode cX1_weigh 51 = .ok (.iload 4, 2) := by decide +kernel
theorem dX1_weigh_53 : decode cX1_weigh 53 = .ok (.iadd, 1) := by decide +kernel
theorem dX1_weigh_54 : decode cX1_weigh 54 = .ok (.iload_n 3, 1) := by decide +kernel
theorem dX1_weigh_55 : decode cX1_weigh 55 = .ok (.invokevirtual 72, 3) := by decide +kernel
theorem dX1_weigh_58 : decode cX1_weigh 58 = .ok (.iinc 4 (-1), 3) := by decide +kernel
theorem dX1_weigh_61 : decode cX1_weigh 61 = .ok (.goto (-42), 3) := by decide +kernel
theorem dX1_weigh_64 : decode cX1_weigh 64 = .ok (.return_, 1) := by decide +kernel
set_option maxRecDepth 20000 in
theorem ggX1_fewestThrough_X3_at : GoodIn wsX1_fewestThrough wsX3_at := goodIn_r _ [13, 14, 51] (by decide +kernel) (by decide +kernel)
set_option maxRecDepth 20000 in
theorem gX1_fewestThrough_X3_at : GoodIn wsX1_fewestThrough (wsV RX1 56 RX3 yX3_at wsX3_at) := goodIn_app (goodIn_of _ (by decide +kernel)) ggX1_fewestThrough_X3_at
set_option maxRecDepth 20000 in
theorem ggX1_fewestThrough_X1_earliestBehind : GoodIn wsX1_fewestThrough wsX1_earliestBehind := goodIn_r _ [19, 1, 20, 21, 22, 9, 10, 11, 12, 13, 14, 31, 32, 33, 34, 35, 36, 37, 38, 39, 40, 41, 42, 43, 44, 45, 46, 47, 48, 49, 50, 52, 53, 54, 55, 56, 57, 51] (by decide +kernel) (by decide +kernel)
set_option maxRecDepth 20000 in
theorem gX1_fewestThrough_X1_earliestBehind : GoodIn wsX1_fewestThrough (wsV RX1 46 RX1 yX1_earliestBehind wsX1_earliestBehind) := goodIn_app (goodIn_of _ (by decide +kernel)) ggX1_fewestThrough_X1_earliestBehind
set_option maxRecDepth 20000 in
theorem ggX1_fewestThrough_X1_fewestBehind : GoodIn wsX1_fewestThrough wsX1_fewestBehind := goodIn_r _ [26, 1, 4, 27, 28, 29, 7, 30, 9, 10, 11, 12, 13, 14, 31, 32, 33, 34, 35, 36, 37, 38, 39, 40, 41, 42, 43, 44, 45, 46, 47, 48, 49, 50, 51] (by decide +kernel) (by decide +kernel)
set_option maxRecDepth 20000 in
theorem gX1_fewestThrough_X1_fewestBehind : GoodIn wsX1_fewestThrough (wsV RX1 50 RX1 yX1_fewestBehind wsX1_fewestBehind) := goodIn_app (goodIn_of _ (by decide +kernel)) ggX1_fewestThrough_X1_fewestBehind
theorem dX1_fewestThrough_0 : decode cX1_fewestThrough 0 = .ok (.iload_n 2, 1) := by decide +kernel
theorem dX1_fewestThrough_1 : decode cX1_fewestThrough 1 = .ok (.iload_n 1, 1) := by decide +kernel
theorem dX1_fewestThrough_2 : decode cX1_fewestThrough 2 = .ok (.isub, 1) := by decide +kernel
theorem dX1_fewestThrough_3 : decode cX1_fewestThrough 3 = .ok (.aload_n 0, 1) := by decide +kernel
theorem dX1_fewestThrough_4 : decode cX1_fewestThrough 4 = .ok (.getfield 26, 3) := by decide +kernel
theorem dX1_fewestThrough_7 : decode cX1_fewestThrough 7 = .ok (.getfield 87, 3) := by decide +kernel
theorem dX1_fewestThrough_10 : decode cX1_fewestThrough 10 = .ok (.if_icmp .lt 14, 3) := by decide +kernel
theorem dX1_fewestThrough_13 : decode cX1_fewestThrough 13 = .ok (.aload_n 0, 1) := by decide +kernel
theorem dX1_fewestThrough_14 : decode cX1_fewestThrough 14 = .ok (.getfield 14, 3) := by decide +kernel
theorem dX1_fewestThrough_17 : decode cX1_fewestThrough 17 = .ok (.iload_n 2, 1) := by decide +kernel
theorem dX1_fewestThrough_18 : decode cX1_fewestThrough 18 = .ok (.invokevirtual 56, 3) := by decide +kernel
theorem dX1_fewestThrough_21 : decode cX1_fewestThrough 21 = .ok (.ifCond .ne 7, 3) := by decide +kernel
theorem dX1_fewestThrough_24 : decode cX1_fewestThrough 24 = .ok (.sipush 1000, 3) := by decide +kernel
theorem dX1_fewestThrough_27 : decode cX1_fewestThrough 27 = .ok (.ireturn, 1) := by decide +kernel
theorem dX1_fewestThrough_28 : decode cX1_fewestThrough 28 = .ok (.iload_n 2, 1) := by decide +kernel
theorem dX1_fewestThrough_29 : decode cX1_fewestThrough 29 = .ok (.aload_n 0, 1) := by decide +kernel
theorem dX1_fewestThrough_30 : decode cX1_fewestThrough 30 = .ok (.getfield 26, 3) := by decide +kernel
theorem dX1_fewestThrough_33 : decode cX1_fewestThrough 33 = .ok (.getfield 37, 3) := by decide +kernel
theorem dX1_fewestThrough_36 : decode cX1_fewestThrough 36 = .ok (.if_icmp .ne 5, 3) := by decide +kernel
theorem dX1_fewestThrough_39 : decode cX1_fewestThrough 39 = .ok (.iconst 1, 1) := by decide +kernel
theorem dX1_fewestThrough_40 : decode cX1_fewestThrough 40 = .ok (.ireturn, 1) := by decide +kernel
theorem dX1_fewestThrough_41 : decode cX1_fewestThrough 41 = .ok (.sipush 1000, 3) := by decide +kernel
theorem dX1_fewestThrough_44 : decode cX1_fewestThrough 44 = .ok (.iconst 1, 1) := by decide +kernel
theorem dX1_fewestThrough_45 : decode cX1_fewestThrough 45 = .ok (.aload_n 0, 1) := by decide +kernel
theorem dX1_fewestThrough_46 : decode cX1_fewestThrough 46 = .ok (.iload_n 2, 1) := by decide +kernel
theorem dX1_fewestThrough_47 : decode cX1_fewestThrough 47 = .ok (.aload_n 0, 1) := by decide +kernel
theorem dX1_fewestThrough_48 : decode cX1_fewestThrough 48 = .ok (.iload_n 1, 1) := by decide +kernel
theorem dX1_fewestThrough_49 : decode cX1_fewestThrough 49 = .ok (.iload_n 2, 1) := by decide +kernel
theorem dX1_fewestThrough_50 : decode cX1_fewestThrough 50 = .ok (.invokevirtual 46, 3) := by decide +kernel
theorem dX1_fewestThrough_53 : decode cX1_fewestThrough 53 = .ok (.invokevirtual 50, 3) := by decide +kernel
theorem dX1_fewestThrough_56 : decode cX1_fewestThrough 56 = .ok (.iadd, 1) := by decide +kernel
theorem dX1_fewestThrough_57 : decode cX1_fewestThrough 57 = .ok (.invokestatic 82, 3) := by decide +kernel
theorem dX1_fewestThrough_60 : decode cX1_fewestThrough 60 = .ok (.ireturn, 1) := by decide +kernel
set_option maxRecDepth 20000 in
theorem ggX1_fewestBehind_X3_at : GoodIn wsX1_fewestBehind wsX3_at := goodIn_r _ [12, 13, 34] (by decide +kernel) (by decide +kernel)
set_option maxRecDepth 20000 in
theorem gX1_fewestBehind_X3_at : GoodIn wsX1_fewestBehind (wsV RX1 56 RX3 yX3_at wsX3_at) := goodIn_app (goodIn_of _ (by decide +kernel)) ggX1_fewestBehind_X3_at
theorem dX1_fewestBehind_0 : decode cX1_fewestBehind 0 = .ok (.iload_n 2, 1) := by decide +kernel
theorem dX1_fewestBehind_1 : decode cX1_fewestBehind 1 = .ok (.aload_n 0, 1) := by decide +kernel
theorem dX1_fewestBehind_2 : decode cX1_fewestBehind 2 = .ok (.getfield 26, 3) := by decide +kernel
theorem dX1_fewestBehind_5 : decode cX1_fewestBehind 5 = .ok (.getfield 37, 3) := by decide +kernel
theorem dX1_fewestBehind_8 : decode cX1_fewestBehind 8 = .ok (.if_icmp .le 7, 3) := by decide +kernel
theorem dX1_fewestBehind_11 : decode cX1_fewestBehind 11 = .ok (.sipush 1000, 3) := by decide +kernel
theorem dX1_fewestBehind_14 : decode cX1_fewestBehind 14 = .ok (.ireturn, 1) := by decide +kernel
theorem dX1_fewestBehind_15 : decode cX1_fewestBehind 15 = .ok (.aload_n 0, 1) := by decide +kernel
theorem dX1_fewestBehind_16 : decode cX1_fewestBehind 16 = .ok (.getfield 20, 3) := by decide +kernel
theorem dX1_fewestBehind_19 : decode cX1_fewestBehind 19 = .ok (.iload_n 1, 1) := by decide +kernel
theorem dX1_fewestBehind_20 : decode cX1_fewestBehind 20 = .ok (.bipush 121, 2) := by decide +kernel
theorem dX1_fewestBehind_22 : decode cX1_fewestBehind 22 = .ok (.imul, 1) := by decide +kernel
theorem dX1_fewestBehind_23 : decode cX1_fewestBehind 23 = .ok (.iload_n 2, 1) := by decide +kernel
theorem dX1_fewestBehind_24 : decode cX1_fewestBehind 24 = .ok (.iload_n 1, 1) := by decide +kernel
theorem dX1_fewestBehind_25 : decode cX1_fewestBehind 25 = .ok (.iconst 1, 1) := by decide +kernel
theorem dX1_fewestBehind_26 : decode cX1_fewestBehind 26 = .ok (.iadd, 1) := by decide +kernel
theorem dX1_fewestBehind_27 : decode cX1_fewestBehind 27 = .ok (.invokestatic 90, 3) := by decide +kernel
theorem dX1_fewestBehind_30 : decode cX1_fewestBehind 30 = .ok (.iadd, 1) := by decide +kernel
theorem dX1_fewestBehind_31 : decode cX1_fewestBehind 31 = .ok (.invokevirtual 56, 3) := by decide +kernel
theorem dX1_fewestBehind_34 : decode cX1_fewestBehind 34 = .ok (.ireturn, 1) := by decide +kernel
set_option maxRecDepth 20000 in
theorem ggX1_earliestBehind_X3_at : GoodIn wsX1_earliestBehind wsX3_at := goodIn_r _ [9, 10, 37] (by decide +kernel) (by decide +kernel)
set_option maxRecDepth 20000 in
theorem gX1_earliestBehind_X3_at : GoodIn wsX1_earliestBehind (wsV RX1 56 RX3 yX3_at wsX3_at) := goodIn_app (goodIn_of _ (by decide +kernel)) ggX1_earliestBehind_X3_at
theorem dX1_earliestBehind_0 : decode cX1_earliestBehind 0 = .ok (.aload_n 0, 1) := by decide +kernel
theorem dX1_earliestBehind_1 : decode cX1_earliestBehind 1 = .ok (.getfield 26, 3) := by decide +kernel
theorem dX1_earliestBehind_4 : decode cX1_earliestBehind 4 = .ok (.getfield 63, 3) := by decide +kernel
theorem dX1_earliestBehind_7 : decode cX1_earliestBehind 7 = .ok (.iconst 3, 1) := by decide +kernel
theorem dX1_earliestBehind_8 : decode cX1_earliestBehind 8 = .ok (.if_icmp .ne 17, 3) := by decide +kernel
theorem dX1_earliestBehind_11 : decode cX1_earliestBehind 11 = .ok (.iload_n 2, 1) := by decide +kernel
theorem dX1_earliestBehind_12 : decode cX1_earliestBehind 12 = .ok (.aload_n 0, 1) := by decide +kernel
theorem dX1_earliestBehind_13 : decode cX1_earliestBehind 13 = .ok (.getfield 30, 3) := by decide +kernel
theorem dX1_earliestBehind_16 : decode cX1_earliestBehind 16 = .ok (.getfield 93, 3) := by decide +kernel
theorem dX1_earliestBehind_19 : decode cX1_earliestBehind 19 = .ok (.iload_n 2, 1) := by decide +kernel
theorem dX1_earliestBehind_20 : decode cX1_earliestBehind 20 = .ok (.invokevirtual 56, 3) := by decide +kernel
theorem dX1_earliestBehind_23 : decode cX1_earliestBehind 23 = .ok (.iadd, 1) := by decide +kernel
theorem dX1_earliestBehind_24 : decode cX1_earliestBehind 24 = .ok (.ireturn, 1) := by decide +kernel
theorem dX1_earliestBehind_25 : decode cX1_earliestBehind 25 = .ok (.aload_n 0, 1) := by decide +kernel
theorem dX1_earliestBehind_26 : decode cX1_earliestBehind 26 = .ok (.getfield 26, 3) := by decide +kernel
theorem dX1_earliestBehind_29 : decode cX1_earliestBehind 29 = .ok (.getfield 63, 3) := by decide +kernel
theorem dX1_earliestBehind_32 : decode cX1_earliestBehind 32 = .ok (.iconst 4, 1) := by decide +kernel
theorem dX1_earliestBehind_33 : decode cX1_earliestBehind 33 = .ok (.if_icmp .ne 22, 3) := by decide +kernel
theorem dX1_earliestBehind_36 : decode cX1_earliestBehind 36 = .ok (.iload_n 1, 1) := by decide +kernel
theorem dX1_earliestBehind_37 : decode cX1_earliestBehind 37 = .ok (.iconst (-1), 1) := by decide +kernel
theorem dX1_earliestBehind_38 : decode cX1_earliestBehind 38 = .ok (.if_icmp .eq 17, 3) := by decide +kernel
theorem dX1_earliestBehind_41 : decode cX1_earliestBehind 41 = .ok (.iload_n 1, 1) := by decide +kernel
theorem dX1_earliestBehind_42 : decode cX1_earliestBehind 42 = .ok (.aload_n 0, 1) := by decide +kernel
theorem dX1_earliestBehind_43 : decode cX1_earliestBehind 43 = .ok (.getfield 30, 3) := by decide +kernel
theorem dX1_earliestBehind_46 : decode cX1_earliestBehind 46 = .ok (.getfield 93, 3) := by decide +kernel
theorem dX1_earliestBehind_49 : decode cX1_earliestBehind 49 = .ok (.iload_n 1, 1) := by decide +kernel
theorem dX1_earliestBehind_50 : decode cX1_earliestBehind 50 = .ok (.invokevirtual 56, 3) := by decide +kernel
theorem dX1_earliestBehind_53 : decode cX1_earliestBehind 53 = .ok (.iadd, 1) := by decide +kernel
theorem dX1_earliestBehind_54 : decode cX1_earliestBehind 54 = .ok (.ireturn, 1) := by decide +kernel
theorem dX1_earliestBehind_55 : decode cX1_earliestBehind 55 = .ok (.iconst 0, 1) := by decide +kernel
theorem dX1_earliestBehind_56 : decode cX1_earliestBehind 56 = .ok (.ireturn, 1) := by decide +kernel
set_option maxRecDepth 20000 in
theorem ggX1_lastBehind_X4_needsPost : GoodIn wsX1_lastBehind wsX4_needsPost := goodIn_r _ [12, 13, 14, 15, 16, 17, 18, 19, 20, 26, 27, 28, 29, 30, 31, 32, 33, 34, 35, 36, 37, 38, 39, 40, 41] (by decide +kernel) (by decide +kernel)
set_option maxRecDepth 20000 in
theorem gX1_lastBehind_X4_needsPost : GoodIn wsX1_lastBehind (wsV RX1 99 RX4 yX4_needsPost wsX4_needsPost) := goodIn_app (goodIn_of _ (by decide +kernel)) ggX1_lastBehind_X4_needsPost
theorem dX1_lastBehind_0 : decode cX1_lastBehind 0 = .ok (.iload_n 1, 1) := by decide +kernel
theorem dX1_lastBehind_1 : decode cX1_lastBehind 1 = .ok (.aload_n 0, 1) := by decide +kernel
theorem dX1_lastBehind_2 : decode cX1_lastBehind 2 = .ok (.getfield 26, 3) := by decide +kernel
theorem dX1_lastBehind_5 : decode cX1_lastBehind 5 = .ok (.getfield 96, 3) := by decide +kernel
theorem dX1_lastBehind_8 : decode cX1_lastBehind 8 = .ok (.iadd, 1) := by decide +kernel
theorem dX1_lastBehind_9 : decode cX1_lastBehind 9 = .ok (.aload_n 0, 1) := by decide +kernel
theorem dX1_lastBehind_10 : decode cX1_lastBehind 10 = .ok (.getfield 26, 3) := by decide +kernel
theorem dX1_lastBehind_13 : decode cX1_lastBehind 13 = .ok (.getfield 37, 3) := by decide +kernel
theorem dX1_lastBehind_16 : decode cX1_lastBehind 16 = .ok (.invokestatic 82, 3) := by decide +kernel
theorem dX1_lastBehind_19 : decode cX1_lastBehind 19 = .ok (.istore_n 2, 1) := by decide +kernel
theorem dX1_lastBehind_20 : decode cX1_lastBehind 20 = .ok (.iload_n 1, 1) := by decide +kernel
theorem dX1_lastBehind_21 : decode cX1_lastBehind 21 = .ok (.iconst 1, 1) := by decide +kernel
theorem dX1_lastBehind_22 : decode cX1_lastBehind 22 = .ok (.iadd, 1) := by decide +kernel
theorem dX1_lastBehind_23 : decode cX1_lastBehind 23 = .ok (.istore_n 3, 1) := by decide +kernel
theorem dX1_lastBehind_24 : decode cX1_lastBehind 24 = .ok (.iload_n 3, 1) := by decide +kernel
theorem dX1_lastBehind_25 : decode cX1_lastBehind 25 = .ok (.iload_n 2, 1) := by decide +kernel
theorem dX1_lastBehind_26 : decode cX1_lastBehind 26 = .ok (.if_icmp .ge 20, 3) := by decide +kernel
theorem dX1_lastBehind_29 : decode cX1_lastBehind 29 = .ok (.aload_n 0, 1) := by decide +kernel
theorem dX1_lastBehind_30 : decode cX1_lastBehind 30 = .ok (.getfield 26, 3) := by decide +kernel
theorem dX1_lastBehind_33 : decode cX1_lastBehind 33 = .ok (.iload_n 3, 1) := by decide +kernel
theorem dX1_lastBehind_34 : decode cX1_lastBehind 34 = .ok (.invokevirtual 99, 3) := by decide +kernel
theorem dX1_lastBehind_37 : decode cX1_lastBehind 37 = .ok (.ifCond .ne 9, 3) := by decide +kernel
theorem dX1_lastBehind_40 : decode cX1_lastBehind 40 = .ok (.iinc 3 1, 3) := by decide +kernel
theorem dX1_lastBehind_43 : decode cX1_lastBehind 43 = .ok (.goto (-19), 3) := by decide +kernel
theorem dX1_lastBehind_46 : decode cX1_lastBehind 46 = .ok (.iload_n 3, 1) := by decide +kernel
theorem dX1_lastBehind_47 : decode cX1_lastBehind 47 = .ok (.ireturn, 1) := by decide +kernel
set_option maxRecDepth 20000 in
theorem ggX1_trace_X3_put : GoodIn wsX1_trace wsX3_put := goodIn_r _ [6, 7, 62] (by decide +kernel) (by decide +kernel)
set_option maxRecDepth 20000 in
theorem gX1_trace_X3_put : GoodIn wsX1_trace (wsV RX1 72 RX3 yX3_put wsX3_put) := goodIn_app (goodIn_of _ (by decide +kernel)) ggX1_trace_X3_put
set_option maxRecDepth 20000 in
theorem ggX1_trace_X1_earliestBehind : GoodIn wsX1_trace wsX1_earliestBehind := goodIn_r _ [12, 13, 14, 15, 16, 17, 18, 19, 5, 20, 7, 57, 58, 59, 60, 61, 63, 64, 65, 66, 67, 68, 69, 70, 71, 72, 73, 74, 75, 76, 77, 78, 79, 80, 81, 82, 83, 62] (by decide +kernel) (by decide +kernel)
set_option maxRecDepth 20000 in
theorem gX1_trace_X1_earliestBehind : GoodIn wsX1_trace (wsV RX1 46 RX1 yX1_earliestBehind wsX1_earliestBehind) := goodIn_app (goodIn_of _ (by decide +kernel)) ggX1_trace_X1_earliestBehind
set_option maxRecDepth 20000 in
theorem ggX1_trace_X1_firstBehind : GoodIn wsX1_trace wsX1_firstBehind := goodIn_r _ [24, 25, 26, 27, 28, 29, 30, 31, 11, 32, 13, 33, 34, 17, 18, 19, 5, 20, 7, 35, 36, 37, 38, 39, 40, 41, 42, 43, 44, 45, 46, 47, 48, 49, 50, 51, 52, 53, 54, 55, 56, 8, 9, 10, 12, 14, 15, 16, 57, 58, 59, 60, 61, 63, 64, 65, 66, 67, 68, 69, 70, 71, 72, 73, 74, 75, 76, 77, 62, 78, 79, 80, 81, 82, 83] (by decide +kernel) (by decide +kernel)
set_option maxRecDepth 20000 in
theorem gX1_trace_X1_firstBehind : GoodIn wsX1_trace (wsV RX1 102 RX1 yX1_firstBehind wsX1_firstBehind) := goodIn_app (goodIn_of _ (by decide +kernel)) ggX1_trace_X1_firstBehind
theorem dX1_trace_0 : decode cX1_trace 0 = .ok (.iconst (-1), 1) := by decide +kernel
theorem dX1_trace_1 : decode cX1_trace 1 = .ok (.istore_n 2, 1) := by decide +kernel
theorem dX1_trace_2 : decode cX1_trace 2 = .ok (.iconst 0, 1) := by decide +kernel
theorem dX1_trace_3 : decode cX1_trace 3 = .ok (.istore_n 3, 1) := by decide +kernel
theorem dX1_trace_4 : decode cX1_trace 4 = .ok (.aload_n 0, 1) := by decide +kernel
theorem dX1_trace_5 : decode cX1_trace 5 = .ok (.getfield 23, 3) := by decide +kernel
theorem dX1_trace_8 : decode cX1_trace 8 = .ok (.iconst 0, 1) := by decide +kernel
theorem dX1_trace_9 : decode cX1_trace 9 = .ok (.iload_n 3, 1) := by decide +kernel
theorem dX1_trace_10 : decode cX1_trace 10 = .ok (.invokevirtual 72, 3) := by decide +kernel
theorem dX1_trace_13 : decode cX1_trace 13 = .ok (.iconst 1, 1) := by decide +kernel
theorem dX1_trace_14 : decode cX1_trace 14 = .ok (.istore 4, 2) := by decide +kernel
theorem dX1_trace_16 : decode cX1_trace 16 = .ok (.iload 4, 2) := by decide +kernel
theorem dX1_trace_18 : decode cX1_trace 18 = .ok (.iload_n 1, 1) := by decide +kernel
theorem dX1_trace_19 : decode cX1_trace 19 = .ok (.if_icmp .ge 37, 3) := by decide +kernel
theorem dX1_trace_22 : decode cX1_trace 22 = .ok (.aload_n 0, 1) := by decide +kernel
theorem dX1_trace_23 : decode cX1_trace 23 = .ok (.iload_n 3, 1) := by decide +kernel
theorem dX1_trace_24 : decode cX1_trace 24 = .ok (.aload_n 0, 1) := by decide +kernel
theorem dX1_trace_25 : decode cX1_trace 25 = .ok (.iload_n 2, 1) := by decide +kernel
theorem dX1_trace_26 : decode cX1_trace 26 = .ok (.iload_n 3, 1) := by decide +kernel
theorem dX1_trace_27 : decode cX1_trace 27 = .ok (.invokevirtual 46, 3) := by decide +kernel
theorem dX1_trace_30 : decode cX1_trace 30 = .ok (.invokevirtual 102, 3) := by decide +kernel
theorem dX1_trace_33 : decode cX1_trace 33 = .ok (.istore 5, 2) := by decide +kernel
theorem dX1_trace_35 : decode cX1_trace 35 = .ok (.iload_n 3, 1) := by decide +kernel
theorem dX1_trace_36 : decode cX1_trace 36 = .ok (.istore_n 2, 1) := by decide +kernel
theorem dX1_trace_37 : decode cX1_trace 37 = .ok (.iload 5, 2) := by decide +kernel
theorem dX1_trace_39 : decode cX1_trace 39 = .ok (.istore_n 3, 1) := by decide +kernel
theorem dX1_trace_40 : decode cX1_trace 40 = .ok (.aload_n 0, 1) := by decide +kernel
theorem dX1_trace_41 : decode cX1_trace 41 = .ok (.getfield 23, 3) := by decide +kernel
theorem dX1_trace_44 : decode cX1_trace 44 = .ok (.iload 4, 2) := by decide +kernel
theorem dX1_trace_46 : decode cX1_trace 46 = .ok (.iload_n 3, 1) := by decide +kernel
theorem dX1_trace_47 : decode cX1_trace 47 = .ok (.invokevirtual 72, 3) := by decide +kernel
theorem dX1_trace_50 : decode cX1_trace 50 = .ok (.iinc 4 1, 3) := by decide +kernel
theorem dX1_trace_53 : decode cX1_trace 53 = .ok (.goto (-37), 3) := by decide +kernel
theorem dX1_trace_56 : decode cX1_trace 56 = .ok (.return_, 1) := by decide +kernel
set_option maxRecDepth 20000 in
theorem ggX1_firstBehind_X1_fewestBehind : GoodIn wsX1_firstBehind wsX1_fewestBehind := goodIn_r _ [9, 10, 11, 12, 1, 2, 3, 4, 13, 14, 15, 16, 17, 18, 48, 49, 50, 51, 52, 53, 54, 55, 56, 57, 58, 59, 60, 61, 62, 63, 64, 65, 66, 67, 68] (by decide +kernel) (by decide +kernel)
set_option maxRecDepth 20000 in
theorem gX1_firstBehind_X1_fewestBehind : GoodIn wsX1_firstBehind (wsV RX1 50 RX1 yX1_fewestBehind wsX1_fewestBehind) := goodIn_app (goodIn_of _ (by decide +kernel)) ggX1_firstBehind_X1_fewestBehind
set_option maxRecDepth 20000 in
theorem ggX1_firstBehind_X1_lastBehind : GoodIn wsX1_firstBehind wsX1_lastBehind := goodIn_r _ [22, 10, 23, 11, 24, 25, 3, 26, 27, 28, 29, 30, 31, 32, 33, 34, 14, 15, 16, 17, 18, 48, 49, 50, 51, 52, 53, 54, 55, 56, 57, 58, 59, 60, 61, 62, 63, 64, 65, 66, 67, 68] (by decide +kernel) (by decide +kernel)
set_option maxRecDepth 20000 in
theorem gX1_firstBehind_X1_lastBehind : GoodIn wsX1_firstBehind (wsV RX1 76 RX1 yX1_lastBehind wsX1_lastBehind) := goodIn_app (goodIn_of _ (by decide +kernel)) ggX1_firstBehind_X1_lastBehind
set_option maxRecDepth 20000 in
theorem ggX1_firstBehind_X1_fewestThrough : GoodIn wsX1_firstBehind wsX1_fewestThrough := goodIn_r _ [38, 10, 39, 40, 11, 24, 25, 3, 26, 13, 14, 15, 16, 17, 18, 41, 42, 43, 8, 44, 45, 46, 47, 5, 6, 7, 9, 12, 1, 2, 4, 48, 49, 50, 51, 52, 53, 54, 55, 56, 57, 58, 59, 60, 61, 62, 63, 64, 65, 66, 67, 68, 69, 70, 71, 72, 73, 74] (by decide +kernel) (by decide +kernel)
set_option maxRecDepth 20000 in
theorem gX1_firstBehind_X1_fewestThrough : GoodIn wsX1_firstBehind (wsV RX1 79 RX1 yX1_fewestThrough wsX1_fewestThrough) := goodIn_app (goodIn_of _ (by decide +kernel)) ggX1_firstBehind_X1_fewestThrough
theorem dX1_firstBehind_0 : decode cX1_firstBehind 0 = .ok (.aload_n 0, 1) := by decide +kernel
theorem dX1_firstBehind_1 : decode cX1_firstBehind 1 = .ok (.iload_n 1, 1) := by decide +kernel
theorem dX1_firstBehind_2 : decode cX1_firstBehind 2 = .ok (.iload_n 2, 1) := by decide +kernel
theorem dX1_firstBehind_3 : decode cX1_firstBehind 3 = .ok (.invokevirtual 50, 3) := by decide +kernel
theorem dX1_firstBehind_6 : decode cX1_firstBehind 6 = .ok (.istore_n 3, 1) := by decide +kernel
theorem dX1_firstBehind_7 : decode cX1_firstBehind 7 = .ok (.aload_n 0, 1) := by decide +kernel
theorem dX1_firstBehind_8 : decode cX1_firstBehind 8 = .ok (.iload_n 1, 1) := by decide +kernel
theorem dX1_firstBehind_9 : decode cX1_firstBehind 9 = .ok (.invokevirtual 76, 3) := by decide +kernel
theorem dX1_firstBehind_12 : decode cX1_firstBehind 12 = .ok (.istore 4, 2) := by decide +kernel
theorem dX1_firstBehind_14 : decode cX1_firstBehind 14 = .ok (.iload_n 2, 1) := by decide +kernel
theorem dX1_firstBehind_15 : decode cX1_firstBehind 15 = .ok (.iload_n 1, 1) := by decide +kernel
theorem dX1_firstBehind_16 : decode cX1_firstBehind 16 = .ok (.iconst 1, 1) := by decide +kernel
theorem dX1_firstBehind_17 : decode cX1_firstBehind 17 = .ok (.iadd, 1) := by decide +kernel
theorem dX1_firstBehind_18 : decode cX1_firstBehind 18 = .ok (.invokestatic 90, 3) := by decide +kernel
theorem dX1_firstBehind_21 : decode cX1_firstBehind 21 = .ok (.istore 5, 2) := by decide +kernel
theorem dX1_firstBehind_23 : decode cX1_firstBehind 23 = .ok (.iload 5, 2) := by decide +kernel
theorem dX1_firstBehind_25 : decode cX1_firstBehind 25 = .ok (.iload 4, 2) := by decide +kernel
theorem dX1_firstBehind_27 : decode cX1_firstBehind 27 = .ok (.if_icmp .ge 20, 3) := by decide +kernel
theorem dX1_firstBehind_30 : decode cX1_firstBehind 30 = .ok (.aload_n 0, 1) := by decide +kernel
theorem dX1_firstBehind_31 : decode cX1_firstBehind 31 = .ok (.iload_n 1, 1) := by decide +kernel
theorem dX1_firstBehind_32 : decode cX1_firstBehind 32 = .ok (.iload 5, 2) := by decide +kernel
theorem dX1_firstBehind_34 : decode cX1_firstBehind 34 = .ok (.invokevirtual 79, 3) := by decide +kernel
theorem dX1_firstBehind_37 : decode cX1_firstBehind 37 = .ok (.iload_n 3, 1) := by decide +kernel
theorem dX1_firstBehind_38 : decode cX1_firstBehind 38 = .ok (.if_icmp .eq 9, 3) := by decide +kernel
theorem dX1_firstBehind_41 : decode cX1_firstBehind 41 = .ok (.iinc 5 1, 3) := by decide +kernel
theorem dX1_firstBehind_44 : decode cX1_firstBehind 44 = .ok (.goto (-21), 3) := by decide +kernel
theorem dX1_firstBehind_47 : decode cX1_firstBehind 47 = .ok (.iload 5, 2) := by decide +kernel
theorem dX1_firstBehind_49 : decode cX1_firstBehind 49 = .ok (.ireturn, 1) := by decide +kernel
set_option maxRecDepth 20000 in
theorem ggX2_init_X3_init : GoodIn wsX2_init wsX3_init := goodIn_r _ [14, 15, 2, 3, 16, 17, 18] (by decide +kernel) (by decide +kernel)
set_option maxRecDepth 20000 in
theorem gX2_init_X3_init : GoodIn wsX2_init (wsX3_init) := ggX2_init_X3_init
theorem dX2_init_0 : decode cX2_init 0 = .ok (.aload_n 0, 1) := by decide +kernel
theorem dX2_init_1 : decode cX2_init 1 = .ok (.invokespecial 3, 3) := by decide +kernel
theorem dX2_init_4 : decode cX2_init 4 = .ok (.aload_n 0, 1) := by decide +kernel
theorem dX2_init_5 : decode cX2_init 5 = .ok (.new 9, 3) := by decide +kernel
theorem dX2_init_8 : decode cX2_init 8 = .ok (.dup, 1) := by decide +kernel
theorem dX2_init_9 : decode cX2_init 9 = .ok (.bipush 121, 2) := by decide +kernel
theorem dX2_init_11 : decode cX2_init 11 = .ok (.invokespecial 11, 3) := by decide +kernel
theorem dX2_init_14 : decode cX2_init 14 = .ok (.putfield 14, 3) := by decide +kernel
theorem dX2_init_17 : decode cX2_init 17 = .ok (.aload_n 0, 1) := by decide +kernel
theorem dX2_init_18 : decode cX2_init 18 = .ok (.new 9, 3) := by decide +kernel
theorem dX2_init_21 : decode cX2_init 21 = .ok (.dup, 1) := by decide +kernel
theorem dX2_init_22 : decode cX2_init 22 = .ok (.bipush 121, 2) := by decide +kernel
theorem dX2_init_24 : decode cX2_init 24 = .ok (.invokespecial 11, 3) := by decide +kernel
theorem dX2_init_27 : decode cX2_init 27 = .ok (.putfield 20, 3) := by decide +kernel
theorem dX2_init_30 : decode cX2_init 30 = .ok (.aload_n 0, 1) := by decide +kernel
theorem dX2_init_31 : decode cX2_init 31 = .ok (.new 9, 3) := by decide +kernel
theorem dX2_init_34 : decode cX2_init 34 = .ok (.dup, 1) := by decide +kernel
theorem dX2_init_35 : decode cX2_init 35 = .ok (.bipush 121, 2) := by decide +kernel
theorem dX2_init_37 : decode cX2_init 37 = .ok (.invokespecial 11, 3) := by decide +kernel
theorem dX2_init_40 : decode cX2_init 40 = .ok (.putfield 23, 3) := by decide +kernel
theorem dX2_init_43 : decode cX2_init 43 = .ok (.aload_n 0, 1) := by decide +kernel
theorem dX2_init_44 : decode cX2_init 44 = .ok (.new 9, 3) := by decide +kernel
theorem dX2_init_47 : decode cX2_init 47 = .ok (.dup, 1) := by decide +kernel
theorem dX2_init_48 : decode cX2_init 48 = .ok (.bipush 121, 2) := by decide +kernel
theorem dX2_init_50 : decode cX2_init 50 = .ok (.invokespecial 11, 3) := by decide +kernel
theorem dX2_init_53 : decode cX2_init 53 = .ok (.putfield 26, 3) := by decide +kernel
theorem dX2_init_56 : decode cX2_init 56 = .ok (.aload_n 0, 1) := by decide +kernel
theorem dX2_init_57 : decode cX2_init 57 = .ok (.aload_n 1, 1) := by decide +kernel
theorem dX2_init_58 : decode cX2_init 58 = .ok (.putfield 29, 3) := by decide +kernel
theorem dX2_init_61 : decode cX2_init 61 = .ok (.return_, 1) := by decide +kernel
theorem dX2_outdate_0 : decode cX2_outdate 0 = .ok (.aload_n 0, 1) := by decide +kernel
theorem dX2_outdate_1 : decode cX2_outdate 1 = .ok (.iconst 0, 1) := by decide +kernel
theorem dX2_outdate_2 : decode cX2_outdate 2 = .ok (.putfield 33, 3) := by decide +kernel
theorem dX2_outdate_5 : decode cX2_outdate 5 = .ok (.return_, 1) := by decide +kernel
set_option maxRecDepth 20000 in
theorem ggX2_refresh_X2_computeEnergies : GoodIn wsX2_refresh wsX2_computeEnergies := goodIn_r _ [6, 7, 8, 9, 10, 11, 12, 13, 14, 15, 16, 5, 17, 18, 19, 20, 21, 22, 23, 24, 25, 26, 27, 28, 29, 30, 31, 32, 33, 34, 35, 36, 37, 65, 66, 67, 68, 69, 70, 71, 72, 73, 74, 75, 76, 77, 78, 79, 80, 81, 82, 83, 84, 85, 86] (by decide +kernel) (by decide +kernel)
set_option maxRecDepth 20000 in
theorem gX2_refresh_X2_computeEnergies : GoodIn wsX2_refresh (wsV RX2 37 RX2 yX2_computeEnergies wsX2_computeEnergies) := goodIn_app (goodIn_of _ (by decide +kernel)) ggX2_refresh_X2_computeEnergies
set_option maxRecDepth 20000 in
theorem ggX2_refresh_X2_computeSpeeds : GoodIn wsX2_refresh wsX2_computeSpeeds := goodIn_r _ [41, 7, 8, 42, 9, 19, 20, 21, 22, 23, 24, 43, 44, 5, 45, 25, 26, 27, 28, 29, 30, 31, 65, 66, 67, 68, 69, 70, 71, 72, 73, 74, 75, 76, 77, 78, 79, 80, 81, 82, 83, 84, 85, 86] (by decide +kernel) (by decide +kernel)
set_option maxRecDepth 20000 in
theorem gX2_refresh_X2_computeSpeeds : GoodIn wsX2_refresh (wsV RX2 40 RX2 yX2_computeSpeeds wsX2_computeSpeeds) := goodIn_app (goodIn_of _ (by decide +kernel)) ggX2_refresh_X2_computeSpeeds
set_option maxRecDepth 20000 in
theorem ggX2_refresh_X2_computeDistances : GoodIn wsX2_refresh wsX2_computeDistances := goodIn_r _ [49, 7, 8, 42, 50, 9, 51, 19, 20, 21, 22, 23, 24, 52, 53, 5, 54, 55, 56, 57, 58, 32, 33, 34, 35, 36, 10, 11, 12, 13, 37, 28, 29, 30, 31, 65, 66, 67, 68, 69, 70, 71, 72, 73, 74, 75, 76, 77, 78, 79, 80, 81, 82, 83, 84, 85, 86] (by decide +kernel) (by decide +kernel)
set_option maxRecDepth 20000 in
theorem gX2_refresh_X2_computeDistances : GoodIn wsX2_refresh (wsV RX2 43 RX2 yX2_computeDistances wsX2_computeDistances) := goodIn_app (goodIn_of _ (by decide +kernel)) ggX2_refresh_X2_computeDistances
set_option maxRecDepth 20000 in
theorem ggX2_refresh_X2_computeTimes : GoodIn wsX2_refresh wsX2_computeTimes := goodIn_r _ [62, 63, 7, 8, 64, 42, 28, 29, 30, 22, 31, 24, 19, 20, 21, 23, 52, 53, 5, 54, 65, 66, 67, 68, 69, 70, 71, 72, 73, 74, 75, 76, 77, 78, 79, 80, 81, 82, 83, 84, 85, 86] (by decide +kernel) (by decide +kernel)
set_option maxRecDepth 20000 in
theorem gX2_refresh_X2_computeTimes : GoodIn wsX2_refresh (wsV RX2 46 RX2 yX2_computeTimes wsX2_computeTimes) := goodIn_app (goodIn_of _ (by decide +kernel)) ggX2_refresh_X2_computeTimes
theorem dX2_refresh_0 : decode cX2_refresh 0 = .ok (.aload_n 0, 1) := by decide +kernel
theorem dX2_refresh_1 : decode cX2_refresh 1 = .ok (.getfield 33, 3) := by decide +kernel
theorem dX2_refresh_4 : decode cX2_refresh 4 = .ok (.ifCond .eq 4, 3) := by decide +kernel
theorem dX2_refresh_7 : decode cX2_refresh 7 = .ok (.return_, 1) := by decide +kernel
theorem dX2_refresh_8 : decode cX2_refresh 8 = .ok (.aload_n 0, 1) := by decide +kernel
theorem dX2_refresh_9 : decode cX2_refresh 9 = .ok (.invokevirtual 37, 3) := by decide +kernel
theorem dX2_refresh_12 : decode cX2_refresh 12 = .ok (.aload_n 0, 1) := by decide +kernel
theorem dX2_refresh_13 : decode cX2_refresh 13 = .ok (.invokevirtual 40, 3) := by decide +kernel
theorem dX2_refresh_16 : decode cX2_refresh 16 = .ok (.aload_n 0, 1) := by decide +kernel
theorem dX2_refresh_17 : decode cX2_refresh 17 = .ok (.invokevirtual 43, 3) := by decide +kernel
theorem dX2_refresh_20 : decode cX2_refresh 20 = .ok (.aload_n 0, 1) := by decide +kernel
theorem dX2_refresh_21 : decode cX2_refresh 21 = .ok (.invokevirtual 46, 3) := by decide +kernel
theorem dX2_refresh_24 : decode cX2_refresh 24 = .ok (.aload_n 0, 1) := by decide +kernel
theorem dX2_refresh_25 : decode cX2_refresh 25 = .ok (.iconst 1, 1) := by decide +kernel
theorem dX2_refresh_26 : decode cX2_refresh 26 = .ok (.putfield 33, 3) := by decide +kernel
theorem dX2_refresh_29 : decode cX2_refresh 29 = .ok (.return_, 1) := by decide +kernel
set_option maxRecDepth 20000 in
theorem ggX2_computeEnergies_X2_greatestEnergy : GoodIn wsX2_computeEnergies wsX2_greatestEnergy := goodIn_r _ [12, 1, 13, 14, 15, 16, 17, 18, 19, 20, 21, 11, 22, 33, 34, 35, 36, 37, 38, 39, 40, 41, 42, 43, 44, 45, 46, 47, 48, 49, 50, 51, 52, 53, 54] (by decide +kernel) (by decide +kernel)
set_option maxRecDepth 20000 in
theorem gX2_computeEnergies_X2_greatestEnergy : GoodIn wsX2_computeEnergies (wsV RX2 55 RX2 yX2_greatestEnergy wsX2_greatestEnergy) := goodIn_app (goodIn_of _ (by decide +kernel)) ggX2_computeEnergies_X2_greatestEnergy
set_option maxRecDepth 20000 in
theorem ggX2_computeEnergies_X3_put : GoodIn wsX2_computeEnergies wsX3_put := goodIn_r _ [26, 19, 54] (by decide +kernel) (by decide +kernel)
set_option maxRecDepth 20000 in
theorem gX2_computeEnergies_X3_put : GoodIn wsX2_computeEnergies (wsV RX2 59 RX3 yX3_put wsX3_put) := goodIn_app (goodIn_of _ (by decide +kernel)) ggX2_computeEnergies_X3_put
set_option maxRecDepth 20000 in
theorem ggX2_computeEnergies_X2_energyLost : GoodIn wsX2_computeEnergies wsX2_energyLost := goodIn_r _ [30, 1, 31, 2, 4, 5, 6, 7, 32, 14, 15, 16, 17, 18, 19, 33, 34, 35, 36, 37, 38, 39, 40, 41, 42, 43, 44, 45, 46, 47, 48, 49, 50, 51, 52, 53, 54] (by decide +kernel) (by decide +kernel)
set_option maxRecDepth 20000 in
theorem gX2_computeEnergies_X2_energyLost : GoodIn wsX2_computeEnergies (wsV RX2 63 RX2 yX2_energyLost wsX2_energyLost) := goodIn_app (goodIn_of _ (by decide +kernel)) ggX2_computeEnergies_X2_energyLost
theorem dX2_computeEnergies_0 : decode cX2_computeEnergies 0 = .ok (.aload_n 0, 1) := by decide +kernel
theorem dX2_computeEnergies_1 : decode cX2_computeEnergies 1 = .ok (.aload_n 0, 1) := by decide +kernel
theorem dX2_computeEnergies_2 : decode cX2_computeEnergies 2 = .ok (.getfield 29, 3) := by decide +kernel
theorem dX2_computeEnergies_5 : decode cX2_computeEnergies 5 = .ok (.getfield 49, 3) := by decide +kernel
theorem dX2_computeEnergies_8 : decode cX2_computeEnergies 8 = .ok (.iconst 1, 1) := by decide +kernel
theorem dX2_computeEnergies_9 : decode cX2_computeEnergies 9 = .ok (.isub, 1) := by decide +kernel
theorem dX2_computeEnergies_10 : decode cX2_computeEnergies 10 = .ok (.invokevirtual 55, 3) := by decide +kernel
theorem dX2_computeEnergies_13 : decode cX2_computeEnergies 13 = .ok (.istore_n 1, 1) := by decide +kernel
theorem dX2_computeEnergies_14 : decode cX2_computeEnergies 14 = .ok (.aload_n 0, 1) := by decide +kernel
theorem dX2_computeEnergies_15 : decode cX2_computeEnergies 15 = .ok (.getfield 14, 3) := by decide +kernel
theorem dX2_computeEnergies_18 : decode cX2_computeEnergies 18 = .ok (.aload_n 0, 1) := by decide +kernel
theorem dX2_computeEnergies_19 : decode cX2_computeEnergies 19 = .ok (.getfield 29, 3) := by decide +kernel
theorem dX2_computeEnergies_22 : decode cX2_computeEnergies 22 = .ok (.getfield 49, 3) := by decide +kernel
theorem dX2_computeEnergies_25 : decode cX2_computeEnergies 25 = .ok (.iload_n 1, 1) := by decide +kernel
theorem dX2_computeEnergies_26 : decode cX2_computeEnergies 26 = .ok (.invokevirtual 59, 3) := by decide +kernel
theorem dX2_computeEnergies_29 : decode cX2_computeEnergies 29 = .ok (.aload_n 0, 1) := by decide +kernel
theorem dX2_computeEnergies_30 : decode cX2_computeEnergies 30 = .ok (.getfield 29, 3) := by decide +kernel
theorem dX2_computeEnergies_33 : decode cX2_computeEnergies 33 = .ok (.getfield 49, 3) := by decide +kernel
theorem dX2_computeEnergies_36 : decode cX2_computeEnergies 36 = .ok (.iconst 1, 1) := by decide +kernel
theorem dX2_computeEnergies_37 : decode cX2_computeEnergies 37 = .ok (.isub, 1) := by decide +kernel
theorem dX2_computeEnergies_38 : decode cX2_computeEnergies 38 = .ok (.istore_n 2, 1) := by decide +kernel
theorem dX2_computeEnergies_39 : decode cX2_computeEnergies 39 = .ok (.iload_n 2, 1) := by decide +kernel
theorem dX2_computeEnergies_40 : decode cX2_computeEnergies 40 = .ok (.ifCond .lt 34, 3) := by decide +kernel
theorem dX2_computeEnergies_43 : decode cX2_computeEnergies 43 = .ok (.aload_n 0, 1) := by decide +kernel
theorem dX2_computeEnergies_44 : decode cX2_computeEnergies 44 = .ok (.iload_n 2, 1) := by decide +kernel
theorem dX2_computeEnergies_45 : decode cX2_computeEnergies 45 = .ok (.invokevirtual 55, 3) := by decide +kernel
theorem dX2_computeEnergies_48 : decode cX2_computeEnergies 48 = .ok (.iload_n 1, 1) := by decide +kernel
theorem dX2_computeEnergies_49 : decode cX2_computeEnergies 49 = .ok (.aload_n 0, 1) := by decide +kernel
theorem dX2_computeEnergies_50 : decode cX2_computeEnergies 50 = .ok (.iload_n 2, 1) := by decide +kernel
theorem dX2_computeEnergies_51 : decode cX2_computeEnergies 51 = .ok (.invokevirtual 63, 3) := by decide +kernel
theorem dX2_computeEnergies_54 : decode cX2_computeEnergies 54 = .ok (.iadd, 1) := by decide +kernel
theorem dX2_computeEnergies_55 : decode cX2_computeEnergies 55 = .ok (.invokestatic 66, 3) := by decide +kernel
theorem dX2_computeEnergies_58 : decode cX2_computeEnergies 58 = .ok (.istore_n 1, 1) := by decide +kernel
theorem dX2_computeEnergies_59 : decode cX2_computeEnergies 59 = .ok (.aload_n 0, 1) := by decide +kernel
theorem dX2_computeEnergies_60 : decode cX2_computeEnergies 60 = .ok (.getfield 14, 3) := by decide +kernel
theorem dX2_computeEnergies_63 : decode cX2_computeEnergies 63 = .ok (.iload_n 2, 1) := by decide +kernel
theorem dX2_computeEnergies_64 : decode cX2_computeEnergies 64 = .ok (.iload_n 1, 1) := by decide +kernel
theorem dX2_computeEnergies_65 : decode cX2_computeEnergies 65 = .ok (.invokevirtual 59, 3) := by decide +kernel
theorem dX2_computeEnergies_68 : decode cX2_computeEnergies 68 = .ok (.iinc 2 (-1), 3) := by decide +kernel
theorem dX2_computeEnergies_71 : decode cX2_computeEnergies 71 = .ok (.goto (-32), 3) := by decide +kernel
theorem dX2_computeEnergies_74 : decode cX2_computeEnergies 74 = .ok (.return_, 1) := by decide +kernel
set_option maxRecDepth 20000 in
theorem ggX2_greatestEnergy_X3_at : GoodIn wsX2_greatestEnergy wsX3_at := goodIn_r _ [7, 8, 34] (by decide +kernel) (by decide +kernel)
set_option maxRecDepth 20000 in
theorem gX2_greatestEnergy_X3_at : GoodIn wsX2_greatestEnergy (wsV RX2 75 RX3 yX3_at wsX3_at) := goodIn_app (goodIn_of _ (by decide +kernel)) ggX2_greatestEnergy_X3_at
set_option maxRecDepth 20000 in
theorem ggX2_greatestEnergy_X2_energyOf : GoodIn wsX2_greatestEnergy wsX2_energyOf := goodIn_r _ [12] (by decide +kernel) (by decide +kernel)
set_option maxRecDepth 20000 in
theorem gX2_greatestEnergy_X2_energyOf : GoodIn wsX2_greatestEnergy (va_wsS RX2 78 yX2_energyOf wsX2_energyOf) := goodIn_app (goodIn_of _ (by decide +kernel)) ggX2_greatestEnergy_X2_energyOf
theorem dX2_greatestEnergy_0 : decode cX2_greatestEnergy 0 = .ok (.aload_n 0, 1) := by decide +kernel
theorem dX2_greatestEnergy_1 : decode cX2_greatestEnergy 1 = .ok (.getfield 29, 3) := by decide +kernel
theorem dX2_greatestEnergy_4 : decode cX2_greatestEnergy 4 = .ok (.getfield 72, 3) := by decide +kernel
theorem dX2_greatestEnergy_7 : decode cX2_greatestEnergy 7 = .ok (.iload_n 1, 1) := by decide +kernel
theorem dX2_greatestEnergy_8 : decode cX2_greatestEnergy 8 = .ok (.invokevirtual 75, 3) := by decide +kernel
theorem dX2_greatestEnergy_11 : decode cX2_greatestEnergy 11 = .ok (.invokestatic 78, 3) := by decide +kernel
theorem dX2_greatestEnergy_14 : decode cX2_greatestEnergy 14 = .ok (.ireturn, 1) := by decide +kernel
theorem dX2_energyOf_0 : decode cX2_energyOf 0 = .ok (.bipush 125, 2) := by decide +kernel
theorem dX2_energyOf_2 : decode cX2_energyOf 2 = .ok (.iload_n 0, 1) := by decide +kernel
theorem dX2_energyOf_3 : decode cX2_energyOf 3 = .ok (.imul, 1) := by decide +kernel
theorem dX2_energyOf_4 : decode cX2_energyOf 4 = .ok (.iload_n 0, 1) := by decide +kernel
theorem dX2_energyOf_5 : decode cX2_energyOf 5 = .ok (.imul, 1) := by decide +kernel
theorem dX2_energyOf_6 : decode cX2_energyOf 6 = .ok (.ireturn, 1) := by decide +kernel
set_option maxRecDepth 20000 in
theorem ggX2_energyLost_X3_at : GoodIn wsX2_energyLost wsX3_at := goodIn_r _ [13, 14, 36] (by decide +kernel) (by decide +kernel)
set_option maxRecDepth 20000 in
theorem gX2_energyLost_X3_at : GoodIn wsX2_energyLost (wsV RX2 75 RX3 yX3_at wsX3_at) := goodIn_app (goodIn_of _ (by decide +kernel)) ggX2_energyLost_X3_at
theorem dX2_energyLost_0 : decode cX2_energyLost 0 = .ok (.aload_n 0, 1) := by decide +kernel
theorem dX2_energyLost_1 : decode cX2_energyLost 1 = .ok (.getfield 29, 3) := by decide +kernel
theorem dX2_energyLost_4 : decode cX2_energyLost 4 = .ok (.getfield 81, 3) := by decide +kernel
theorem dX2_energyLost_7 : decode cX2_energyLost 7 = .ok (.iload_n 1, 1) := by decide +kernel
theorem dX2_energyLost_8 : decode cX2_energyLost 8 = .ok (.aload_n 0, 1) := by decide +kernel
theorem dX2_energyLost_9 : decode cX2_energyLost 9 = .ok (.getfield 29, 3) := by decide +kernel
theorem dX2_energyLost_12 : decode cX2_energyLost 12 = .ok (.getfield 49, 3) := by decide +kernel
theorem dX2_energyLost_15 : decode cX2_energyLost 15 = .ok (.iconst 1, 1) := by decide +kernel
theorem dX2_energyLost_16 : decode cX2_energyLost 16 = .ok (.isub, 1) := by decide +kernel
theorem dX2_energyLost_17 : decode cX2_energyLost 17 = .ok (.invokestatic 66, 3) := by decide +kernel
theorem dX2_energyLost_20 : decode cX2_energyLost 20 = .ok (.invokevirtual 75, 3) := by decide +kernel
theorem dX2_energyLost_23 : decode cX2_energyLost 23 = .ok (.istore_n 2, 1) := by decide +kernel
theorem dX2_energyLost_24 : decode cX2_energyLost 24 = .ok (.sipush 162, 3) := by decide +kernel
theorem dX2_energyLost_27 : decode cX2_energyLost 27 = .ok (.bipush 10, 2) := by decide +kernel
theorem dX2_energyLost_29 : decode cX2_energyLost 29 = .ok (.aload_n 0, 1) := by decide +kernel
theorem dX2_energyLost_30 : decode cX2_energyLost 30 = .ok (.getfield 29, 3) := by decide +kernel
theorem dX2_energyLost_33 : decode cX2_energyLost 33 = .ok (.getfield 84, 3) := by decide +kernel
theorem dX2_energyLost_36 : decode cX2_energyLost 36 = .ok (.imul, 1) := by decide +kernel
theorem dX2_energyLost_37 : decode cX2_energyLost 37 = .ok (.bipush 10, 2) := by decide +kernel
theorem dX2_energyLost_39 : decode cX2_energyLost 39 = .ok (.iload_n 2, 1) := by decide +kernel
theorem dX2_energyLost_40 : decode cX2_energyLost 40 = .ok (.imul, 1) := by decide +kernel
theorem dX2_energyLost_41 : decode cX2_energyLost 41 = .ok (.iadd, 1) := by decide +kernel
theorem dX2_energyLost_42 : decode cX2_energyLost 42 = .ok (.imul, 1) := by decide +kernel
theorem dX2_energyLost_43 : decode cX2_energyLost 43 = .ok (.ireturn, 1) := by decide +kernel
set_option maxRecDepth 20000 in
theorem ggX2_computeSpeeds_X3_at : GoodIn wsX2_computeSpeeds wsX3_at := goodIn_r _ [9, 10, 43] (by decide +kernel) (by decide +kernel)
set_option maxRecDepth 20000 in
theorem gX2_computeSpeeds_X3_at : GoodIn wsX2_computeSpeeds (wsV RX2 75 RX3 yX3_at wsX3_at) := goodIn_app (goodIn_of _ (by decide +kernel)) ggX2_computeSpeeds_X3_at
set_option maxRecDepth 20000 in
theorem ggX2_computeSpeeds_X2_speedWith : GoodIn wsX2_computeSpeeds wsX2_speedWith := goodIn_r _ [14, 15, 16, 13, 17] (by decide +kernel) (by decide +kernel)
set_option maxRecDepth 20000 in
theorem gX2_computeSpeeds_X2_speedWith : GoodIn wsX2_computeSpeeds (va_wsS RX2 87 yX2_speedWith wsX2_speedWith) := goodIn_app (goodIn_of _ (by decide +kernel)) ggX2_computeSpeeds_X2_speedWith
set_option maxRecDepth 20000 in
theorem ggX2_computeSpeeds_X3_put : GoodIn wsX2_computeSpeeds wsX3_put := goodIn_r _ [21, 10, 43] (by decide +kernel) (by decide +kernel)
set_option maxRecDepth 20000 in
theorem gX2_computeSpeeds_X3_put : GoodIn wsX2_computeSpeeds (wsV RX2 59 RX3 yX3_put wsX3_put) := goodIn_app (goodIn_of _ (by decide +kernel)) ggX2_computeSpeeds_X3_put
theorem dX2_computeSpeeds_0 : decode cX2_computeSpeeds 0 = .ok (.iconst 0, 1) := by decide +kernel
theorem dX2_computeSpeeds_1 : decode cX2_computeSpeeds 1 = .ok (.istore_n 1, 1) := by decide +kernel
theorem dX2_computeSpeeds_2 : decode cX2_computeSpeeds 2 = .ok (.iload_n 1, 1) := by decide +kernel
theorem dX2_computeSpeeds_3 : decode cX2_computeSpeeds 3 = .ok (.aload_n 0, 1) := by decide +kernel
theorem dX2_computeSpeeds_4 : decode cX2_computeSpeeds 4 = .ok (.getfield 29, 3) := by decide +kernel
theorem dX2_computeSpeeds_7 : decode cX2_computeSpeeds 7 = .ok (.getfield 49, 3) := by decide +kernel
theorem dX2_computeSpeeds_10 : decode cX2_computeSpeeds 10 = .ok (.if_icmp .gt 28, 3) := by decide +kernel
theorem dX2_computeSpeeds_13 : decode cX2_computeSpeeds 13 = .ok (.aload_n 0, 1) := by decide +kernel
theorem dX2_computeSpeeds_14 : decode cX2_computeSpeeds 14 = .ok (.getfield 20, 3) := by decide +kernel
theorem dX2_computeSpeeds_17 : decode cX2_computeSpeeds 17 = .ok (.iload_n 1, 1) := by decide +kernel
theorem dX2_computeSpeeds_18 : decode cX2_computeSpeeds 18 = .ok (.aload_n 0, 1) := by decide +kernel
theorem dX2_computeSpeeds_19 : decode cX2_computeSpeeds 19 = .ok (.getfield 14, 3) := by decide +kernel
theorem dX2_computeSpeeds_22 : decode cX2_computeSpeeds 22 = .ok (.iload_n 1, 1) := by decide +kernel
theorem dX2_computeSpeeds_23 : decode cX2_computeSpeeds 23 = .ok (.invokevirtual 75, 3) := by decide +kernel
theorem dX2_computeSpeeds_26 : decode cX2_computeSpeeds 26 = .ok (.invokestatic 87, 3) := by decide +kernel
theorem dX2_computeSpeeds_29 : decode cX2_computeSpeeds 29 = .ok (.invokevirtual 59, 3) := by decide +kernel
theorem dX2_computeSpeeds_32 : decode cX2_computeSpeeds 32 = .ok (.iinc 1 1, 3) := by decide +kernel
theorem dX2_computeSpeeds_35 : decode cX2_computeSpeeds 35 = .ok (.goto (-33), 3) := by decide +kernel
theorem dX2_computeSpeeds_38 : decode cX2_computeSpeeds 38 = .ok (.return_, 1) := by decide +kernel
set_option maxRecDepth 20000 in
theorem ggX2_speedWith_X2_energyOf : GoodIn wsX2_speedWith wsX2_energyOf := goodIn_r _ [4] (by decide +kernel) (by decide +kernel)
set_option maxRecDepth 20000 in
theorem gX2_speedWith_X2_energyOf : GoodIn wsX2_speedWith (va_wsS RX2 78 yX2_energyOf wsX2_energyOf) := goodIn_app (goodIn_of _ (by decide +kernel)) ggX2_speedWith_X2_energyOf
theorem dX2_speedWith_0 : decode cX2_speedWith 0 = .ok (.iconst 0, 1) := by decide +kernel
theorem dX2_speedWith_1 : decode cX2_speedWith 1 = .ok (.istore_n 1, 1) := by decide +kernel
theorem dX2_speedWith_2 : decode cX2_speedWith 2 = .ok (.bipush 7, 2) := by decide +kernel
theorem dX2_speedWith_4 : decode cX2_speedWith 4 = .ok (.istore_n 2, 1) := by decide +kernel
theorem dX2_speedWith_5 : decode cX2_speedWith 5 = .ok (.iload_n 2, 1) := by decide +kernel
theorem dX2_speedWith_6 : decode cX2_speedWith 6 = .ok (.ifCond .lt 25, 3) := by decide +kernel
theorem dX2_speedWith_9 : decode cX2_speedWith 9 = .ok (.iload_n 1, 1) := by decide +kernel
theorem dX2_speedWith_10 : decode cX2_speedWith 10 = .ok (.iconst 1, 1) := by decide +kernel
theorem dX2_speedWith_11 : decode cX2_speedWith 11 = .ok (.iload_n 2, 1) := by decide +kernel
theorem dX2_speedWith_12 : decode cX2_speedWith 12 = .ok (.ishl, 1) := by decide +kernel
theorem dX2_speedWith_13 : decode cX2_speedWith 13 = .ok (.iadd, 1) := by decide +kernel
theorem dX2_speedWith_14 : decode cX2_speedWith 14 = .ok (.istore_n 3, 1) := by decide +kernel
theorem dX2_speedWith_15 : decode cX2_speedWith 15 = .ok (.iload_n 3, 1) := by decide +kernel
theorem dX2_speedWith_16 : decode cX2_speedWith 16 = .ok (.invokestatic 78, 3) := by decide +kernel
theorem dX2_speedWith_19 : decode cX2_speedWith 19 = .ok (.iload_n 0, 1) := by decide +kernel
theorem dX2_speedWith_20 : decode cX2_speedWith 20 = .ok (.if_icmp .gt 5, 3) := by decide +kernel
theorem dX2_speedWith_23 : decode cX2_speedWith 23 = .ok (.iload_n 3, 1) := by decide +kernel
theorem dX2_speedWith_24 : decode cX2_speedWith 24 = .ok (.istore_n 1, 1) := by decide +kernel
theorem dX2_speedWith_25 : decode cX2_speedWith 25 = .ok (.iinc 2 (-1), 3) := by decide +kernel
theorem dX2_speedWith_28 : decode cX2_speedWith 28 = .ok (.goto (-23), 3) := by decide +kernel
theorem dX2_speedWith_31 : decode cX2_speedWith 31 = .ok (.iload_n 1, 1) := by decide +kernel
theorem dX2_speedWith_32 : decode cX2_speedWith 32 = .ok (.ireturn, 1) := by decide +kernel
set_option maxRecDepth 20000 in
theorem ggX2_computeDistances_X3_at : GoodIn wsX2_computeDistances wsX3_at := goodIn_r _ [11, 12, 56] (by decide +kernel) (by decide +kernel)
set_option maxRecDepth 20000 in
theorem gX2_computeDistances_X3_at : GoodIn wsX2_computeDistances (wsV RX2 75 RX3 yX3_at wsX3_at) := goodIn_app (goodIn_of _ (by decide +kernel)) ggX2_computeDistances_X3_at
set_option maxRecDepth 20000 in
theorem ggX2_computeDistances_X2_roundUp : GoodIn wsX2_computeDistances wsX2_roundUp := goodIn_r _ [16] (by decide +kernel) (by decide +kernel)
set_option maxRecDepth 20000 in
theorem gX2_computeDistances_X2_roundUp : GoodIn wsX2_computeDistances (va_wsS RX2 93 yX2_roundUp wsX2_roundUp) := goodIn_app (goodIn_of _ (by decide +kernel)) ggX2_computeDistances_X2_roundUp
set_option maxRecDepth 20000 in
theorem ggX2_computeDistances_X2_brakingCells : GoodIn wsX2_computeDistances wsX2_brakingCells := goodIn_r _ [20, 21, 22, 23, 15, 24, 1, 25, 2, 26, 27, 28, 29, 30, 7, 8, 9, 10, 11, 12, 35, 36, 37, 38, 39, 40, 41, 42, 43, 44, 45, 46, 47, 48, 49, 50, 51, 52, 53, 54, 55, 56] (by decide +kernel) (by decide +kernel)
set_option maxRecDepth 20000 in
theorem gX2_computeDistances_X2_brakingCells : GoodIn wsX2_computeDistances (wsV RX2 96 RX2 yX2_brakingCells wsX2_brakingCells) := goodIn_app (goodIn_of _ (by decide +kernel)) ggX2_computeDistances_X2_brakingCells
set_option maxRecDepth 20000 in
theorem ggX2_computeDistances_X3_put : GoodIn wsX2_computeDistances wsX3_put := goodIn_r _ [34, 12, 56] (by decide +kernel) (by decide +kernel)
set_option maxRecDepth 20000 in
theorem gX2_computeDistances_X3_put : GoodIn wsX2_computeDistances (wsV RX2 59 RX3 yX3_put wsX3_put) := goodIn_app (goodIn_of _ (by decide +kernel)) ggX2_computeDistances_X3_put
theorem dX2_computeDistances_0 : decode cX2_computeDistances 0 = .ok (.iconst 0, 1) := by decide +kernel
theorem dX2_computeDistances_1 : decode cX2_computeDistances 1 = .ok (.istore_n 1, 1) := by decide +kernel
theorem dX2_computeDistances_2 : decode cX2_computeDistances 2 = .ok (.iload_n 1, 1) := by decide +kernel
theorem dX2_computeDistances_3 : decode cX2_computeDistances 3 = .ok (.aload_n 0, 1) := by decide +kernel
theorem dX2_computeDistances_4 : decode cX2_computeDistances 4 = .ok (.getfield 29, 3) := by decide +kernel
theorem dX2_computeDistances_7 : decode cX2_computeDistances 7 = .ok (.getfield 49, 3) := by decide +kernel
theorem dX2_computeDistances_10 : decode cX2_computeDistances 10 = .ok (.if_icmp .gt 59, 3) := by decide +kernel
theorem dX2_computeDistances_13 : decode cX2_computeDistances 13 = .ok (.aload_n 0, 1) := by decide +kernel
theorem dX2_computeDistances_14 : decode cX2_computeDistances 14 = .ok (.getfield 20, 3) := by decide +kernel
theorem dX2_computeDistances_17 : decode cX2_computeDistances 17 = .ok (.iload_n 1, 1) := by decide +kernel
theorem dX2_computeDistances_18 : decode cX2_computeDistances 18 = .ok (.invokevirtual 75, 3) := by decide +kernel
theorem dX2_computeDistances_21 : decode cX2_computeDistances 21 = .ok (.aload_n 0, 1) := by decide +kernel
theorem dX2_computeDistances_22 : decode cX2_computeDistances 22 = .ok (.getfield 29, 3) := by decide +kernel
theorem dX2_computeDistances_25 : decode cX2_computeDistances 25 = .ok (.getfield 90, 3) := by decide +kernel
theorem dX2_computeDistances_28 : decode cX2_computeDistances 28 = .ok (.imul, 1) := by decide +kernel
theorem dX2_computeDistances_29 : decode cX2_computeDistances 29 = .ok (.sipush 1800, 3) := by decide +kernel
theorem dX2_computeDistances_32 : decode cX2_computeDistances 32 = .ok (.invokestatic 93, 3) := by decide +kernel
theorem dX2_computeDistances_35 : decode cX2_computeDistances 35 = .ok (.istore_n 2, 1) := by decide +kernel
theorem dX2_computeDistances_36 : decode cX2_computeDistances 36 = .ok (.aload_n 0, 1) := by decide +kernel
theorem dX2_computeDistances_37 : decode cX2_computeDistances 37 = .ok (.iload_n 1, 1) := by decide +kernel
theorem dX2_computeDistances_38 : decode cX2_computeDistances 38 = .ok (.iload_n 2, 1) := by decide +kernel
theorem dX2_computeDistances_39 : decode cX2_computeDistances 39 = .ok (.iadd, 1) := by decide +kernel
theorem dX2_computeDistances_40 : decode cX2_computeDistances 40 = .ok (.aload_n 0, 1) := by decide +kernel
theorem dX2_computeDistances_41 : decode cX2_computeDistances 41 = .ok (.getfield 14, 3) := by decide +kernel
theorem dX2_computeDistances_44 : decode cX2_computeDistances 44 = .ok (.iload_n 1, 1) := by decide +kernel
theorem dX2_computeDistances_45 : decode cX2_computeDistances 45 = .ok (.invokevirtual 75, 3) := by decide +kernel
theorem dX2_computeDistances_48 : decode cX2_computeDistances 48 = .ok (.invokevirtual 96, 3) := by decide +kernel
theorem dX2_computeDistances_51 : decode cX2_computeDistances 51 = .ok (.istore_n 3, 1) := by decide +kernel
theorem dX2_computeDistances_52 : decode cX2_computeDistances 52 = .ok (.aload_n 0, 1) := by decide +kernel
theorem dX2_computeDistances_53 : decode cX2_computeDistances 53 = .ok (.getfield 23, 3) := by decide +kernel
theorem dX2_computeDistances_56 : decode cX2_computeDistances 56 = .ok (.iload_n 1, 1) := by decide +kernel
theorem dX2_computeDistances_57 : decode cX2_computeDistances 57 = .ok (.iload_n 2, 1) := by decide +kernel
theorem dX2_computeDistances_58 : decode cX2_computeDistances 58 = .ok (.iload_n 3, 1) := by decide +kernel
theorem dX2_computeDistances_59 : decode cX2_computeDistances 59 = .ok (.iadd, 1) := by decide +kernel
theorem dX2_computeDistances_60 : decode cX2_computeDistances 60 = .ok (.invokevirtual 59, 3) := by decide +kernel
theorem dX2_computeDistances_63 : decode cX2_computeDistances 63 = .ok (.iinc 1 1, 3) := by decide +kernel
theorem dX2_computeDistances_66 : decode cX2_computeDistances 66 = .ok (.goto (-64), 3) := by decide +kernel
theorem dX2_computeDistances_69 : decode cX2_computeDistances 69 = .ok (.return_, 1) := by decide +kernel
set_option maxRecDepth 20000 in
theorem ggX2_brakingCells_X2_energyLost : GoodIn wsX2_brakingCells wsX2_energyLost := goodIn_r _ [5, 6, 7, 8, 9, 10, 11, 12, 13, 14, 15, 16, 17, 18, 19, 20, 21, 22, 23, 24, 25, 26, 27, 28, 29, 30, 31, 32, 33, 34, 35, 36, 37, 38, 39, 40, 41] (by decide +kernel) (by decide +kernel)
set_option maxRecDepth 20000 in
theorem gX2_brakingCells_X2_energyLost : GoodIn wsX2_brakingCells (wsV RX2 63 RX2 yX2_energyLost wsX2_energyLost) := goodIn_app (goodIn_of _ (by decide +kernel)) ggX2_brakingCells_X2_energyLost
theorem dX2_brakingCells_0 : decode cX2_brakingCells 0 = .ok (.iconst 0, 1) := by decide +kernel
theorem dX2_brakingCells_1 : decode cX2_brakingCells 1 = .ok (.istore_n 3, 1) := by decide +kernel
theorem dX2_brakingCells_2 : decode cX2_brakingCells 2 = .ok (.iconst 0, 1) := by decide +kernel
theorem dX2_brakingCells_3 : decode cX2_brakingCells 3 = .ok (.istore 4, 2) := by decide +kernel
theorem dX2_brakingCells_5 : decode cX2_brakingCells 5 = .ok (.iload_n 3, 1) := by decide +kernel
theorem dX2_brakingCells_6 : decode cX2_brakingCells 6 = .ok (.iload_n 2, 1) := by decide +kernel
theorem dX2_brakingCells_7 : decode cX2_brakingCells 7 = .ok (.if_icmp .ge 28, 3) := by decide +kernel
theorem dX2_brakingCells_10 : decode cX2_brakingCells 10 = .ok (.iload 4, 2) := by decide +kernel
theorem dX2_brakingCells_12 : decode cX2_brakingCells 12 = .ok (.sipush 1000, 3) := by decide +kernel
theorem dX2_brakingCells_15 : decode cX2_brakingCells 15 = .ok (.if_icmp .ge 20, 3) := by decide +kernel
theorem dX2_brakingCells_18 : decode cX2_brakingCells 18 = .ok (.iload_n 3, 1) := by decide +kernel
theorem dX2_brakingCells_19 : decode cX2_brakingCells 19 = .ok (.aload_n 0, 1) := by decide +kernel
theorem dX2_brakingCells_20 : decode cX2_brakingCells 20 = .ok (.iload_n 1, 1) := by decide +kernel
theorem dX2_brakingCells_21 : decode cX2_brakingCells 21 = .ok (.iload 4, 2) := by decide +kernel
theorem dX2_brakingCells_23 : decode cX2_brakingCells 23 = .ok (.iadd, 1) := by decide +kernel
theorem dX2_brakingCells_24 : decode cX2_brakingCells 24 = .ok (.invokevirtual 63, 3) := by decide +kernel
theorem dX2_brakingCells_27 : decode cX2_brakingCells 27 = .ok (.iadd, 1) := by decide +kernel
theorem dX2_brakingCells_28 : decode cX2_brakingCells 28 = .ok (.istore_n 3, 1) := by decide +kernel
theorem dX2_brakingCells_29 : decode cX2_brakingCells 29 = .ok (.iinc 4 1, 3) := by decide +kernel
theorem dX2_brakingCells_32 : decode cX2_brakingCells 32 = .ok (.goto (-27), 3) := by decide +kernel
theorem dX2_brakingCells_35 : decode cX2_brakingCells 35 = .ok (.iload 4, 2) := by decide +kernel
theorem dX2_brakingCells_37 : decode cX2_brakingCells 37 = .ok (.ireturn, 1) := by decide +kernel
set_option maxRecDepth 20000 in
theorem ggX2_computeTimes_X3_put : GoodIn wsX2_computeTimes wsX3_put := goodIn_r _ [10, 11, 41] (by decide +kernel) (by decide +kernel)
set_option maxRecDepth 20000 in
theorem gX2_computeTimes_X3_put : GoodIn wsX2_computeTimes (wsV RX2 59 RX3 yX3_put wsX3_put) := goodIn_app (goodIn_of _ (by decide +kernel)) ggX2_computeTimes_X3_put
set_option maxRecDepth 20000 in
theorem ggX2_computeTimes_X3_at : GoodIn wsX2_computeTimes wsX3_at := goodIn_r _ [15, 11, 41] (by decide +kernel) (by decide +kernel)
set_option maxRecDepth 20000 in
theorem gX2_computeTimes_X3_at : GoodIn wsX2_computeTimes (wsV RX2 75 RX3 yX3_at wsX3_at) := goodIn_app (goodIn_of _ (by decide +kernel)) ggX2_computeTimes_X3_at
set_option maxRecDepth 20000 in
theorem ggX2_computeTimes_X2_roundUp : GoodIn wsX2_computeTimes wsX2_roundUp := goodIn_r _ [19] (by decide +kernel) (by decide +kernel)
set_option maxRecDepth 20000 in
theorem gX2_computeTimes_X2_roundUp : GoodIn wsX2_computeTimes (va_wsS RX2 93 yX2_roundUp wsX2_roundUp) := goodIn_app (goodIn_of _ (by decide +kernel)) ggX2_computeTimes_X2_roundUp
theorem dX2_computeTimes_0 : decode cX2_computeTimes 0 = .ok (.iconst 0, 1) := by decide +kernel
theorem dX2_computeTimes_1 : decode cX2_computeTimes 1 = .ok (.istore_n 1, 1) := by decide +kernel
theorem dX2_computeTimes_2 : decode cX2_computeTimes 2 = .ok (.aload_n 0, 1) := by decide +kernel
theorem dX2_computeTimes_3 : decode cX2_computeTimes 3 = .ok (.getfield 26, 3) := by decide +kernel
theorem dX2_computeTimes_6 : decode cX2_computeTimes 6 = .ok (.iconst 0, 1) := by decide +kernel
theorem dX2_computeTimes_7 : decode cX2_computeTimes 7 = .ok (.iload_n 1, 1) := by decide +kernel
theorem dX2_computeTimes_8 : decode cX2_computeTimes 8 = .ok (.invokevirtual 59, 3) := by decide +kernel
theorem dX2_computeTimes_11 : decode cX2_computeTimes 11 = .ok (.iconst 0, 1) := by decide +kernel
theorem dX2_computeTimes_12 : decode cX2_computeTimes 12 = .ok (.istore_n 2, 1) := by decide +kernel
theorem dX2_computeTimes_13 : decode cX2_computeTimes 13 = .ok (.iload_n 2, 1) := by decide +kernel
theorem dX2_computeTimes_14 : decode cX2_computeTimes 14 = .ok (.aload_n 0, 1) := by decide +kernel
theorem dX2_computeTimes_15 : decode cX2_computeTimes 15 = .ok (.getfield 29, 3) := by decide +kernel
theorem dX2_computeTimes_18 : decode cX2_computeTimes 18 = .ok (.getfield 49, 3) := by decide +kernel
theorem dX2_computeTimes_21 : decode cX2_computeTimes 21 = .ok (.if_icmp .ge 36, 3) := by decide +kernel
theorem dX2_computeTimes_24 : decode cX2_computeTimes 24 = .ok (.iload_n 1, 1) := by decide +kernel
theorem dX2_computeTimes_25 : decode cX2_computeTimes 25 = .ok (.ldc 99, 2) := by decide +kernel
theorem dX2_computeTimes_27 : decode cX2_computeTimes 27 = .ok (.aload_n 0, 1) := by decide +kernel
theorem dX2_computeTimes_28 : decode cX2_computeTimes 28 = .ok (.getfield 20, 3) := by decide +kernel
theorem dX2_computeTimes_31 : decode cX2_computeTimes 31 = .ok (.iload_n 2, 1) := by decide +kernel
theorem dX2_computeTimes_32 : decode cX2_computeTimes 32 = .ok (.invokevirtual 75, 3) := by decide +kernel
theorem dX2_computeTimes_35 : decode cX2_computeTimes 35 = .ok (.invokestatic 93, 3) := by decide +kernel
theorem dX2_computeTimes_38 : decode cX2_computeTimes 38 = .ok (.iadd, 1) := by decide +kernel
theorem dX2_computeTimes_39 : decode cX2_computeTimes 39 = .ok (.istore_n 1, 1) := by decide +kernel
theorem dX2_computeTimes_40 : decode cX2_computeTimes 40 = .ok (.aload_n 0, 1) := by decide +kernel
theorem dX2_computeTimes_41 : decode cX2_computeTimes 41 = .ok (.getfield 26, 3) := by decide +kernel
theorem dX2_computeTimes_44 : decode cX2_computeTimes 44 = .ok (.iload_n 2, 1) := by decide +kernel
theorem dX2_computeTimes_45 : decode cX2_computeTimes 45 = .ok (.iconst 1, 1) := by decide +kernel
theorem dX2_computeTimes_46 : decode cX2_computeTimes 46 = .ok (.iadd, 1) := by decide +kernel
theorem dX2_computeTimes_47 : decode cX2_computeTimes 47 = .ok (.iload_n 1, 1) := by decide +kernel
theorem dX2_computeTimes_48 : decode cX2_computeTimes 48 = .ok (.invokevirtual 59, 3) := by decide +kernel
theorem dX2_computeTimes_51 : decode cX2_computeTimes 51 = .ok (.iinc 2 1, 3) := by decide +kernel
theorem dX2_computeTimes_54 : decode cX2_computeTimes 54 = .ok (.goto (-41), 3) := by decide +kernel
theorem dX2_computeTimes_57 : decode cX2_computeTimes 57 = .ok (.return_, 1) := by decide +kernel
theorem dX2_roundUp_0 : decode cX2_roundUp 0 = .ok (.iload_n 1, 1) := by decide +kernel
theorem dX2_roundUp_1 : decode cX2_roundUp 1 = .ok (.ifCond .le 13, 3) := by decide +kernel
theorem dX2_roundUp_4 : decode cX2_roundUp 4 = .ok (.iload_n 0, 1) := by decide +kernel
theorem dX2_roundUp_5 : decode cX2_roundUp 5 = .ok (.iload_n 1, 1) := by decide +kernel
theorem dX2_roundUp_6 : decode cX2_roundUp 6 = .ok (.iadd, 1) := by decide +kernel
theorem dX2_roundUp_7 : decode cX2_roundUp 7 = .ok (.iconst 1, 1) := by decide +kernel
theorem dX2_roundUp_8 : decode cX2_roundUp 8 = .ok (.isub, 1) := by decide +kernel
theorem dX2_roundUp_9 : decode cX2_roundUp 9 = .ok (.iload_n 1, 1) := by decide +kernel
theorem dX2_roundUp_10 : decode cX2_roundUp 10 = .ok (.idiv, 1) := by decide +kernel
theorem dX2_roundUp_11 : decode cX2_roundUp 11 = .ok (.goto 4, 3) := by decide +kernel
theorem dX2_roundUp_14 : decode cX2_roundUp 14 = .ok (.iconst 0, 1) := by decide +kernel
theorem dX2_roundUp_15 : decode cX2_roundUp 15 = .ok (.ireturn, 1) := by decide +kernel
set_option maxRecDepth 20000 in
theorem ggX2_timeBetween_X3_at : GoodIn wsX2_timeBetween wsX3_at := goodIn_r _ [6, 7, 14] (by decide +kernel) (by decide +kernel)
set_option maxRecDepth 20000 in
theorem gX2_timeBetween_X3_at : GoodIn wsX2_timeBetween (wsV RX2 75 RX3 yX3_at wsX3_at) := goodIn_app (goodIn_of _ (by decide +kernel)) ggX2_timeBetween_X3_at
theorem dX2_timeBetween_0 : decode cX2_timeBetween 0 = .ok (.aload_n 0, 1) := by decide +kernel
theorem dX2_timeBetween_1 : decode cX2_timeBetween 1 = .ok (.getfield 26, 3) := by decide +kernel
theorem dX2_timeBetween_4 : decode cX2_timeBetween 4 = .ok (.iload_n 2, 1) := by decide +kernel
theorem dX2_timeBetween_5 : decode cX2_timeBetween 5 = .ok (.invokevirtual 75, 3) := by decide +kernel
theorem dX2_timeBetween_8 : decode cX2_timeBetween 8 = .ok (.aload_n 0, 1) := by decide +kernel
theorem dX2_timeBetween_9 : decode cX2_timeBetween 9 = .ok (.getfield 26, 3) := by decide +kernel
theorem dX2_timeBetween_12 : decode cX2_timeBetween 12 = .ok (.iload_n 1, 1) := by decide +kernel
theorem dX2_timeBetween_13 : decode cX2_timeBetween 13 = .ok (.invokevirtual 75, 3) := by decide +kernel
theorem dX2_timeBetween_16 : decode cX2_timeBetween 16 = .ok (.isub, 1) := by decide +kernel
theorem dX2_timeBetween_17 : decode cX2_timeBetween 17 = .ok (.ireturn, 1) := by decide +kernel
theorem dX2_sightOf_0 : decode cX2_sightOf 0 = .ok (.iload_n 1, 1) := by decide +kernel
theorem dX2_sightOf_1 : decode cX2_sightOf 1 = .ok (.aload_n 0, 1) := by decide +kernel
theorem dX2_sightOf_2 : decode cX2_sightOf 2 = .ok (.getfield 29, 3) := by decide +kernel
theorem dX2_sightOf_5 : decode cX2_sightOf 5 = .ok (.getfield 100, 3) := by decide +kernel
theorem dX2_sightOf_8 : decode cX2_sightOf 8 = .ok (.if_icmp .le 15, 3) := by decide +kernel
theorem dX2_sightOf_11 : decode cX2_sightOf 11 = .ok (.iload_n 1, 1) := by decide +kernel
theorem dX2_sightOf_12 : decode cX2_sightOf 12 = .ok (.aload_n 0, 1) := by decide +kernel
theorem dX2_sightOf_13 : decode cX2_sightOf 13 = .ok (.getfield 29, 3) := by decide +kernel
theorem dX2_sightOf_16 : decode cX2_sightOf 16 = .ok (.getfield 100, 3) := by decide +kernel
theorem dX2_sightOf_19 : decode cX2_sightOf 19 = .ok (.isub, 1) := by decide +kernel
theorem dX2_sightOf_20 : decode cX2_sightOf 20 = .ok (.goto 4, 3) := by decide +kernel
theorem dX2_sightOf_23 : decode cX2_sightOf 23 = .ok (.iconst 0, 1) := by decide +kernel
theorem dX2_sightOf_24 : decode cX2_sightOf 24 = .ok (.ireturn, 1) := by decide +kernel
set_option maxRecDepth 20000 in
theorem ggX2_stopsInSight_X2_sightOf : GoodIn wsX2_stopsInSight wsX2_sightOf := goodIn_r _ [6, 7, 8, 15, 16, 17, 18, 19, 20, 21, 22, 23, 24, 25, 26, 27, 28, 29, 30, 31, 32, 33, 34, 35] (by decide +kernel) (by decide +kernel)
set_option maxRecDepth 20000 in
theorem gX2_stopsInSight_X2_sightOf : GoodIn wsX2_stopsInSight (wsV RX2 103 RX2 yX2_sightOf wsX2_sightOf) := goodIn_app (goodIn_of _ (by decide +kernel)) ggX2_stopsInSight_X2_sightOf
set_option maxRecDepth 20000 in
theorem ggX2_stopsInSight_X3_at : GoodIn wsX2_stopsInSight wsX3_at := goodIn_r _ [13, 14, 36] (by decide +kernel) (by decide +kernel)
set_option maxRecDepth 20000 in
theorem gX2_stopsInSight_X3_at : GoodIn wsX2_stopsInSight (wsV RX2 75 RX3 yX3_at wsX3_at) := goodIn_app (goodIn_of _ (by decide +kernel)) ggX2_stopsInSight_X3_at
theorem dX2_stopsInSight_0 : decode cX2_stopsInSight 0 = .ok (.aload_n 0, 1) := by decide +kernel
theorem dX2_stopsInSight_1 : decode cX2_stopsInSight 1 = .ok (.iload_n 1, 1) := by decide +kernel
theorem dX2_stopsInSight_2 : decode cX2_stopsInSight 2 = .ok (.invokevirtual 103, 3) := by decide +kernel
theorem dX2_stopsInSight_5 : decode cX2_stopsInSight 5 = .ok (.istore_n 2, 1) := by decide +kernel
theorem dX2_stopsInSight_6 : decode cX2_stopsInSight 6 = .ok (.aload_n 0, 1) := by decide +kernel
theorem dX2_stopsInSight_7 : decode cX2_stopsInSight 7 = .ok (.getfield 23, 3) := by decide +kernel
theorem dX2_stopsInSight_10 : decode cX2_stopsInSight 10 = .ok (.iload_n 2, 1) := by decide +kernel
theorem dX2_stopsInSight_11 : decode cX2_stopsInSight 11 = .ok (.invokevirtual 75, 3) := by decide +kernel
theorem dX2_stopsInSight_14 : decode cX2_stopsInSight 14 = .ok (.iload_n 1, 1) := by decide +kernel
theorem dX2_stopsInSight_15 : decode cX2_stopsInSight 15 = .ok (.iload_n 2, 1) := by decide +kernel
theorem dX2_stopsInSight_16 : decode cX2_stopsInSight 16 = .ok (.isub, 1) := by decide +kernel
theorem dX2_stopsInSight_17 : decode cX2_stopsInSight 17 = .ok (.if_icmp .gt 7, 3) := by decide +kernel
theorem dX2_stopsInSight_20 : decode cX2_stopsInSight 20 = .ok (.iconst 1, 1) := by decide +kernel
theorem dX2_stopsInSight_21 : decode cX2_stopsInSight 21 = .ok (.goto 4, 3) := by decide +kernel
theorem dX2_stopsInSight_24 : decode cX2_stopsInSight 24 = .ok (.iconst 0, 1) := by decide +kernel
theorem dX2_stopsInSight_25 : decode cX2_stopsInSight 25 = .ok (.ireturn, 1) := by decide +kernel
set_option maxRecDepth 20000 in
theorem ggX2_blockTimeOf_X3_at : GoodIn wsX2_blockTimeOf wsX3_at := goodIn_r _ [16, 17, 50] (by decide +kernel) (by decide +kernel)
set_option maxRecDepth 20000 in
theorem gX2_blockTimeOf_X3_at : GoodIn wsX2_blockTimeOf (wsV RX2 75 RX3 yX3_at wsX3_at) := goodIn_app (goodIn_of _ (by decide +kernel)) ggX2_blockTimeOf_X3_at
set_option maxRecDepth 20000 in
theorem ggX2_blockTimeOf_X2_sightOf : GoodIn wsX2_blockTimeOf wsX2_sightOf := goodIn_r _ [22, 1, 23, 29, 30, 31, 32, 33, 34, 35, 36, 37, 38, 39, 40, 41, 42, 43, 44, 45, 46, 47, 48, 49] (by decide +kernel) (by decide +kernel)
set_option maxRecDepth 20000 in
theorem gX2_blockTimeOf_X2_sightOf : GoodIn wsX2_blockTimeOf (wsV RX2 103 RX2 yX2_sightOf wsX2_sightOf) := goodIn_app (goodIn_of _ (by decide +kernel)) ggX2_blockTimeOf_X2_sightOf
set_option maxRecDepth 20000 in
theorem ggX2_blockTimeOf_X2_timeBetween : GoodIn wsX2_blockTimeOf wsX2_timeBetween := goodIn_r _ [27, 28, 12, 13, 14, 15, 16, 17, 29, 30, 31, 32, 33, 34, 50] (by decide +kernel) (by decide +kernel)
set_option maxRecDepth 20000 in
theorem gX2_blockTimeOf_X2_timeBetween : GoodIn wsX2_blockTimeOf (wsV RX2 121 RX2 yX2_timeBetween wsX2_timeBetween) := goodIn_app (goodIn_of _ (by decide +kernel)) ggX2_blockTimeOf_X2_timeBetween
theorem dX2_blockTimeOf_0 : decode cX2_blockTimeOf 0 = .ok (.iload_n 1, 1) := by decide +kernel
theorem dX2_blockTimeOf_1 : decode cX2_blockTimeOf 1 = .ok (.aload_n 0, 1) := by decide +kernel
theorem dX2_blockTimeOf_2 : decode cX2_blockTimeOf 2 = .ok (.getfield 29, 3) := by decide +kernel
theorem dX2_blockTimeOf_5 : decode cX2_blockTimeOf 5 = .ok (.getfield 106, 3) := by decide +kernel
theorem dX2_blockTimeOf_8 : decode cX2_blockTimeOf 8 = .ok (.iadd, 1) := by decide +kernel
theorem dX2_blockTimeOf_9 : decode cX2_blockTimeOf 9 = .ok (.iconst 1, 1) := by decide +kernel
theorem dX2_blockTimeOf_10 : decode cX2_blockTimeOf 10 = .ok (.isub, 1) := by decide +kernel
theorem dX2_blockTimeOf_11 : decode cX2_blockTimeOf 11 = .ok (.istore_n 2, 1) := by decide +kernel
theorem dX2_blockTimeOf_12 : decode cX2_blockTimeOf 12 = .ok (.iload_n 2, 1) := by decide +kernel
theorem dX2_blockTimeOf_13 : decode cX2_blockTimeOf 13 = .ok (.aload_n 0, 1) := by decide +kernel
theorem dX2_blockTimeOf_14 : decode cX2_blockTimeOf 14 = .ok (.getfield 29, 3) := by decide +kernel
theorem dX2_blockTimeOf_17 : decode cX2_blockTimeOf 17 = .ok (.getfield 109, 3) := by decide +kernel
theorem dX2_blockTimeOf_20 : decode cX2_blockTimeOf 20 = .ok (.if_icmp .lt 5, 3) := by decide +kernel
theorem dX2_blockTimeOf_23 : decode cX2_blockTimeOf 23 = .ok (.iconst (-1), 1) := by decide +kernel
theorem dX2_blockTimeOf_24 : decode cX2_blockTimeOf 24 = .ok (.ireturn, 1) := by decide +kernel
theorem dX2_blockTimeOf_25 : decode cX2_blockTimeOf 25 = .ok (.aload_n 0, 1) := by decide +kernel
theorem dX2_blockTimeOf_26 : decode cX2_blockTimeOf 26 = .ok (.getfield 29, 3) := by decide +kernel
theorem dX2_blockTimeOf_29 : decode cX2_blockTimeOf 29 = .ok (.getfield 112, 3) := by decide +kernel
theorem dX2_blockTimeOf_32 : decode cX2_blockTimeOf 32 = .ok (.iload_n 2, 1) := by decide +kernel
theorem dX2_blockTimeOf_33 : decode cX2_blockTimeOf 33 = .ok (.invokevirtual 75, 3) := by decide +kernel
theorem dX2_blockTimeOf_36 : decode cX2_blockTimeOf 36 = .ok (.aload_n 0, 1) := by decide +kernel
theorem dX2_blockTimeOf_37 : decode cX2_blockTimeOf 37 = .ok (.getfield 29, 3) := by decide +kernel
theorem dX2_blockTimeOf_40 : decode cX2_blockTimeOf 40 = .ok (.getfield 115, 3) := by decide +kernel
theorem dX2_blockTimeOf_43 : decode cX2_blockTimeOf 43 = .ok (.iadd, 1) := by decide +kernel
theorem dX2_blockTimeOf_44 : decode cX2_blockTimeOf 44 = .ok (.aload_n 0, 1) := by decide +kernel
theorem dX2_blockTimeOf_45 : decode cX2_blockTimeOf 45 = .ok (.getfield 29, 3) := by decide +kernel
theorem dX2_blockTimeOf_48 : decode cX2_blockTimeOf 48 = .ok (.getfield 118, 3) := by decide +kernel
theorem dX2_blockTimeOf_51 : decode cX2_blockTimeOf 51 = .ok (.iadd, 1) := by decide +kernel
theorem dX2_blockTimeOf_52 : decode cX2_blockTimeOf 52 = .ok (.istore_n 3, 1) := by decide +kernel
theorem dX2_blockTimeOf_53 : decode cX2_blockTimeOf 53 = .ok (.aload_n 0, 1) := by decide +kernel
theorem dX2_blockTimeOf_54 : decode cX2_blockTimeOf 54 = .ok (.aload_n 0, 1) := by decide +kernel
theorem dX2_blockTimeOf_55 : decode cX2_blockTimeOf 55 = .ok (.aload_n 0, 1) := by decide +kernel
theorem dX2_blockTimeOf_56 : decode cX2_blockTimeOf 56 = .ok (.getfield 29, 3) := by decide +kernel
theorem dX2_blockTimeOf_59 : decode cX2_blockTimeOf 59 = .ok (.getfield 112, 3) := by decide +kernel
theorem dX2_blockTimeOf_62 : decode cX2_blockTimeOf 62 = .ok (.iload_n 1, 1) := by decide +kernel
theorem dX2_blockTimeOf_63 : decode cX2_blockTimeOf 63 = .ok (.invokevirtual 75, 3) := by decide +kernel
theorem dX2_blockTimeOf_66 : decode cX2_blockTimeOf 66 = .ok (.invokevirtual 103, 3) := by decide +kernel
theorem dX2_blockTimeOf_69 : decode cX2_blockTimeOf 69 = .ok (.aload_n 0, 1) := by decide +kernel
theorem dX2_blockTimeOf_70 : decode cX2_blockTimeOf 70 = .ok (.getfield 29, 3) := by decide +kernel
theorem dX2_blockTimeOf_73 : decode cX2_blockTimeOf 73 = .ok (.getfield 49, 3) := by decide +kernel
theorem dX2_blockTimeOf_76 : decode cX2_blockTimeOf 76 = .ok (.iload_n 3, 1) := by decide +kernel
theorem dX2_blockTimeOf_77 : decode cX2_blockTimeOf 77 = .ok (.invokestatic 66, 3) := by decide +kernel
theorem dX2_blockTimeOf_80 : decode cX2_blockTimeOf 80 = .ok (.invokevirtual 121, 3) := by decide +kernel
theorem dX2_blockTimeOf_83 : decode cX2_blockTimeOf 83 = .ok (.ireturn, 1) := by decide +kernel
set_option maxRecDepth 20000 in
theorem ggX2_greatestBlockTime_X2_blockTimeOf : GoodIn wsX2_greatestBlockTime wsX2_blockTimeOf := goodIn_r _ [11, 1, 12, 2, 13, 14, 15, 16, 17, 18, 5, 19, 20, 21, 22, 23, 24, 25, 26, 27, 28, 10, 29, 30, 31, 32, 33, 34, 35, 36, 37, 38, 39, 40, 41, 42, 43, 44, 45, 46, 47, 48, 49, 50, 51, 52, 53, 54, 55, 56, 57] (by decide +kernel) (by decide +kernel)
set_option maxRecDepth 20000 in
theorem gX2_greatestBlockTime_X2_blockTimeOf : GoodIn wsX2_greatestBlockTime (wsV RX2 124 RX2 yX2_blockTimeOf wsX2_blockTimeOf) := goodIn_app (goodIn_of _ (by decide +kernel)) ggX2_greatestBlockTime_X2_blockTimeOf
theorem dX2_greatestBlockTime_0 : decode cX2_greatestBlockTime 0 = .ok (.iconst (-1), 1) := by decide +kernel
theorem dX2_greatestBlockTime_1 : decode cX2_greatestBlockTime 1 = .ok (.istore_n 1, 1) := by decide +kernel
theorem dX2_greatestBlockTime_2 : decode cX2_greatestBlockTime 2 = .ok (.iconst 0, 1) := by decide +kernel
theorem dX2_greatestBlockTime_3 : decode cX2_greatestBlockTime 3 = .ok (.istore_n 2, 1) := by decide +kernel
theorem dX2_greatestBlockTime_4 : decode cX2_greatestBlockTime 4 = .ok (.iload_n 2, 1) := by decide +kernel
theorem dX2_greatestBlockTime_5 : decode cX2_greatestBlockTime 5 = .ok (.aload_n 0, 1) := by decide +kernel
theorem dX2_greatestBlockTime_6 : decode cX2_greatestBlockTime 6 = .ok (.getfield 29, 3) := by decide +kernel
theorem dX2_greatestBlockTime_9 : decode cX2_greatestBlockTime 9 = .ok (.getfield 109, 3) := by decide +kernel
theorem dX2_greatestBlockTime_12 : decode cX2_greatestBlockTime 12 = .ok (.if_icmp .ge 19, 3) := by decide +kernel
theorem dX2_greatestBlockTime_15 : decode cX2_greatestBlockTime 15 = .ok (.iload_n 1, 1) := by decide +kernel
theorem dX2_greatestBlockTime_16 : decode cX2_greatestBlockTime 16 = .ok (.aload_n 0, 1) := by decide +kernel
theorem dX2_greatestBlockTime_17 : decode cX2_greatestBlockTime 17 = .ok (.iload_n 2, 1) := by decide +kernel
theorem dX2_greatestBlockTime_18 : decode cX2_greatestBlockTime 18 = .ok (.invokevirtual 124, 3) := by decide +kernel
theorem dX2_greatestBlockTime_21 : decode cX2_greatestBlockTime 21 = .ok (.invokestatic 127, 3) := by decide +kernel
theorem dX2_greatestBlockTime_24 : decode cX2_greatestBlockTime 24 = .ok (.istore_n 1, 1) := by decide +kernel
theorem dX2_greatestBlockTime_25 : decode cX2_greatestBlockTime 25 = .ok (.iinc 2 1, 3) := by decide +kernel
theorem dX2_greatestBlockTime_28 : decode cX2_greatestBlockTime 28 = .ok (.goto (-24), 3) := by decide +kernel
theorem dX2_greatestBlockTime_31 : decode cX2_greatestBlockTime 31 = .ok (.iload_n 1, 1) := by decide +kernel
theorem dX2_greatestBlockTime_32 : decode cX2_greatestBlockTime 32 = .ok (.ireturn, 1) := by decide +kernel
theorem dX3_init_0 : decode cX3_init 0 = .ok (.aload_n 0, 1) := by decide +kernel
theorem dX3_init_1 : decode cX3_init 1 = .ok (.invokespecial 1, 3) := by decide +kernel
theorem dX3_init_4 : decode cX3_init 4 = .ok (.aload_n 0, 1) := by decide +kernel
theorem dX3_init_5 : decode cX3_init 5 = .ok (.iload_n 1, 1) := by decide +kernel
theorem dX3_init_6 : decode cX3_init 6 = .ok (.ifCond .ge 7, 3) := by decide +kernel
theorem dX3_init_9 : decode cX3_init 9 = .ok (.iconst 0, 1) := by decide +kernel
theorem dX3_init_10 : decode cX3_init 10 = .ok (.goto 4, 3) := by decide +kernel
theorem dX3_init_13 : decode cX3_init 13 = .ok (.iload_n 1, 1) := by decide +kernel
theorem dX3_init_14 : decode cX3_init 14 = .ok (.newarray .int, 2) := by decide +kernel
theorem dX3_init_16 : decode cX3_init 16 = .ok (.putfield 7, 3) := by decide +kernel
theorem dX3_init_19 : decode cX3_init 19 = .ok (.return_, 1) := by decide +kernel
theorem dX3_at_0 : decode cX3_at 0 = .ok (.iload_n 1, 1) := by decide +kernel
theorem dX3_at_1 : decode cX3_at 1 = .ok (.ifCond .lt 21, 3) := by decide +kernel
theorem dX3_at_4 : decode cX3_at 4 = .ok (.iload_n 1, 1) := by decide +kernel
theorem dX3_at_5 : decode cX3_at 5 = .ok (.aload_n 0, 1) := by decide +kernel
theorem dX3_at_6 : decode cX3_at 6 = .ok (.getfield 7, 3) := by decide +kernel
theorem dX3_at_9 : decode cX3_at 9 = .ok (.arraylength, 1) := by decide +kernel
theorem dX3_at_10 : decode cX3_at 10 = .ok (.if_icmp .ge 12, 3) := by decide +kernel
theorem dX3_at_13 : decode cX3_at 13 = .ok (.aload_n 0, 1) := by decide +kernel
theorem dX3_at_14 : decode cX3_at 14 = .ok (.getfield 7, 3) := by decide +kernel
theorem dX3_at_17 : decode cX3_at 17 = .ok (.iload_n 1, 1) := by decide +kernel
theorem dX3_at_18 : decode cX3_at 18 = .ok (.iaload, 1) := by decide +kernel
theorem dX3_at_19 : decode cX3_at 19 = .ok (.goto 4, 3) := by decide +kernel
theorem dX3_at_22 : decode cX3_at 22 = .ok (.iconst 0, 1) := by decide +kernel
theorem dX3_at_23 : decode cX3_at 23 = .ok (.ireturn, 1) := by decide +kernel
theorem dX3_put_0 : decode cX3_put 0 = .ok (.iload_n 1, 1) := by decide +kernel
theorem dX3_put_1 : decode cX3_put 1 = .ok (.ifCond .lt 19, 3) := by decide +kernel
theorem dX3_put_4 : decode cX3_put 4 = .ok (.iload_n 1, 1) := by decide +kernel
theorem dX3_put_5 : decode cX3_put 5 = .ok (.aload_n 0, 1) := by decide +kernel
theorem dX3_put_6 : decode cX3_put 6 = .ok (.getfield 7, 3) := by decide +kernel
theorem dX3_put_9 : decode cX3_put 9 = .ok (.arraylength, 1) := by decide +kernel
theorem dX3_put_10 : decode cX3_put 10 = .ok (.if_icmp .ge 10, 3) := by decide +kernel
theorem dX3_put_13 : decode cX3_put 13 = .ok (.aload_n 0, 1) := by decide +kernel
theorem dX3_put_14 : decode cX3_put 14 = .ok (.getfield 7, 3) := by decide +kernel
theorem dX3_put_17 : decode cX3_put 17 = .ok (.iload_n 1, 1) := by decide +kernel
theorem dX3_put_18 : decode cX3_put 18 = .ok (.iload_n 2, 1) := by decide +kernel
theorem dX3_put_19 : decode cX3_put 19 = .ok (.iastore, 1) := by decide +kernel
theorem dX3_put_20 : decode cX3_put 20 = .ok (.return_, 1) := by decide +kernel
theorem dX3_change_0 : decode cX3_change 0 = .ok (.iconst 0, 1) := by decide +kernel
theorem dX3_change_1 : decode cX3_change 1 = .ok (.istore 4, 2) := by decide +kernel
theorem dX3_change_3 : decode cX3_change 3 = .ok (.iload_n 1, 1) := by decide +kernel
theorem dX3_change_4 : decode cX3_change 4 = .ok (.iconst 0, 1) := by decide +kernel
theorem dX3_change_5 : decode cX3_change 5 = .ok (.invokestatic 13, 3) := by decide +kernel
theorem dX3_change_8 : decode cX3_change 8 = .ok (.istore 5, 2) := by decide +kernel
theorem dX3_change_10 : decode cX3_change 10 = .ok (.iload 5, 2) := by decide +kernel
theorem dX3_change_12 : decode cX3_change 12 = .ok (.iload_n 2, 1) := by decide +kernel
theorem dX3_change_13 : decode cX3_change 13 = .ok (.if_icmp .gt 41, 3) := by decide +kernel
theorem dX3_change_16 : decode cX3_change 16 = .ok (.iload 5, 2) := by decide +kernel
theorem dX3_change_18 : decode cX3_change 18 = .ok (.aload_n 0, 1) := by decide +kernel
theorem dX3_change_19 : decode cX3_change 19 = .ok (.getfield 7, 3) := by decide +kernel
theorem dX3_change_22 : decode cX3_change 22 = .ok (.arraylength, 1) := by decide +kernel
theorem dX3_change_23 : decode cX3_change 23 = .ok (.if_icmp .ge 31, 3) := by decide +kernel
theorem dX3_change_26 : decode cX3_change 26 = .ok (.aload_n 0, 1) := by decide +kernel
theorem dX3_change_27 : decode cX3_change 27 = .ok (.getfield 7, 3) := by decide +kernel
theorem dX3_change_30 : decode cX3_change 30 = .ok (.iload 5, 2) := by decide +kernel
theorem dX3_change_32 : decode cX3_change 32 = .ok (.iaload, 1) := by decide +kernel
theorem dX3_change_33 : decode cX3_change 33 = .ok (.iload_n 3, 1) := by decide +kernel
theorem dX3_change_34 : decode cX3_change 34 = .ok (.if_icmp .eq 14, 3) := by decide +kernel
theorem dX3_change_37 : decode cX3_change 37 = .ok (.aload_n 0, 1) := by decide +kernel
theorem dX3_change_38 : decode cX3_change 38 = .ok (.getfield 7, 3) := by decide +kernel
theorem dX3_change_41 : decode cX3_change 41 = .ok (.iload 5, 2) := by decide +kernel
theorem dX3_change_43 : decode cX3_change 43 = .ok (.iload_n 3, 1) := by decide +kernel
theorem dX3_change_44 : decode cX3_change 44 = .ok (.iastore, 1) := by decide +kernel
theorem dX3_change_45 : decode cX3_change 45 = .ok (.iinc 4 1, 3) := by decide +kernel
theorem dX3_change_48 : decode cX3_change 48 = .ok (.iinc 5 1, 3) := by decide +kernel
theorem dX3_change_51 : decode cX3_change 51 = .ok (.goto (-41), 3) := by decide +kernel
theorem dX3_change_54 : decode cX3_change 54 = .ok (.iload 4, 2) := by decide +kernel
theorem dX3_change_56 : decode cX3_change 56 = .ok (.ireturn, 1) := by decide +kernel
theorem dX3_fill_0 : decode cX3_fill 0 = .ok (.iconst 0, 1) := by decide +kernel
theorem dX3_fill_1 : decode cX3_fill 1 = .ok (.istore_n 2, 1) := by decide +kernel
theorem dX3_fill_2 : decode cX3_fill 2 = .ok (.iload_n 2, 1) := by decide +kernel
theorem dX3_fill_3 : decode cX3_fill 3 = .ok (.aload_n 0, 1) := by decide +kernel
theorem dX3_fill_4 : decode cX3_fill 4 = .ok (.getfield 7, 3) := by decide +kernel
theorem dX3_fill_7 : decode cX3_fill 7 = .ok (.arraylength, 1) := by decide +kernel
theorem dX3_fill_8 : decode cX3_fill 8 = .ok (.if_icmp .ge 16, 3) := by decide +kernel
theorem dX3_fill_11 : decode cX3_fill 11 = .ok (.aload_n 0, 1) := by decide +kernel
theorem dX3_fill_12 : decode cX3_fill 12 = .ok (.getfield 7, 3) := by decide +kernel
theorem dX3_fill_15 : decode cX3_fill 15 = .ok (.iload_n 2, 1) := by decide +kernel
theorem dX3_fill_16 : decode cX3_fill 16 = .ok (.iload_n 1, 1) := by decide +kernel
theorem dX3_fill_17 : decode cX3_fill 17 = .ok (.iastore, 1) := by decide +kernel
theorem dX3_fill_18 : decode cX3_fill 18 = .ok (.iinc 2 1, 3) := by decide +kernel
theorem dX3_fill_21 : decode cX3_fill 21 = .ok (.goto (-19), 3) := by decide +kernel
theorem dX3_fill_24 : decode cX3_fill 24 = .ok (.return_, 1) := by decide +kernel
theorem dX3_copy_0 : decode cX3_copy 0 = .ok (.iconst 0, 1) := by decide +kernel
theorem dX3_copy_1 : decode cX3_copy 1 = .ok (.istore_n 2, 1) := by decide +kernel
theorem dX3_copy_2 : decode cX3_copy 2 = .ok (.iload_n 2, 1) := by decide +kernel
theorem dX3_copy_3 : decode cX3_copy 3 = .ok (.aload_n 0, 1) := by decide +kernel
theorem dX3_copy_4 : decode cX3_copy 4 = .ok (.getfield 7, 3) := by decide +kernel
theorem dX3_copy_7 : decode cX3_copy 7 = .ok (.arraylength, 1) := by decide +kernel
theorem dX3_copy_8 : decode cX3_copy 8 = .ok (.if_icmp .ge 30, 3) := by decide +kernel
theorem dX3_copy_11 : decode cX3_copy 11 = .ok (.iload_n 2, 1) := by decide +kernel
theorem dX3_copy_12 : decode cX3_copy 12 = .ok (.aload_n 1, 1) := by decide +kernel
theorem dX3_copy_13 : decode cX3_copy 13 = .ok (.getfield 7, 3) := by decide +kernel
theorem dX3_copy_16 : decode cX3_copy 16 = .ok (.arraylength, 1) := by decide +kernel
theorem dX3_copy_17 : decode cX3_copy 17 = .ok (.if_icmp .ge 21, 3) := by decide +kernel
theorem dX3_copy_20 : decode cX3_copy 20 = .ok (.aload_n 0, 1) := by decide +kernel
theorem dX3_copy_21 : decode cX3_copy 21 = .ok (.getfield 7, 3) := by decide +kernel
theorem dX3_copy_24 : decode cX3_copy 24 = .ok (.iload_n 2, 1) := by decide +kernel
theorem dX3_copy_25 : decode cX3_copy 25 = .ok (.aload_n 1, 1) := by decide +kernel
theorem dX3_copy_26 : decode cX3_copy 26 = .ok (.getfield 7, 3) := by decide +kernel
theorem dX3_copy_29 : decode cX3_copy 29 = .ok (.iload_n 2, 1) := by decide +kernel
theorem dX3_copy_30 : decode cX3_copy 30 = .ok (.iaload, 1) := by decide +kernel
theorem dX3_copy_31 : decode cX3_copy 31 = .ok (.iastore, 1) := by decide +kernel
theorem dX3_copy_32 : decode cX3_copy 32 = .ok (.iinc 2 1, 3) := by decide +kernel
theorem dX3_copy_35 : decode cX3_copy 35 = .ok (.goto (-33), 3) := by decide +kernel
theorem dX3_copy_38 : decode cX3_copy 38 = .ok (.return_, 1) := by decide +kernel
set_option maxRecDepth 20000 in
theorem ggX4_init_X3_init : GoodIn wsX4_init wsX3_init := goodIn_r _ [22, 23, 2, 3, 24, 25, 37] (by decide +kernel) (by decide +kernel)
set_option maxRecDepth 20000 in
theorem gX4_init_X3_init : GoodIn wsX4_init (wsX3_init) := ggX4_init_X3_init
set_option maxRecDepth 20000 in
theorem ggX4_init_X4_layLine : GoodIn wsX4_init wsX4_layLine := goodIn_r _ [30, 31, 7, 8, 9, 10, 32, 33, 34, 35, 6, 36, 25, 38, 39, 40, 41, 42, 43, 44, 45, 46, 47, 48, 49, 50, 51, 52, 37] (by decide +kernel) (by decide +kernel)
set_option maxRecDepth 20000 in
theorem gX4_init_X4_layLine : GoodIn wsX4_init (wsV RX4 57 RX4 yX4_layLine wsX4_layLine) := goodIn_app (goodIn_of _ (by decide +kernel)) ggX4_init_X4_layLine
theorem dX4_init_0 : decode cX4_init 0 = .ok (.aload_n 0, 1) := by decide +kernel
theorem dX4_init_1 : decode cX4_init 1 = .ok (.invokespecial 3, 3) := by decide +kernel
theorem dX4_init_4 : decode cX4_init 4 = .ok (.aload_n 0, 1) := by decide +kernel
theorem dX4_init_5 : decode cX4_init 5 = .ok (.new 9, 3) := by decide +kernel
theorem dX4_init_8 : decode cX4_init 8 = .ok (.dup, 1) := by decide +kernel
theorem dX4_init_9 : decode cX4_init 9 = .ok (.bipush 120, 2) := by decide +kernel
theorem dX4_init_11 : decode cX4_init 11 = .ok (.invokespecial 11, 3) := by decide +kernel
theorem dX4_init_14 : decode cX4_init 14 = .ok (.putfield 14, 3) := by decide +kernel
theorem dX4_init_17 : decode cX4_init 17 = .ok (.aload_n 0, 1) := by decide +kernel
theorem dX4_init_18 : decode cX4_init 18 = .ok (.new 9, 3) := by decide +kernel
theorem dX4_init_21 : decode cX4_init 21 = .ok (.dup, 1) := by decide +kernel
theorem dX4_init_22 : decode cX4_init 22 = .ok (.bipush 120, 2) := by decide +kernel
theorem dX4_init_24 : decode cX4_init 24 = .ok (.invokespecial 11, 3) := by decide +kernel
theorem dX4_init_27 : decode cX4_init 27 = .ok (.putfield 20, 3) := by decide +kernel
theorem dX4_init_30 : decode cX4_init 30 = .ok (.aload_n 0, 1) := by decide +kernel
theorem dX4_init_31 : decode cX4_init 31 = .ok (.new 9, 3) := by decide +kernel
theorem dX4_init_34 : decode cX4_init 34 = .ok (.dup, 1) := by decide +kernel
theorem dX4_init_35 : decode cX4_init 35 = .ok (.bipush 121, 2) := by decide +kernel
theorem dX4_init_37 : decode cX4_init 37 = .ok (.invokespecial 11, 3) := by decide +kernel
theorem dX4_init_40 : decode cX4_init 40 = .ok (.putfield 23, 3) := by decide +kernel
theorem dX4_init_43 : decode cX4_init 43 = .ok (.aload_n 0, 1) := by decide +kernel
theorem dX4_init_44 : decode cX4_init 44 = .ok (.new 9, 3) := by decide +kernel
theorem dX4_init_47 : decode cX4_init 47 = .ok (.dup, 1) := by decide +kernel
theorem dX4_init_48 : decode cX4_init 48 = .ok (.bipush 121, 2) := by decide +kernel
theorem dX4_init_50 : decode cX4_init 50 = .ok (.invokespecial 11, 3) := by decide +kernel
theorem dX4_init_53 : decode cX4_init 53 = .ok (.putfield 26, 3) := by decide +kernel
theorem dX4_init_56 : decode cX4_init 56 = .ok (.aload_n 0, 1) := by decide +kernel
theorem dX4_init_57 : decode cX4_init 57 = .ok (.new 9, 3) := by decide +kernel
theorem dX4_init_60 : decode cX4_init 60 = .ok (.dup, 1) := by decide +kernel
theorem dX4_init_61 : decode cX4_init 61 = .ok (.bipush 121, 2) := by decide +kernel
theorem dX4_init_63 : decode cX4_init 63 = .ok (.invokespecial 11, 3) := by decide +kernel
theorem dX4_init_66 : decode cX4_init 66 = .ok (.putfield 29, 3) := by decide +kernel
theorem dX4_init_69 : decode cX4_init 69 = .ok (.aload_n 0, 1) := by decide +kernel
theorem dX4_init_70 : decode cX4_init 70 = .ok (.bipush 80, 2) := by decide +kernel
theorem dX4_init_72 : decode cX4_init 72 = .ok (.putfield 32, 3) := by decide +kernel
theorem dX4_init_75 : decode cX4_init 75 = .ok (.aload_n 0, 1) := by decide +kernel
theorem dX4_init_76 : decode cX4_init 76 = .ok (.bipush 20, 2) := by decide +kernel
theorem dX4_init_78 : decode cX4_init 78 = .ok (.putfield 36, 3) := by decide +kernel
theorem dX4_init_81 : decode cX4_init 81 = .ok (.aload_n 0, 1) := by decide +kernel
theorem dX4_init_82 : decode cX4_init 82 = .ok (.iconst 4, 1) := by decide +kernel
theorem dX4_init_83 : decode cX4_init 83 = .ok (.putfield 39, 3) := by decide +kernel
theorem dX4_init_86 : decode cX4_init 86 = .ok (.aload_n 0, 1) := by decide +kernel
theorem dX4_init_87 : decode cX4_init 87 = .ok (.iconst 3, 1) := by decide +kernel
theorem dX4_init_88 : decode cX4_init 88 = .ok (.putfield 42, 3) := by decide +kernel
theorem dX4_init_91 : decode cX4_init 91 = .ok (.aload_n 0, 1) := by decide +kernel
theorem dX4_init_92 : decode cX4_init 92 = .ok (.iconst 4, 1) := by decide +kernel
theorem dX4_init_93 : decode cX4_init 93 = .ok (.putfield 45, 3) := by decide +kernel
theorem dX4_init_96 : decode cX4_init 96 = .ok (.aload_n 0, 1) := by decide +kernel
theorem dX4_init_97 : decode cX4_init 97 = .ok (.bipush 40, 2) := by decide +kernel
theorem dX4_init_99 : decode cX4_init 99 = .ok (.putfield 48, 3) := by decide +kernel
theorem dX4_init_102 : decode cX4_init 102 = .ok (.aload_n 0, 1) := by decide +kernel
theorem dX4_init_103 : decode cX4_init 103 = .ok (.bipush 6, 2) := by decide +kernel
theorem dX4_init_105 : decode cX4_init 105 = .ok (.putfield 51, 3) := by decide +kernel
theorem dX4_init_108 : decode cX4_init 108 = .ok (.aload_n 0, 1) := by decide +kernel
theorem dX4_init_109 : decode cX4_init 109 = .ok (.iconst 1, 1) := by decide +kernel
theorem dX4_init_110 : decode cX4_init 110 = .ok (.putfield 54, 3) := by decide +kernel
theorem dX4_init_113 : decode cX4_init 113 = .ok (.aload_n 0, 1) := by decide +kernel
theorem dX4_init_114 : decode cX4_init 114 = .ok (.bipush 60, 2) := by decide +kernel
theorem dX4_init_116 : decode cX4_init 116 = .ok (.invokevirtual 57, 3) := by decide +kernel
theorem dX4_init_119 : decode cX4_init 119 = .ok (.return_, 1) := by decide +kernel
set_option maxRecDepth 20000 in
theorem ggX4_layLine_X3_fill : GoodIn wsX4_layLine wsX3_fill := goodIn_r _ [11, 12, 28] (by decide +kernel) (by decide +kernel)
set_option maxRecDepth 20000 in
theorem gX4_layLine_X3_fill : GoodIn wsX4_layLine (wsV RX4 63 RX3 yX3_fill wsX3_fill) := goodIn_app (goodIn_of _ (by decide +kernel)) ggX4_layLine_X3_fill
theorem dX4_layLine_0 : decode cX4_layLine 0 = .ok (.aload_n 0, 1) := by decide +kernel
theorem dX4_layLine_1 : decode cX4_layLine 1 = .ok (.iload_n 1, 1) := by decide +kernel
theorem dX4_layLine_2 : decode cX4_layLine 2 = .ok (.putfield 60, 3) := by decide +kernel
theorem dX4_layLine_5 : decode cX4_layLine 5 = .ok (.aload_n 0, 1) := by decide +kernel
theorem dX4_layLine_6 : decode cX4_layLine 6 = .ok (.getfield 14, 3) := by decide +kernel
theorem dX4_layLine_9 : decode cX4_layLine 9 = .ok (.bipush 80, 2) := by decide +kernel
theorem dX4_layLine_11 : decode cX4_layLine 11 = .ok (.invokevirtual 63, 3) := by decide +kernel
theorem dX4_layLine_14 : decode cX4_layLine 14 = .ok (.aload_n 0, 1) := by decide +kernel
theorem dX4_layLine_15 : decode cX4_layLine 15 = .ok (.getfield 20, 3) := by decide +kernel
theorem dX4_layLine_18 : decode cX4_layLine 18 = .ok (.iconst 0, 1) := by decide +kernel
theorem dX4_layLine_19 : decode cX4_layLine 19 = .ok (.invokevirtual 63, 3) := by decide +kernel
theorem dX4_layLine_22 : decode cX4_layLine 22 = .ok (.aload_n 0, 1) := by decide +kernel
theorem dX4_layLine_23 : decode cX4_layLine 23 = .ok (.getfield 23, 3) := by decide +kernel
theorem dX4_layLine_26 : decode cX4_layLine 26 = .ok (.iconst 0, 1) := by decide +kernel
theorem dX4_layLine_27 : decode cX4_layLine 27 = .ok (.invokevirtual 63, 3) := by decide +kernel
theorem dX4_layLine_30 : decode cX4_layLine 30 = .ok (.aload_n 0, 1) := by decide +kernel
theorem dX4_layLine_31 : decode cX4_layLine 31 = .ok (.getfield 26, 3) := by decide +kernel
theorem dX4_layLine_34 : decode cX4_layLine 34 = .ok (.iconst 0, 1) := by decide +kernel
theorem dX4_layLine_35 : decode cX4_layLine 35 = .ok (.invokevirtual 63, 3) := by decide +kernel
theorem dX4_layLine_38 : decode cX4_layLine 38 = .ok (.aload_n 0, 1) := by decide +kernel
theorem dX4_layLine_39 : decode cX4_layLine 39 = .ok (.iconst 0, 1) := by decide +kernel
theorem dX4_layLine_40 : decode cX4_layLine 40 = .ok (.putfield 66, 3) := by decide +kernel
theorem dX4_layLine_43 : decode cX4_layLine 43 = .ok (.return_, 1) := by decide +kernel
set_option maxRecDepth 20000 in
theorem ggX4_copy_X3_copy : GoodIn wsX4_copy wsX3_copy := goodIn_r _ [20, 21, 37] (by decide +kernel) (by decide +kernel)
set_option maxRecDepth 20000 in
theorem gX4_copy_X3_copy : GoodIn wsX4_copy (wsV RX4 69 RX3 yX3_copy wsX3_copy) := goodIn_app (goodIn_of _ (by decide +kernel)) ggX4_copy_X3_copy
theorem dX4_copy_0 : decode cX4_copy 0 = .ok (.aload_n 0, 1) := by decide +kernel
theorem dX4_copy_1 : decode cX4_copy 1 = .ok (.getfield 14, 3) := by decide +kernel
theorem dX4_copy_4 : decode cX4_copy 4 = .ok (.aload_n 1, 1) := by decide +kernel
theorem dX4_copy_5 : decode cX4_copy 5 = .ok (.getfield 14, 3) := by decide +kernel
theorem dX4_copy_8 : decode cX4_copy 8 = .ok (.invokevirtual 69, 3) := by decide +kernel
theorem dX4_copy_11 : decode cX4_copy 11 = .ok (.aload_n 0, 1) := by decide +kernel
theorem dX4_copy_12 : decode cX4_copy 12 = .ok (.getfield 20, 3) := by decide +kernel
theorem dX4_copy_15 : decode cX4_copy 15 = .ok (.aload_n 1, 1) := by decide +kernel
theorem dX4_copy_16 : decode cX4_copy 16 = .ok (.getfield 20, 3) := by decide +kernel
theorem dX4_copy_19 : decode cX4_copy 19 = .ok (.invokevirtual 69, 3) := by decide +kernel
theorem dX4_copy_22 : decode cX4_copy 22 = .ok (.aload_n 0, 1) := by decide +kernel
theorem dX4_copy_23 : decode cX4_copy 23 = .ok (.getfield 23, 3) := by decide +kernel
theorem dX4_copy_26 : decode cX4_copy 26 = .ok (.aload_n 1, 1) := by decide +kernel
theorem dX4_copy_27 : decode cX4_copy 27 = .ok (.getfield 23, 3) := by decide +kernel
theorem dX4_copy_30 : decode cX4_copy 30 = .ok (.invokevirtual 69, 3) := by decide +kernel
theorem dX4_copy_33 : decode cX4_copy 33 = .ok (.aload_n 0, 1) := by decide +kernel
theorem dX4_copy_34 : decode cX4_copy 34 = .ok (.getfield 26, 3) := by decide +kernel
theorem dX4_copy_37 : decode cX4_copy 37 = .ok (.aload_n 1, 1) := by decide +kernel
theorem dX4_copy_38 : decode cX4_copy 38 = .ok (.getfield 26, 3) := by decide +kernel
theorem dX4_copy_41 : decode cX4_copy 41 = .ok (.invokevirtual 69, 3) := by decide +kernel
theorem dX4_copy_44 : decode cX4_copy 44 = .ok (.aload_n 0, 1) := by decide +kernel
theorem dX4_copy_45 : decode cX4_copy 45 = .ok (.getfield 29, 3) := by decide +kernel
theorem dX4_copy_48 : decode cX4_copy 48 = .ok (.aload_n 1, 1) := by decide +kernel
theorem dX4_copy_49 : decode cX4_copy 49 = .ok (.getfield 29, 3) := by decide +kernel
theorem dX4_copy_52 : decode cX4_copy 52 = .ok (.invokevirtual 69, 3) := by decide +kernel
theorem dX4_copy_55 : decode cX4_copy 55 = .ok (.aload_n 0, 1) := by decide +kernel
theorem dX4_copy_56 : decode cX4_copy 56 = .ok (.aload_n 1, 1) := by decide +kernel
theorem dX4_copy_57 : decode cX4_copy 57 = .ok (.getfield 66, 3) := by decide +kernel
theorem dX4_copy_60 : decode cX4_copy 60 = .ok (.putfield 66, 3) := by decide +kernel
theorem dX4_copy_63 : decode cX4_copy 63 = .ok (.aload_n 0, 1) := by decide +kernel
theorem dX4_copy_64 : decode cX4_copy 64 = .ok (.aload_n 1, 1) := by decide +kernel
theorem dX4_copy_65 : decode cX4_copy 65 = .ok (.getfield 60, 3) := by decide +kernel
theorem dX4_copy_68 : decode cX4_copy 68 = .ok (.putfield 60, 3) := by decide +kernel
theorem dX4_copy_71 : decode cX4_copy 71 = .ok (.aload_n 0, 1) := by decide +kernel
theorem dX4_copy_72 : decode cX4_copy 72 = .ok (.aload_n 1, 1) := by decide +kernel
theorem dX4_copy_73 : decode cX4_copy 73 = .ok (.getfield 32, 3) := by decide +kernel
theorem dX4_copy_76 : decode cX4_copy 76 = .ok (.putfield 32, 3) := by decide +kernel
theorem dX4_copy_79 : decode cX4_copy 79 = .ok (.aload_n 0, 1) := by decide +kernel
theorem dX4_copy_80 : decode cX4_copy 80 = .ok (.aload_n 1, 1) := by decide +kernel
theorem dX4_copy_81 : decode cX4_copy 81 = .ok (.getfield 36, 3) := by decide +kernel
theorem dX4_copy_84 : decode cX4_copy 84 = .ok (.putfield 36, 3) := by decide +kernel
theorem dX4_copy_87 : decode cX4_copy 87 = .ok (.aload_n 0, 1) := by decide +kernel
theorem dX4_copy_88 : decode cX4_copy 88 = .ok (.aload_n 1, 1) := by decide +kernel
theorem dX4_copy_89 : decode cX4_copy 89 = .ok (.getfield 39, 3) := by decide +kernel
theorem dX4_copy_92 : decode cX4_copy 92 = .ok (.putfield 39, 3) := by decide +kernel
theorem dX4_copy_95 : decode cX4_copy 95 = .ok (.aload_n 0, 1) := by decide +kernel
theorem dX4_copy_96 : decode cX4_copy 96 = .ok (.aload_n 1, 1) := by decide +kernel
theorem dX4_copy_97 : decode cX4_copy 97 = .ok (.getfield 42, 3) := by decide +kernel
theorem dX4_copy_100 : decode cX4_copy 100 = .ok (.putfield 42, 3) := by decide +kernel
theorem dX4_copy_103 : decode cX4_copy 103 = .ok (.aload_n 0, 1) := by decide +kernel
theorem dX4_copy_104 : decode cX4_copy 104 = .ok (.aload_n 1, 1) := by decide +kernel
theorem dX4_copy_105 : decode cX4_copy 105 = .ok (.getfield 45, 3) := by decide +kernel
theorem dX4_copy_108 : decode cX4_copy 108 = .ok (.putfield 45, 3) := by decide +kernel
theorem dX4_copy_111 : decode cX4_copy 111 = .ok (.aload_n 0, 1) := by decide +kernel
theorem dX4_copy_112 : decode cX4_copy 112 = .ok (.aload_n 1, 1) := by decide +kernel
theorem dX4_copy_113 : decode cX4_copy 113 = .ok (.getfield 48, 3) := by decide +kernel
theorem dX4_copy_116 : decode cX4_copy 116 = .ok (.putfield 48, 3) := by decide +kernel
theorem dX4_copy_119 : decode cX4_copy 119 = .ok (.aload_n 0, 1) := by decide +kernel
theorem dX4_copy_120 : decode cX4_copy 120 = .ok (.aload_n 1, 1) := by decide +kernel
theorem dX4_copy_121 : decode cX4_copy 121 = .ok (.getfield 51, 3) := by decide +kernel
theorem dX4_copy_124 : decode cX4_copy 124 = .ok (.putfield 51, 3) := by decide +kernel
theorem dX4_copy_127 : decode cX4_copy 127 = .ok (.aload_n 0, 1) := by decide +kernel
theorem dX4_copy_128 : decode cX4_copy 128 = .ok (.aload_n 1, 1) := by decide +kernel
theorem dX4_copy_129 : decode cX4_copy 129 = .ok (.getfield 54, 3) := by decide +kernel
theorem dX4_copy_132 : decode cX4_copy 132 = .ok (.putfield 54, 3) := by decide +kernel
theorem dX4_copy_135 : decode cX4_copy 135 = .ok (.return_, 1) := by decide +kernel
