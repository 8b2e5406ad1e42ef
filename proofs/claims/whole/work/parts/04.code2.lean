set_option maxRecDepth 20000 in
theorem ggX4_barredPositions_X3_at : GoodIn wsX4_barredPositions wsX3_at := goodIn_r _ [7, 8, 24] (by decide +kernel) (by decide +kernel)
set_option maxRecDepth 20000 in
theorem gX4_barredPositions_X3_at : GoodIn wsX4_barredPositions (wsV RX4 73 RX3 yX3_at wsX3_at) := goodIn_app (goodIn_of _ (by decide +kernel)) ggX4_barredPositions_X3_at
theorem dX4_barredPositions_0 : decode cX4_barredPositions 0 = .ok (.iconst 0, 1) := by decide +kernel
theorem dX4_barredPositions_1 : decode cX4_barredPositions 1 = .ok (.istore_n 1, 1) := by decide +kernel
theorem dX4_barredPositions_2 : decode cX4_barredPositions 2 = .ok (.iconst 0, 1) := by decide +kernel
theorem dX4_barredPositions_3 : decode cX4_barredPositions 3 = .ok (.istore_n 2, 1) := by decide +kernel
theorem dX4_barredPositions_4 : decode cX4_barredPositions 4 = .ok (.iload_n 2, 1) := by decide +kernel
theorem dX4_barredPositions_5 : decode cX4_barredPositions 5 = .ok (.aload_n 0, 1) := by decide +kernel
theorem dX4_barredPositions_6 : decode cX4_barredPositions 6 = .ok (.getfield 60, 3) := by decide +kernel
theorem dX4_barredPositions_9 : decode cX4_barredPositions 9 = .ok (.if_icmp .gt 20, 3) := by decide +kernel
theorem dX4_barredPositions_12 : decode cX4_barredPositions 12 = .ok (.iload_n 1, 1) := by decide +kernel
theorem dX4_barredPositions_13 : decode cX4_barredPositions 13 = .ok (.aload_n 0, 1) := by decide +kernel
theorem dX4_barredPositions_14 : decode cX4_barredPositions 14 = .ok (.getfield 23, 3) := by decide +kernel
theorem dX4_barredPositions_17 : decode cX4_barredPositions 17 = .ok (.iload_n 2, 1) := by decide +kernel
theorem dX4_barredPositions_18 : decode cX4_barredPositions 18 = .ok (.invokevirtual 73, 3) := by decide +kernel
theorem dX4_barredPositions_21 : decode cX4_barredPositions 21 = .ok (.iadd, 1) := by decide +kernel
theorem dX4_barredPositions_22 : decode cX4_barredPositions 22 = .ok (.istore_n 1, 1) := by decide +kernel
theorem dX4_barredPositions_23 : decode cX4_barredPositions 23 = .ok (.iinc 2 1, 3) := by decide +kernel
theorem dX4_barredPositions_26 : decode cX4_barredPositions 26 = .ok (.goto (-22), 3) := by decide +kernel
theorem dX4_barredPositions_29 : decode cX4_barredPositions 29 = .ok (.iload_n 1, 1) := by decide +kernel
theorem dX4_barredPositions_30 : decode cX4_barredPositions 30 = .ok (.ireturn, 1) := by decide +kernel
set_option maxRecDepth 20000 in
theorem ggX4_needsPost_X3_at : GoodIn wsX4_needsPost wsX3_at := goodIn_r _ [7, 8, 24] (by decide +kernel) (by decide +kernel)
set_option maxRecDepth 20000 in
theorem gX4_needsPost_X3_at : GoodIn wsX4_needsPost (wsV RX4 73 RX3 yX3_at wsX3_at) := goodIn_app (goodIn_of _ (by decide +kernel)) ggX4_needsPost_X3_at
theorem dX4_needsPost_0 : decode cX4_needsPost 0 = .ok (.iload_n 1, 1) := by decide +kernel
theorem dX4_needsPost_1 : decode cX4_needsPost 1 = .ok (.ifCond .eq 23, 3) := by decide +kernel
theorem dX4_needsPost_4 : decode cX4_needsPost 4 = .ok (.iload_n 1, 1) := by decide +kernel
theorem dX4_needsPost_5 : decode cX4_needsPost 5 = .ok (.aload_n 0, 1) := by decide +kernel
theorem dX4_needsPost_6 : decode cX4_needsPost 6 = .ok (.getfield 60, 3) := by decide +kernel
theorem dX4_needsPost_9 : decode cX4_needsPost 9 = .ok (.if_icmp .eq 15, 3) := by decide +kernel
theorem dX4_needsPost_12 : decode cX4_needsPost 12 = .ok (.aload_n 0, 1) := by decide +kernel
theorem dX4_needsPost_13 : decode cX4_needsPost 13 = .ok (.getfield 26, 3) := by decide +kernel
theorem dX4_needsPost_16 : decode cX4_needsPost 16 = .ok (.iload_n 1, 1) := by decide +kernel
theorem dX4_needsPost_17 : decode cX4_needsPost 17 = .ok (.invokevirtual 73, 3) := by decide +kernel
theorem dX4_needsPost_20 : decode cX4_needsPost 20 = .ok (.iconst 1, 1) := by decide +kernel
theorem dX4_needsPost_21 : decode cX4_needsPost 21 = .ok (.if_icmp .ne 7, 3) := by decide +kernel
theorem dX4_needsPost_24 : decode cX4_needsPost 24 = .ok (.iconst 1, 1) := by decide +kernel
theorem dX4_needsPost_25 : decode cX4_needsPost 25 = .ok (.goto 4, 3) := by decide +kernel
theorem dX4_needsPost_28 : decode cX4_needsPost 28 = .ok (.iconst 0, 1) := by decide +kernel
theorem dX4_needsPost_29 : decode cX4_needsPost 29 = .ok (.ireturn, 1) := by decide +kernel
set_option maxRecDepth 20000 in
theorem ggX4_placeOf_X3_at : GoodIn wsX4_placeOf wsX3_at := goodIn_r _ [7, 8, 24] (by decide +kernel) (by decide +kernel)
set_option maxRecDepth 20000 in
theorem gX4_placeOf_X3_at : GoodIn wsX4_placeOf (wsV RX4 73 RX3 yX3_at wsX3_at) := goodIn_app (goodIn_of _ (by decide +kernel)) ggX4_placeOf_X3_at
theorem dX4_placeOf_0 : decode cX4_placeOf 0 = .ok (.iconst 0, 1) := by decide +kernel
theorem dX4_placeOf_1 : decode cX4_placeOf 1 = .ok (.istore_n 2, 1) := by decide +kernel
theorem dX4_placeOf_2 : decode cX4_placeOf 2 = .ok (.iload_n 2, 1) := by decide +kernel
theorem dX4_placeOf_3 : decode cX4_placeOf 3 = .ok (.aload_n 0, 1) := by decide +kernel
theorem dX4_placeOf_4 : decode cX4_placeOf 4 = .ok (.getfield 66, 3) := by decide +kernel
theorem dX4_placeOf_7 : decode cX4_placeOf 7 = .ok (.if_icmp .ge 21, 3) := by decide +kernel
theorem dX4_placeOf_10 : decode cX4_placeOf 10 = .ok (.aload_n 0, 1) := by decide +kernel
theorem dX4_placeOf_11 : decode cX4_placeOf 11 = .ok (.getfield 29, 3) := by decide +kernel
theorem dX4_placeOf_14 : decode cX4_placeOf 14 = .ok (.iload_n 2, 1) := by decide +kernel
theorem dX4_placeOf_15 : decode cX4_placeOf 15 = .ok (.invokevirtual 73, 3) := by decide +kernel
theorem dX4_placeOf_18 : decode cX4_placeOf 18 = .ok (.iload_n 1, 1) := by decide +kernel
theorem dX4_placeOf_19 : decode cX4_placeOf 19 = .ok (.if_icmp .ge 9, 3) := by decide +kernel
theorem dX4_placeOf_22 : decode cX4_placeOf 22 = .ok (.iinc 2 1, 3) := by decide +kernel
theorem dX4_placeOf_25 : decode cX4_placeOf 25 = .ok (.goto (-23), 3) := by decide +kernel
theorem dX4_placeOf_28 : decode cX4_placeOf 28 = .ok (.iload_n 2, 1) := by decide +kernel
theorem dX4_placeOf_29 : decode cX4_placeOf 29 = .ok (.ireturn, 1) := by decide +kernel
set_option maxRecDepth 20000 in
theorem ggX4_hasPost_X4_placeOf : GoodIn wsX4_hasPost wsX4_placeOf := goodIn_r _ [7, 1, 2, 8, 9, 10, 11, 12, 13, 14, 15, 16, 17, 18, 19, 20, 21, 22, 23, 24, 25, 26, 27, 28, 29] (by decide +kernel) (by decide +kernel)
set_option maxRecDepth 20000 in
theorem gX4_hasPost_X4_placeOf : GoodIn wsX4_hasPost (wsV RX4 77 RX4 yX4_placeOf wsX4_placeOf) := goodIn_app (goodIn_of _ (by decide +kernel)) ggX4_hasPost_X4_placeOf
set_option maxRecDepth 20000 in
theorem ggX4_hasPost_X3_at : GoodIn wsX4_hasPost wsX3_at := goodIn_r _ [12, 13, 29] (by decide +kernel) (by decide +kernel)
set_option maxRecDepth 20000 in
theorem gX4_hasPost_X3_at : GoodIn wsX4_hasPost (wsV RX4 73 RX3 yX3_at wsX3_at) := goodIn_app (goodIn_of _ (by decide +kernel)) ggX4_hasPost_X3_at
theorem dX4_hasPost_0 : decode cX4_hasPost 0 = .ok (.aload_n 0, 1) := by decide +kernel
theorem dX4_hasPost_1 : decode cX4_hasPost 1 = .ok (.iload_n 1, 1) := by decide +kernel
theorem dX4_hasPost_2 : decode cX4_hasPost 2 = .ok (.invokevirtual 77, 3) := by decide +kernel
theorem dX4_hasPost_5 : decode cX4_hasPost 5 = .ok (.istore_n 2, 1) := by decide +kernel
theorem dX4_hasPost_6 : decode cX4_hasPost 6 = .ok (.iload_n 2, 1) := by decide +kernel
theorem dX4_hasPost_7 : decode cX4_hasPost 7 = .ok (.aload_n 0, 1) := by decide +kernel
theorem dX4_hasPost_8 : decode cX4_hasPost 8 = .ok (.getfield 66, 3) := by decide +kernel
theorem dX4_hasPost_11 : decode cX4_hasPost 11 = .ok (.if_icmp .ge 19, 3) := by decide +kernel
theorem dX4_hasPost_14 : decode cX4_hasPost 14 = .ok (.aload_n 0, 1) := by decide +kernel
theorem dX4_hasPost_15 : decode cX4_hasPost 15 = .ok (.getfield 29, 3) := by decide +kernel
theorem dX4_hasPost_18 : decode cX4_hasPost 18 = .ok (.iload_n 2, 1) := by decide +kernel
theorem dX4_hasPost_19 : decode cX4_hasPost 19 = .ok (.invokevirtual 73, 3) := by decide +kernel
theorem dX4_hasPost_22 : decode cX4_hasPost 22 = .ok (.iload_n 1, 1) := by decide +kernel
theorem dX4_hasPost_23 : decode cX4_hasPost 23 = .ok (.if_icmp .ne 7, 3) := by decide +kernel
theorem dX4_hasPost_26 : decode cX4_hasPost 26 = .ok (.iconst 1, 1) := by decide +kernel
theorem dX4_hasPost_27 : decode cX4_hasPost 27 = .ok (.goto 4, 3) := by decide +kernel
theorem dX4_hasPost_30 : decode cX4_hasPost 30 = .ok (.iconst 0, 1) := by decide +kernel
theorem dX4_hasPost_31 : decode cX4_hasPost 31 = .ok (.ireturn, 1) := by decide +kernel
set_option maxRecDepth 20000 in
theorem ggX4_insertPost_X4_placeOf : GoodIn wsX4_insertPost wsX4_placeOf := goodIn_r _ [7, 1, 2, 8, 9, 10, 11, 12, 13, 18, 19, 20, 21, 22, 23, 24, 25, 26, 27, 28, 29, 30, 31, 32, 33] (by decide +kernel) (by decide +kernel)
set_option maxRecDepth 20000 in
theorem gX4_insertPost_X4_placeOf : GoodIn wsX4_insertPost (wsV RX4 77 RX4 yX4_placeOf wsX4_placeOf) := goodIn_app (goodIn_of _ (by decide +kernel)) ggX4_insertPost_X4_placeOf
set_option maxRecDepth 20000 in
theorem ggX4_insertPost_X3_at : GoodIn wsX4_insertPost wsX3_at := goodIn_r _ [12, 13, 33] (by decide +kernel) (by decide +kernel)
set_option maxRecDepth 20000 in
theorem gX4_insertPost_X3_at : GoodIn wsX4_insertPost (wsV RX4 73 RX3 yX3_at wsX3_at) := goodIn_app (goodIn_of _ (by decide +kernel)) ggX4_insertPost_X3_at
set_option maxRecDepth 20000 in
theorem ggX4_insertPost_X3_put : GoodIn wsX4_insertPost wsX3_put := goodIn_r _ [17, 13, 33] (by decide +kernel) (by decide +kernel)
set_option maxRecDepth 20000 in
theorem gX4_insertPost_X3_put : GoodIn wsX4_insertPost (wsV RX4 80 RX3 yX3_put wsX3_put) := goodIn_app (goodIn_of _ (by decide +kernel)) ggX4_insertPost_X3_put
theorem dX4_insertPost_0 : decode cX4_insertPost 0 = .ok (.aload_n 0, 1) := by decide +kernel
theorem dX4_insertPost_1 : decode cX4_insertPost 1 = .ok (.iload_n 1, 1) := by decide +kernel
theorem dX4_insertPost_2 : decode cX4_insertPost 2 = .ok (.invokevirtual 77, 3) := by decide +kernel
theorem dX4_insertPost_5 : decode cX4_insertPost 5 = .ok (.istore_n 2, 1) := by decide +kernel
theorem dX4_insertPost_6 : decode cX4_insertPost 6 = .ok (.aload_n 0, 1) := by decide +kernel
theorem dX4_insertPost_7 : decode cX4_insertPost 7 = .ok (.getfield 66, 3) := by decide +kernel
theorem dX4_insertPost_10 : decode cX4_insertPost 10 = .ok (.istore_n 3, 1) := by decide +kernel
theorem dX4_insertPost_11 : decode cX4_insertPost 11 = .ok (.iload_n 3, 1) := by decide +kernel
theorem dX4_insertPost_12 : decode cX4_insertPost 12 = .ok (.iload_n 2, 1) := by decide +kernel
theorem dX4_insertPost_13 : decode cX4_insertPost 13 = .ok (.if_icmp .le 27, 3) := by decide +kernel
theorem dX4_insertPost_16 : decode cX4_insertPost 16 = .ok (.aload_n 0, 1) := by decide +kernel
theorem dX4_insertPost_17 : decode cX4_insertPost 17 = .ok (.getfield 29, 3) := by decide +kernel
theorem dX4_insertPost_20 : decode cX4_insertPost 20 = .ok (.iload_n 3, 1) := by decide +kernel
theorem dX4_insertPost_21 : decode cX4_insertPost 21 = .ok (.aload_n 0, 1) := by decide +kernel
theorem dX4_insertPost_22 : decode cX4_insertPost 22 = .ok (.getfield 29, 3) := by decide +kernel
theorem dX4_insertPost_25 : decode cX4_insertPost 25 = .ok (.iload_n 3, 1) := by decide +kernel
theorem dX4_insertPost_26 : decode cX4_insertPost 26 = .ok (.iconst 1, 1) := by decide +kernel
theorem dX4_insertPost_27 : decode cX4_insertPost 27 = .ok (.isub, 1) := by decide +kernel
theorem dX4_insertPost_28 : decode cX4_insertPost 28 = .ok (.invokevirtual 73, 3) := by decide +kernel
theorem dX4_insertPost_31 : decode cX4_insertPost 31 = .ok (.invokevirtual 80, 3) := by decide +kernel
theorem dX4_insertPost_34 : decode cX4_insertPost 34 = .ok (.iinc 3 (-1), 3) := by decide +kernel
theorem dX4_insertPost_37 : decode cX4_insertPost 37 = .ok (.goto (-26), 3) := by decide +kernel
theorem dX4_insertPost_40 : decode cX4_insertPost 40 = .ok (.aload_n 0, 1) := by decide +kernel
theorem dX4_insertPost_41 : decode cX4_insertPost 41 = .ok (.getfield 29, 3) := by decide +kernel
theorem dX4_insertPost_44 : decode cX4_insertPost 44 = .ok (.iload_n 2, 1) := by decide +kernel
theorem dX4_insertPost_45 : decode cX4_insertPost 45 = .ok (.iload_n 1, 1) := by decide +kernel
theorem dX4_insertPost_46 : decode cX4_insertPost 46 = .ok (.invokevirtual 80, 3) := by decide +kernel
theorem dX4_insertPost_49 : decode cX4_insertPost 49 = .ok (.aload_n 0, 1) := by decide +kernel
theorem dX4_insertPost_50 : decode cX4_insertPost 50 = .ok (.dup, 1) := by decide +kernel
theorem dX4_insertPost_51 : decode cX4_insertPost 51 = .ok (.getfield 66, 3) := by decide +kernel
theorem dX4_insertPost_54 : decode cX4_insertPost 54 = .ok (.iconst 1, 1) := by decide +kernel
theorem dX4_insertPost_55 : decode cX4_insertPost 55 = .ok (.iadd, 1) := by decide +kernel
theorem dX4_insertPost_56 : decode cX4_insertPost 56 = .ok (.putfield 66, 3) := by decide +kernel
theorem dX4_insertPost_59 : decode cX4_insertPost 59 = .ok (.iload_n 2, 1) := by decide +kernel
theorem dX4_insertPost_60 : decode cX4_insertPost 60 = .ok (.ireturn, 1) := by decide +kernel
set_option maxRecDepth 20000 in
theorem ggX4_takePost_X4_placeOf : GoodIn wsX4_takePost wsX4_placeOf := goodIn_r _ [7, 1, 2, 8, 9, 10, 11, 12, 13, 18, 19, 20, 21, 22, 23, 24, 25, 26, 27, 28, 29, 30, 31, 32, 33] (by decide +kernel) (by decide +kernel)
set_option maxRecDepth 20000 in
theorem gX4_takePost_X4_placeOf : GoodIn wsX4_takePost (wsV RX4 77 RX4 yX4_placeOf wsX4_placeOf) := goodIn_app (goodIn_of _ (by decide +kernel)) ggX4_takePost_X4_placeOf
set_option maxRecDepth 20000 in
theorem ggX4_takePost_X3_at : GoodIn wsX4_takePost wsX3_at := goodIn_r _ [12, 13, 33] (by decide +kernel) (by decide +kernel)
set_option maxRecDepth 20000 in
theorem gX4_takePost_X3_at : GoodIn wsX4_takePost (wsV RX4 73 RX3 yX3_at wsX3_at) := goodIn_app (goodIn_of _ (by decide +kernel)) ggX4_takePost_X3_at
set_option maxRecDepth 20000 in
theorem ggX4_takePost_X3_put : GoodIn wsX4_takePost wsX3_put := goodIn_r _ [17, 13, 33] (by decide +kernel) (by decide +kernel)
set_option maxRecDepth 20000 in
theorem gX4_takePost_X3_put : GoodIn wsX4_takePost (wsV RX4 80 RX3 yX3_put wsX3_put) := goodIn_app (goodIn_of _ (by decide +kernel)) ggX4_takePost_X3_put
theorem dX4_takePost_0 : decode cX4_takePost 0 = .ok (.aload_n 0, 1) := by decide +kernel
theorem dX4_takePost_1 : decode cX4_takePost 1 = .ok (.dup, 1) := by decide +kernel
theorem dX4_takePost_2 : decode cX4_takePost 2 = .ok (.getfield 66, 3) := by decide +kernel
theorem dX4_takePost_5 : decode cX4_takePost 5 = .ok (.iconst 1, 1) := by decide +kernel
theorem dX4_takePost_6 : decode cX4_takePost 6 = .ok (.isub, 1) := by decide +kernel
theorem dX4_takePost_7 : decode cX4_takePost 7 = .ok (.putfield 66, 3) := by decide +kernel
theorem dX4_takePost_10 : decode cX4_takePost 10 = .ok (.aload_n 0, 1) := by decide +kernel
theorem dX4_takePost_11 : decode cX4_takePost 11 = .ok (.iload_n 1, 1) := by decide +kernel
theorem dX4_takePost_12 : decode cX4_takePost 12 = .ok (.invokevirtual 77, 3) := by decide +kernel
theorem dX4_takePost_15 : decode cX4_takePost 15 = .ok (.istore_n 2, 1) := by decide +kernel
theorem dX4_takePost_16 : decode cX4_takePost 16 = .ok (.iload_n 2, 1) := by decide +kernel
theorem dX4_takePost_17 : decode cX4_takePost 17 = .ok (.aload_n 0, 1) := by decide +kernel
theorem dX4_takePost_18 : decode cX4_takePost 18 = .ok (.getfield 66, 3) := by decide +kernel
theorem dX4_takePost_21 : decode cX4_takePost 21 = .ok (.if_icmp .ge 27, 3) := by decide +kernel
theorem dX4_takePost_24 : decode cX4_takePost 24 = .ok (.aload_n 0, 1) := by decide +kernel
theorem dX4_takePost_25 : decode cX4_takePost 25 = .ok (.getfield 29, 3) := by decide +kernel
theorem dX4_takePost_28 : decode cX4_takePost 28 = .ok (.iload_n 2, 1) := by decide +kernel
theorem dX4_takePost_29 : decode cX4_takePost 29 = .ok (.aload_n 0, 1) := by decide +kernel
theorem dX4_takePost_30 : decode cX4_takePost 30 = .ok (.getfield 29, 3) := by decide +kernel
theorem dX4_takePost_33 : decode cX4_takePost 33 = .ok (.iload_n 2, 1) := by decide +kernel
theorem dX4_takePost_34 : decode cX4_takePost 34 = .ok (.iconst 1, 1) := by decide +kernel
theorem dX4_takePost_35 : decode cX4_takePost 35 = .ok (.iadd, 1) := by decide +kernel
theorem dX4_takePost_36 : decode cX4_takePost 36 = .ok (.invokevirtual 73, 3) := by decide +kernel
theorem dX4_takePost_39 : decode cX4_takePost 39 = .ok (.invokevirtual 80, 3) := by decide +kernel
theorem dX4_takePost_42 : decode cX4_takePost 42 = .ok (.iinc 2 1, 3) := by decide +kernel
theorem dX4_takePost_45 : decode cX4_takePost 45 = .ok (.goto (-29), 3) := by decide +kernel
theorem dX4_takePost_48 : decode cX4_takePost 48 = .ok (.return_, 1) := by decide +kernel
set_option maxRecDepth 20000 in
theorem ggX5_init_X3_init : GoodIn wsX5_init wsX3_init := goodIn_r _ [12, 13, 2, 3, 14, 15, 16] (by decide +kernel) (by decide +kernel)
set_option maxRecDepth 20000 in
theorem gX5_init_X3_init : GoodIn wsX5_init (wsX3_init) := ggX5_init_X3_init
theorem dX5_init_0 : decode cX5_init 0 = .ok (.aload_n 0, 1) := by decide +kernel
theorem dX5_init_1 : decode cX5_init 1 = .ok (.invokespecial 3, 3) := by decide +kernel
theorem dX5_init_4 : decode cX5_init 4 = .ok (.aload_n 0, 1) := by decide +kernel
theorem dX5_init_5 : decode cX5_init 5 = .ok (.new 9, 3) := by decide +kernel
theorem dX5_init_8 : decode cX5_init 8 = .ok (.dup, 1) := by decide +kernel
theorem dX5_init_9 : decode cX5_init 9 = .ok (.sipush 363, 3) := by decide +kernel
theorem dX5_init_12 : decode cX5_init 12 = .ok (.invokespecial 13, 3) := by decide +kernel
theorem dX5_init_15 : decode cX5_init 15 = .ok (.putfield 16, 3) := by decide +kernel
theorem dX5_init_18 : decode cX5_init 18 = .ok (.aload_n 0, 1) := by decide +kernel
theorem dX5_init_19 : decode cX5_init 19 = .ok (.aload_n 1, 1) := by decide +kernel
theorem dX5_init_20 : decode cX5_init 20 = .ok (.putfield 20, 3) := by decide +kernel
theorem dX5_init_23 : decode cX5_init 23 = .ok (.aload_n 0, 1) := by decide +kernel
theorem dX5_init_24 : decode cX5_init 24 = .ok (.aload_n 2, 1) := by decide +kernel
theorem dX5_init_25 : decode cX5_init 25 = .ok (.putfield 24, 3) := by decide +kernel
theorem dX5_init_28 : decode cX5_init 28 = .ok (.return_, 1) := by decide +kernel
set_option maxRecDepth 20000 in
theorem ggX5_inspect_X3_at : GoodIn wsX5_inspect wsX3_at := goodIn_r _ [10, 11, 76] (by decide +kernel) (by decide +kernel)
set_option maxRecDepth 20000 in
theorem gX5_inspect_X3_at : GoodIn wsX5_inspect (wsV RX5 43 RX3 yX3_at wsX3_at) := goodIn_app (goodIn_of _ (by decide +kernel)) ggX5_inspect_X3_at
set_option maxRecDepth 20000 in
theorem ggX5_inspect_X5_inspectPost : GoodIn wsX5_inspect wsX5_inspectPost := goodIn_r _ [16, 2, 17, 5, 18, 19, 6, 7, 8, 9, 10, 11, 20, 21, 22, 15, 23, 24, 1, 25, 26, 27, 28, 29, 30, 31, 32, 33, 34, 4, 35, 36, 37, 38, 39, 40, 41, 42, 43, 44, 45, 46, 47, 48, 57, 58, 59, 60, 61, 62, 63, 64, 65, 66, 67, 68, 69, 70, 71, 72, 73, 74, 75, 76, 77, 78, 79, 80, 81, 82] (by decide +kernel) (by decide +kernel)
set_option maxRecDepth 20000 in
theorem gX5_inspect_X5_inspectPost : GoodIn wsX5_inspect (wsV RX5 47 RX5 yX5_inspectPost wsX5_inspectPost) := goodIn_app (goodIn_of _ (by decide +kernel)) ggX5_inspect_X5_inspectPost
set_option maxRecDepth 20000 in
theorem ggX5_inspect_X4_needsPost : GoodIn wsX5_inspect wsX4_needsPost := goodIn_r _ [53, 54, 55, 56, 7, 8, 9, 10, 11, 61, 62, 63, 64, 65, 66, 67, 68, 69, 70, 71, 72, 73, 74, 75, 76] (by decide +kernel) (by decide +kernel)
set_option maxRecDepth 20000 in
theorem gX5_inspect_X4_needsPost : GoodIn wsX5_inspect (wsV RX5 51 RX4 yX4_needsPost wsX4_needsPost) := goodIn_app (goodIn_of _ (by decide +kernel)) ggX5_inspect_X4_needsPost
set_option maxRecDepth 20000 in
theorem ggX5_inspect_X5_note : GoodIn wsX5_inspect wsX5_note := goodIn_r _ [23, 24, 1, 25, 26, 27, 9, 28, 11, 57, 58, 59, 60, 76] (by decide +kernel) (by decide +kernel)
set_option maxRecDepth 20000 in
theorem gX5_inspect_X5_note : GoodIn wsX5_inspect (wsV RX5 55 RX5 yX5_note wsX5_note) := goodIn_app (goodIn_of _ (by decide +kernel)) ggX5_inspect_X5_note
theorem dX5_inspect_0 : decode cX5_inspect 0 = .ok (.aload_n 0, 1) := by decide +kernel
theorem dX5_inspect_1 : decode cX5_inspect 1 = .ok (.iconst 0, 1) := by decide +kernel
theorem dX5_inspect_2 : decode cX5_inspect 2 = .ok (.putfield 28, 3) := by decide +kernel
theorem dX5_inspect_5 : decode cX5_inspect 5 = .ok (.iconst 0, 1) := by decide +kernel
theorem dX5_inspect_6 : decode cX5_inspect 6 = .ok (.istore_n 1, 1) := by decide +kernel
theorem dX5_inspect_7 : decode cX5_inspect 7 = .ok (.iconst 0, 1) := by decide +kernel
theorem dX5_inspect_8 : decode cX5_inspect 8 = .ok (.istore_n 2, 1) := by decide +kernel
theorem dX5_inspect_9 : decode cX5_inspect 9 = .ok (.iload_n 2, 1) := by decide +kernel
theorem dX5_inspect_10 : decode cX5_inspect 10 = .ok (.aload_n 0, 1) := by decide +kernel
theorem dX5_inspect_11 : decode cX5_inspect 11 = .ok (.getfield 20, 3) := by decide +kernel
theorem dX5_inspect_14 : decode cX5_inspect 14 = .ok (.getfield 32, 3) := by decide +kernel
theorem dX5_inspect_17 : decode cX5_inspect 17 = .ok (.if_icmp .gt 61, 3) := by decide +kernel
theorem dX5_inspect_20 : decode cX5_inspect 20 = .ok (.iload_n 1, 1) := by decide +kernel
theorem dX5_inspect_21 : decode cX5_inspect 21 = .ok (.aload_n 0, 1) := by decide +kernel
theorem dX5_inspect_22 : decode cX5_inspect 22 = .ok (.getfield 20, 3) := by decide +kernel
theorem dX5_inspect_25 : decode cX5_inspect 25 = .ok (.getfield 37, 3) := by decide +kernel
theorem dX5_inspect_28 : decode cX5_inspect 28 = .ok (.if_icmp .ge 30, 3) := by decide +kernel
theorem dX5_inspect_31 : decode cX5_inspect 31 = .ok (.aload_n 0, 1) := by decide +kernel
theorem dX5_inspect_32 : decode cX5_inspect 32 = .ok (.getfield 20, 3) := by decide +kernel
theorem dX5_inspect_35 : decode cX5_inspect 35 = .ok (.getfield 40, 3) := by decide +kernel
theorem dX5_inspect_38 : decode cX5_inspect 38 = .ok (.iload_n 1, 1) := by decide +kernel
theorem dX5_inspect_39 : decode cX5_inspect 39 = .ok (.invokevirtual 43, 3) := by decide +kernel
theorem dX5_inspect_42 : decode cX5_inspect 42 = .ok (.iload_n 2, 1) := by decide +kernel
theorem dX5_inspect_43 : decode cX5_inspect 43 = .ok (.if_icmp .ne 15, 3) := by decide +kernel
theorem dX5_inspect_46 : decode cX5_inspect 46 = .ok (.aload_n 0, 1) := by decide +kernel
theorem dX5_inspect_47 : decode cX5_inspect 47 = .ok (.iload_n 1, 1) := by decide +kernel
theorem dX5_inspect_48 : decode cX5_inspect 48 = .ok (.iload_n 2, 1) := by decide +kernel
theorem dX5_inspect_49 : decode cX5_inspect 49 = .ok (.invokevirtual 47, 3) := by decide +kernel
theorem dX5_inspect_52 : decode cX5_inspect 52 = .ok (.iinc 1 1, 3) := by decide +kernel
theorem dX5_inspect_55 : decode cX5_inspect 55 = .ok (.goto 17, 3) := by decide +kernel
theorem dX5_inspect_58 : decode cX5_inspect 58 = .ok (.aload_n 0, 1) := by decide +kernel
theorem dX5_inspect_59 : decode cX5_inspect 59 = .ok (.aload_n 0, 1) := by decide +kernel
theorem dX5_inspect_60 : decode cX5_inspect 60 = .ok (.getfield 20, 3) := by decide +kernel
theorem dX5_inspect_63 : decode cX5_inspect 63 = .ok (.iload_n 2, 1) := by decide +kernel
theorem dX5_inspect_64 : decode cX5_inspect 64 = .ok (.invokevirtual 51, 3) := by decide +kernel
theorem dX5_inspect_67 : decode cX5_inspect 67 = .ok (.iconst 2, 1) := by decide +kernel
theorem dX5_inspect_68 : decode cX5_inspect 68 = .ok (.iload_n 2, 1) := by decide +kernel
theorem dX5_inspect_69 : decode cX5_inspect 69 = .ok (.invokevirtual 55, 3) := by decide +kernel
theorem dX5_inspect_72 : decode cX5_inspect 72 = .ok (.iinc 2 1, 3) := by decide +kernel
theorem dX5_inspect_75 : decode cX5_inspect 75 = .ok (.goto (-66), 3) := by decide +kernel
theorem dX5_inspect_78 : decode cX5_inspect 78 = .ok (.aload_n 0, 1) := by decide +kernel
theorem dX5_inspect_79 : decode cX5_inspect 79 = .ok (.getfield 28, 3) := by decide +kernel
theorem dX5_inspect_82 : decode cX5_inspect 82 = .ok (.ireturn, 1) := by decide +kernel
set_option maxRecDepth 20000 in
theorem ggX5_inspectPost_X3_at : GoodIn wsX5_inspectPost wsX3_at := goodIn_r _ [10, 11, 63] (by decide +kernel) (by decide +kernel)
set_option maxRecDepth 20000 in
theorem gX5_inspectPost_X3_at : GoodIn wsX5_inspectPost (wsV RX5 43 RX3 yX3_at wsX3_at) := goodIn_app (goodIn_of _ (by decide +kernel)) ggX5_inspectPost_X3_at
set_option maxRecDepth 20000 in
theorem ggX5_inspectPost_X5_note : GoodIn wsX5_inspectPost wsX5_note := goodIn_r _ [16, 17, 18, 19, 20, 21, 9, 22, 11, 44, 45, 46, 47, 63] (by decide +kernel) (by decide +kernel)
set_option maxRecDepth 20000 in
theorem gX5_inspectPost_X5_note : GoodIn wsX5_inspectPost (wsV RX5 55 RX5 yX5_note wsX5_note) := goodIn_app (goodIn_of _ (by decide +kernel)) ggX5_inspectPost_X5_note
set_option maxRecDepth 20000 in
theorem ggX5_inspectPost_X5_brakesTooLate : GoodIn wsX5_inspectPost wsX5_brakesTooLate := goodIn_r _ [26, 1, 27, 28, 29, 3, 30, 31, 32, 33, 34, 35, 36, 37, 38, 39, 40, 41, 42, 43, 7, 8, 9, 10, 11, 6, 44, 45, 46, 47, 48, 49, 50, 51, 52, 53, 54, 55, 56, 57, 58, 59, 60, 61, 62, 64, 65, 66, 67, 68, 69, 63] (by decide +kernel) (by decide +kernel)
set_option maxRecDepth 20000 in
theorem gX5_inspectPost_X5_brakesTooLate : GoodIn wsX5_inspectPost (wsV RX5 68 RX5 yX5_brakesTooLate wsX5_brakesTooLate) := goodIn_app (goodIn_of _ (by decide +kernel)) ggX5_inspectPost_X5_brakesTooLate
theorem dX5_inspectPost_0 : decode cX5_inspectPost 0 = .ok (.aload_n 0, 1) := by decide +kernel
theorem dX5_inspectPost_1 : decode cX5_inspectPost 1 = .ok (.aload_n 0, 1) := by decide +kernel
theorem dX5_inspectPost_2 : decode cX5_inspectPost 2 = .ok (.getfield 20, 3) := by decide +kernel
theorem dX5_inspectPost_5 : decode cX5_inspectPost 5 = .ok (.getfield 59, 3) := by decide +kernel
theorem dX5_inspectPost_8 : decode cX5_inspectPost 8 = .ok (.iload_n 2, 1) := by decide +kernel
theorem dX5_inspectPost_9 : decode cX5_inspectPost 9 = .ok (.invokevirtual 43, 3) := by decide +kernel
theorem dX5_inspectPost_12 : decode cX5_inspectPost 12 = .ok (.iconst 1, 1) := by decide +kernel
theorem dX5_inspectPost_13 : decode cX5_inspectPost 13 = .ok (.if_icmp .ne 7, 3) := by decide +kernel
theorem dX5_inspectPost_16 : decode cX5_inspectPost 16 = .ok (.iconst 1, 1) := by decide +kernel
theorem dX5_inspectPost_17 : decode cX5_inspectPost 17 = .ok (.goto 4, 3) := by decide +kernel
theorem dX5_inspectPost_20 : decode cX5_inspectPost 20 = .ok (.iconst 0, 1) := by decide +kernel
theorem dX5_inspectPost_21 : decode cX5_inspectPost 21 = .ok (.iconst 1, 1) := by decide +kernel
theorem dX5_inspectPost_22 : decode cX5_inspectPost 22 = .ok (.iload_n 2, 1) := by decide +kernel
theorem dX5_inspectPost_23 : decode cX5_inspectPost 23 = .ok (.invokevirtual 55, 3) := by decide +kernel
theorem dX5_inspectPost_26 : decode cX5_inspectPost 26 = .ok (.iload_n 1, 1) := by decide +kernel
theorem dX5_inspectPost_27 : decode cX5_inspectPost 27 = .ok (.ifCond .le 63, 3) := by decide +kernel
theorem dX5_inspectPost_30 : decode cX5_inspectPost 30 = .ok (.iload_n 2, 1) := by decide +kernel
theorem dX5_inspectPost_31 : decode cX5_inspectPost 31 = .ok (.aload_n 0, 1) := by decide +kernel
theorem dX5_inspectPost_32 : decode cX5_inspectPost 32 = .ok (.getfield 20, 3) := by decide +kernel
theorem dX5_inspectPost_35 : decode cX5_inspectPost 35 = .ok (.getfield 40, 3) := by decide +kernel
theorem dX5_inspectPost_38 : decode cX5_inspectPost 38 = .ok (.iload_n 1, 1) := by decide +kernel
theorem dX5_inspectPost_39 : decode cX5_inspectPost 39 = .ok (.iconst 1, 1) := by decide +kernel
theorem dX5_inspectPost_40 : decode cX5_inspectPost 40 = .ok (.isub, 1) := by decide +kernel
theorem dX5_inspectPost_41 : decode cX5_inspectPost 41 = .ok (.invokevirtual 43, 3) := by decide +kernel
theorem dX5_inspectPost_44 : decode cX5_inspectPost 44 = .ok (.isub, 1) := by decide +kernel
theorem dX5_inspectPost_45 : decode cX5_inspectPost 45 = .ok (.istore_n 3, 1) := by decide +kernel
theorem dX5_inspectPost_46 : decode cX5_inspectPost 46 = .ok (.aload_n 0, 1) := by decide +kernel
theorem dX5_inspectPost_47 : decode cX5_inspectPost 47 = .ok (.iload_n 3, 1) := by decide +kernel
theorem dX5_inspectPost_48 : decode cX5_inspectPost 48 = .ok (.aload_n 0, 1) := by decide +kernel
theorem dX5_inspectPost_49 : decode cX5_inspectPost 49 = .ok (.getfield 20, 3) := by decide +kernel
theorem dX5_inspectPost_52 : decode cX5_inspectPost 52 = .ok (.getfield 62, 3) := by decide +kernel
theorem dX5_inspectPost_55 : decode cX5_inspectPost 55 = .ok (.if_icmp .ge 7, 3) := by decide +kernel
theorem dX5_inspectPost_58 : decode cX5_inspectPost 58 = .ok (.iconst 1, 1) := by decide +kernel
theorem dX5_inspectPost_59 : decode cX5_inspectPost 59 = .ok (.goto 4, 3) := by decide +kernel
theorem dX5_inspectPost_62 : decode cX5_inspectPost 62 = .ok (.iconst 0, 1) := by decide +kernel
theorem dX5_inspectPost_63 : decode cX5_inspectPost 63 = .ok (.iconst 3, 1) := by decide +kernel
theorem dX5_inspectPost_64 : decode cX5_inspectPost 64 = .ok (.iload_n 2, 1) := by decide +kernel
theorem dX5_inspectPost_65 : decode cX5_inspectPost 65 = .ok (.invokevirtual 55, 3) := by decide +kernel
theorem dX5_inspectPost_68 : decode cX5_inspectPost 68 = .ok (.aload_n 0, 1) := by decide +kernel
theorem dX5_inspectPost_69 : decode cX5_inspectPost 69 = .ok (.iload_n 3, 1) := by decide +kernel
theorem dX5_inspectPost_70 : decode cX5_inspectPost 70 = .ok (.aload_n 0, 1) := by decide +kernel
theorem dX5_inspectPost_71 : decode cX5_inspectPost 71 = .ok (.getfield 20, 3) := by decide +kernel
theorem dX5_inspectPost_74 : decode cX5_inspectPost 74 = .ok (.getfield 65, 3) := by decide +kernel
theorem dX5_inspectPost_77 : decode cX5_inspectPost 77 = .ok (.if_icmp .le 7, 3) := by decide +kernel
theorem dX5_inspectPost_80 : decode cX5_inspectPost 80 = .ok (.iconst 1, 1) := by decide +kernel
theorem dX5_inspectPost_81 : decode cX5_inspectPost 81 = .ok (.goto 4, 3) := by decide +kernel
theorem dX5_inspectPost_84 : decode cX5_inspectPost 84 = .ok (.iconst 0, 1) := by decide +kernel
theorem dX5_inspectPost_85 : decode cX5_inspectPost 85 = .ok (.iconst 4, 1) := by decide +kernel
theorem dX5_inspectPost_86 : decode cX5_inspectPost 86 = .ok (.iload_n 2, 1) := by decide +kernel
theorem dX5_inspectPost_87 : decode cX5_inspectPost 87 = .ok (.invokevirtual 55, 3) := by decide +kernel
theorem dX5_inspectPost_90 : decode cX5_inspectPost 90 = .ok (.aload_n 0, 1) := by decide +kernel
theorem dX5_inspectPost_91 : decode cX5_inspectPost 91 = .ok (.aload_n 0, 1) := by decide +kernel
theorem dX5_inspectPost_92 : decode cX5_inspectPost 92 = .ok (.iload_n 1, 1) := by decide +kernel
theorem dX5_inspectPost_93 : decode cX5_inspectPost 93 = .ok (.iload_n 2, 1) := by decide +kernel
theorem dX5_inspectPost_94 : decode cX5_inspectPost 94 = .ok (.invokevirtual 68, 3) := by decide +kernel
theorem dX5_inspectPost_97 : decode cX5_inspectPost 97 = .ok (.iconst 5, 1) := by decide +kernel
theorem dX5_inspectPost_98 : decode cX5_inspectPost 98 = .ok (.iload_n 2, 1) := by decide +kernel
theorem dX5_inspectPost_99 : decode cX5_inspectPost 99 = .ok (.invokevirtual 55, 3) := by decide +kernel
theorem dX5_inspectPost_102 : decode cX5_inspectPost 102 = .ok (.return_, 1) := by decide +kernel
set_option maxRecDepth 20000 in
theorem ggX5_brakesTooLate_X2_stopsInSight : GoodIn wsX5_brakesTooLate wsX2_stopsInSight := goodIn_r _ [11, 12, 13, 14, 15, 10, 16, 17, 18, 19, 20, 21, 22, 23, 24, 45, 46, 47, 48, 49, 50, 30, 31, 32, 33, 34, 35, 36, 37, 38, 39, 40, 41, 42, 43, 44, 51] (by decide +kernel) (by decide +kernel)
set_option maxRecDepth 20000 in
theorem gX5_brakesTooLate_X2_stopsInSight : GoodIn wsX5_brakesTooLate (wsV RX5 75 RX2 yX2_stopsInSight wsX2_stopsInSight) := goodIn_app (goodIn_of _ (by decide +kernel)) ggX5_brakesTooLate_X2_stopsInSight
set_option maxRecDepth 20000 in
theorem ggX5_brakesTooLate_X3_at : GoodIn wsX5_brakesTooLate wsX3_at := goodIn_r _ [23, 24, 51] (by decide +kernel) (by decide +kernel)
set_option maxRecDepth 20000 in
theorem gX5_brakesTooLate_X3_at : GoodIn wsX5_brakesTooLate (wsV RX5 43 RX3 yX3_at wsX3_at) := goodIn_app (goodIn_of _ (by decide +kernel)) ggX5_brakesTooLate_X3_at
theorem dX5_brakesTooLate_0 : decode cX5_brakesTooLate 0 = .ok (.aload_n 0, 1) := by decide +kernel
theorem dX5_brakesTooLate_1 : decode cX5_brakesTooLate 1 = .ok (.getfield 20, 3) := by decide +kernel
theorem dX5_brakesTooLate_4 : decode cX5_brakesTooLate 4 = .ok (.getfield 72, 3) := by decide +kernel
theorem dX5_brakesTooLate_7 : decode cX5_brakesTooLate 7 = .ok (.iconst 2, 1) := by decide +kernel
theorem dX5_brakesTooLate_8 : decode cX5_brakesTooLate 8 = .ok (.if_icmp .ne 24, 3) := by decide +kernel
theorem dX5_brakesTooLate_11 : decode cX5_brakesTooLate 11 = .ok (.iload_n 1, 1) := by decide +kernel
theorem dX5_brakesTooLate_12 : decode cX5_brakesTooLate 12 = .ok (.ifCond .le 18, 3) := by decide +kernel
theorem dX5_brakesTooLate_15 : decode cX5_brakesTooLate 15 = .ok (.aload_n 0, 1) := by decide +kernel
theorem dX5_brakesTooLate_16 : decode cX5_brakesTooLate 16 = .ok (.getfield 24, 3) := by decide +kernel
theorem dX5_brakesTooLate_19 : decode cX5_brakesTooLate 19 = .ok (.iload_n 2, 1) := by decide +kernel
theorem dX5_brakesTooLate_20 : decode cX5_brakesTooLate 20 = .ok (.invokevirtual 75, 3) := by decide +kernel
theorem dX5_brakesTooLate_23 : decode cX5_brakesTooLate 23 = .ok (.ifCond .ne 7, 3) := by decide +kernel
theorem dX5_brakesTooLate_26 : decode cX5_brakesTooLate 26 = .ok (.iconst 1, 1) := by decide +kernel
theorem dX5_brakesTooLate_27 : decode cX5_brakesTooLate 27 = .ok (.goto 4, 3) := by decide +kernel
theorem dX5_brakesTooLate_30 : decode cX5_brakesTooLate 30 = .ok (.iconst 0, 1) := by decide +kernel
theorem dX5_brakesTooLate_31 : decode cX5_brakesTooLate 31 = .ok (.ireturn, 1) := by decide +kernel
theorem dX5_brakesTooLate_32 : decode cX5_brakesTooLate 32 = .ok (.iload_n 1, 1) := by decide +kernel
theorem dX5_brakesTooLate_33 : decode cX5_brakesTooLate 33 = .ok (.aload_n 0, 1) := by decide +kernel
theorem dX5_brakesTooLate_34 : decode cX5_brakesTooLate 34 = .ok (.getfield 20, 3) := by decide +kernel
theorem dX5_brakesTooLate_37 : decode cX5_brakesTooLate 37 = .ok (.getfield 72, 3) := by decide +kernel
theorem dX5_brakesTooLate_40 : decode cX5_brakesTooLate 40 = .ok (.iadd, 1) := by decide +kernel
theorem dX5_brakesTooLate_41 : decode cX5_brakesTooLate 41 = .ok (.iconst 2, 1) := by decide +kernel
theorem dX5_brakesTooLate_42 : decode cX5_brakesTooLate 42 = .ok (.isub, 1) := by decide +kernel
theorem dX5_brakesTooLate_43 : decode cX5_brakesTooLate 43 = .ok (.istore_n 3, 1) := by decide +kernel
theorem dX5_brakesTooLate_44 : decode cX5_brakesTooLate 44 = .ok (.iload_n 3, 1) := by decide +kernel
theorem dX5_brakesTooLate_45 : decode cX5_brakesTooLate 45 = .ok (.aload_n 0, 1) := by decide +kernel
theorem dX5_brakesTooLate_46 : decode cX5_brakesTooLate 46 = .ok (.getfield 20, 3) := by decide +kernel
theorem dX5_brakesTooLate_49 : decode cX5_brakesTooLate 49 = .ok (.getfield 37, 3) := by decide +kernel
theorem dX5_brakesTooLate_52 : decode cX5_brakesTooLate 52 = .ok (.if_icmp .ge 34, 3) := by decide +kernel
theorem dX5_brakesTooLate_55 : decode cX5_brakesTooLate 55 = .ok (.aload_n 0, 1) := by decide +kernel
theorem dX5_brakesTooLate_56 : decode cX5_brakesTooLate 56 = .ok (.getfield 20, 3) := by decide +kernel
theorem dX5_brakesTooLate_59 : decode cX5_brakesTooLate 59 = .ok (.getfield 40, 3) := by decide +kernel
theorem dX5_brakesTooLate_62 : decode cX5_brakesTooLate 62 = .ok (.iload_n 3, 1) := by decide +kernel
theorem dX5_brakesTooLate_63 : decode cX5_brakesTooLate 63 = .ok (.invokevirtual 43, 3) := by decide +kernel
theorem dX5_brakesTooLate_66 : decode cX5_brakesTooLate 66 = .ok (.iload_n 2, 1) := by decide +kernel
theorem dX5_brakesTooLate_67 : decode cX5_brakesTooLate 67 = .ok (.isub, 1) := by decide +kernel
theorem dX5_brakesTooLate_68 : decode cX5_brakesTooLate 68 = .ok (.aload_n 0, 1) := by decide +kernel
theorem dX5_brakesTooLate_69 : decode cX5_brakesTooLate 69 = .ok (.getfield 24, 3) := by decide +kernel
theorem dX5_brakesTooLate_72 : decode cX5_brakesTooLate 72 = .ok (.getfield 80, 3) := by decide +kernel
theorem dX5_brakesTooLate_75 : decode cX5_brakesTooLate 75 = .ok (.iload_n 2, 1) := by decide +kernel
theorem dX5_brakesTooLate_76 : decode cX5_brakesTooLate 76 = .ok (.invokevirtual 43, 3) := by decide +kernel
theorem dX5_brakesTooLate_79 : decode cX5_brakesTooLate 79 = .ok (.if_icmp .ge 7, 3) := by decide +kernel
theorem dX5_brakesTooLate_82 : decode cX5_brakesTooLate 82 = .ok (.iconst 1, 1) := by decide +kernel
theorem dX5_brakesTooLate_83 : decode cX5_brakesTooLate 83 = .ok (.goto 4, 3) := by decide +kernel
theorem dX5_brakesTooLate_86 : decode cX5_brakesTooLate 86 = .ok (.iconst 0, 1) := by decide +kernel
theorem dX5_brakesTooLate_87 : decode cX5_brakesTooLate 87 = .ok (.ireturn, 1) := by decide +kernel
set_option maxRecDepth 20000 in
theorem ggX5_note_X3_put : GoodIn wsX5_note wsX3_put := goodIn_r _ [7, 8, 13] (by decide +kernel) (by decide +kernel)
set_option maxRecDepth 20000 in
theorem gX5_note_X3_put : GoodIn wsX5_note (wsV RX5 83 RX3 yX3_put wsX3_put) := goodIn_app (goodIn_of _ (by decide +kernel)) ggX5_note_X3_put
theorem dX5_note_0 : decode cX5_note 0 = .ok (.iload_n 1, 1) := by decide +kernel
theorem dX5_note_1 : decode cX5_note 1 = .ok (.ifCond .eq 31, 3) := by decide +kernel
theorem dX5_note_4 : decode cX5_note 4 = .ok (.aload_n 0, 1) := by decide +kernel
theorem dX5_note_5 : decode cX5_note 5 = .ok (.getfield 16, 3) := by decide +kernel
theorem dX5_note_8 : decode cX5_note 8 = .ok (.aload_n 0, 1) := by decide +kernel
theorem dX5_note_9 : decode cX5_note 9 = .ok (.getfield 28, 3) := by decide +kernel
theorem dX5_note_12 : decode cX5_note 12 = .ok (.sipush 1000, 3) := by decide +kernel
theorem dX5_note_15 : decode cX5_note 15 = .ok (.iload_n 2, 1) := by decide +kernel
theorem dX5_note_16 : decode cX5_note 16 = .ok (.imul, 1) := by decide +kernel
theorem dX5_note_17 : decode cX5_note 17 = .ok (.iload_n 3, 1) := by decide +kernel
theorem dX5_note_18 : decode cX5_note 18 = .ok (.iadd, 1) := by decide +kernel
theorem dX5_note_19 : decode cX5_note 19 = .ok (.invokevirtual 83, 3) := by decide +kernel
theorem dX5_note_22 : decode cX5_note 22 = .ok (.aload_n 0, 1) := by decide +kernel
theorem dX5_note_23 : decode cX5_note 23 = .ok (.dup, 1) := by decide +kernel
theorem dX5_note_24 : decode cX5_note 24 = .ok (.getfield 28, 3) := by decide +kernel
theorem dX5_note_27 : decode cX5_note 27 = .ok (.iconst 1, 1) := by decide +kernel
theorem dX5_note_28 : decode cX5_note 28 = .ok (.iadd, 1) := by decide +kernel
theorem dX5_note_29 : decode cX5_note 29 = .ok (.putfield 28, 3) := by decide +kernel
theorem dX5_note_32 : decode cX5_note 32 = .ok (.return_, 1) := by decide +kernel
set_option maxRecDepth 20000 in
theorem ggX6_init_X4_init : GoodIn wsX6_init wsX4_init := goodIn_r _ [26, 27, 2, 3, 28, 29, 30, 31, 32, 33, 34, 35, 36, 37, 38, 39, 40, 41, 42, 43, 44, 45, 46, 47, 48, 49, 50, 51, 52, 6, 53, 54, 55, 56, 57, 58, 59, 136, 98, 99, 100, 101, 102, 103, 104, 105, 106, 107, 108, 109, 110, 111, 112] (by decide +kernel) (by decide +kernel)
set_option maxRecDepth 20000 in
theorem gX6_init_X4_init : GoodIn wsX6_init (wsX4_init) := ggX6_init_X4_init
set_option maxRecDepth 20000 in
theorem ggX6_init_X0_init : GoodIn wsX6_init wsX0_init := goodIn_r _ [62, 63, 2, 3, 64, 65, 5, 6, 66, 25, 26, 27, 28, 29, 30, 31, 32, 33, 34, 35, 36, 37, 38, 39, 40, 41, 42, 43, 44, 45, 46, 47, 48, 49, 50, 51, 52, 53, 54, 55, 56, 57, 58, 59, 118, 119, 120, 98, 99, 100, 101, 102, 103, 104, 105, 106, 107, 108, 109, 110, 111, 112, 136] (by decide +kernel) (by decide +kernel)
set_option maxRecDepth 20000 in
theorem gX6_init_X0_init : GoodIn wsX6_init (wsX0_init) := ggX6_init_X0_init
set_option maxRecDepth 20000 in
theorem ggX6_init_X2_init : GoodIn wsX6_init wsX2_init := goodIn_r _ [69, 70, 2, 3, 71, 29, 30, 72, 73, 74, 75, 76, 77, 45, 46, 47, 48, 49, 136, 121, 122, 123, 124, 125, 126] (by decide +kernel) (by decide +kernel)
set_option maxRecDepth 20000 in
theorem gX6_init_X2_init : GoodIn wsX6_init (wsX2_init) := ggX6_init_X2_init
set_option maxRecDepth 20000 in
theorem ggX6_init_X5_init : GoodIn wsX6_init wsX5_init := goodIn_r _ [80, 81, 2, 3, 82, 29, 30, 83, 84, 85, 86, 45, 46, 47, 48, 49, 136, 127, 128, 129, 130] (by decide +kernel) (by decide +kernel)
set_option maxRecDepth 20000 in
theorem gX6_init_X5_init : GoodIn wsX6_init (wsX5_init) := ggX6_init_X5_init
set_option maxRecDepth 20000 in
theorem ggX6_init_X1_init : GoodIn wsX6_init wsX1_init := goodIn_r _ [89, 90, 2, 3, 91, 29, 30, 92, 93, 94, 95, 96, 97, 45, 46, 47, 48, 49, 136, 131, 132, 133, 134, 135] (by decide +kernel) (by decide +kernel)
set_option maxRecDepth 20000 in
theorem gX6_init_X1_init : GoodIn wsX6_init (wsX1_init) := ggX6_init_X1_init
theorem dX6_init_0 : decode cX6_init 0 = .ok (.aload_n 0, 1) := by decide +kernel
theorem dX6_init_1 : decode cX6_init 1 = .ok (.invokespecial 3, 3) := by decide +kernel
theorem dX6_init_4 : decode cX6_init 4 = .ok (.aload_n 0, 1) := by decide +kernel
theorem dX6_init_5 : decode cX6_init 5 = .ok (.new 9, 3) := by decide +kernel
theorem dX6_init_8 : decode cX6_init 8 = .ok (.dup, 1) := by decide +kernel
theorem dX6_init_9 : decode cX6_init 9 = .ok (.invokespecial 11, 3) := by decide +kernel
theorem dX6_init_12 : decode cX6_init 12 = .ok (.putfield 12, 3) := by decide +kernel
theorem dX6_init_15 : decode cX6_init 15 = .ok (.aload_n 0, 1) := by decide +kernel
theorem dX6_init_16 : decode cX6_init 16 = .ok (.new 16, 3) := by decide +kernel
theorem dX6_init_19 : decode cX6_init 19 = .ok (.dup, 1) := by decide +kernel
theorem dX6_init_20 : decode cX6_init 20 = .ok (.invokespecial 18, 3) := by decide +kernel
theorem dX6_init_23 : decode cX6_init 23 = .ok (.putfield 19, 3) := by decide +kernel
theorem dX6_init_26 : decode cX6_init 26 = .ok (.aload_n 0, 1) := by decide +kernel
theorem dX6_init_27 : decode cX6_init 27 = .ok (.new 23, 3) := by decide +kernel
theorem dX6_init_30 : decode cX6_init 30 = .ok (.dup, 1) := by decide +kernel
theorem dX6_init_31 : decode cX6_init 31 = .ok (.aload_n 0, 1) := by decide +kernel
theorem dX6_init_32 : decode cX6_init 32 = .ok (.getfield 12, 3) := by decide +kernel
theorem dX6_init_35 : decode cX6_init 35 = .ok (.invokespecial 25, 3) := by decide +kernel
theorem dX6_init_38 : decode cX6_init 38 = .ok (.putfield 28, 3) := by decide +kernel
theorem dX6_init_41 : decode cX6_init 41 = .ok (.aload_n 0, 1) := by decide +kernel
theorem dX6_init_42 : decode cX6_init 42 = .ok (.new 32, 3) := by decide +kernel
theorem dX6_init_45 : decode cX6_init 45 = .ok (.dup, 1) := by decide +kernel
theorem dX6_init_46 : decode cX6_init 46 = .ok (.aload_n 0, 1) := by decide +kernel
theorem dX6_init_47 : decode cX6_init 47 = .ok (.getfield 12, 3) := by decide +kernel
theorem dX6_init_50 : decode cX6_init 50 = .ok (.aload_n 0, 1) := by decide +kernel
theorem dX6_init_51 : decode cX6_init 51 = .ok (.getfield 28, 3) := by decide +kernel
theorem dX6_init_54 : decode cX6_init 54 = .ok (.invokespecial 34, 3) := by decide +kernel
theorem dX6_init_57 : decode cX6_init 57 = .ok (.putfield 37, 3) := by decide +kernel
theorem dX6_init_60 : decode cX6_init 60 = .ok (.aload_n 0, 1) := by decide +kernel
theorem dX6_init_61 : decode cX6_init 61 = .ok (.new 41, 3) := by decide +kernel
theorem dX6_init_64 : decode cX6_init 64 = .ok (.dup, 1) := by decide +kernel
theorem dX6_init_65 : decode cX6_init 65 = .ok (.aload_n 0, 1) := by decide +kernel
theorem dX6_init_66 : decode cX6_init 66 = .ok (.getfield 12, 3) := by decide +kernel
theorem dX6_init_69 : decode cX6_init 69 = .ok (.aload_n 0, 1) := by decide +kernel
theorem dX6_init_70 : decode cX6_init 70 = .ok (.getfield 28, 3) := by decide +kernel
theorem dX6_init_73 : decode cX6_init 73 = .ok (.invokespecial 43, 3) := by decide +kernel
theorem dX6_init_76 : decode cX6_init 76 = .ok (.putfield 44, 3) := by decide +kernel
theorem dX6_init_79 : decode cX6_init 79 = .ok (.return_, 1) := by decide +kernel
set_option maxRecDepth 20000 in
theorem ggX6_setLength_X6_isWithin : GoodIn wsX6_setLength wsX6_isWithin := goodIn_r _ [8] (by decide +kernel) (by decide +kernel)
set_option maxRecDepth 20000 in
theorem gX6_setLength_X6_isWithin : GoodIn wsX6_setLength (va_wsS RX6 48 yX6_isWithin wsX6_isWithin) := goodIn_app (goodIn_of _ (by decide +kernel)) ggX6_setLength_X6_isWithin
set_option maxRecDepth 20000 in
theorem ggX6_setLength_X6_save : GoodIn wsX6_setLength wsX6_save := goodIn_r _ [12, 13, 3, 14, 15, 16, 17, 18, 19, 20, 21, 22, 23, 24, 25, 26, 27, 28, 29, 30, 31, 32, 33, 34, 35, 36, 37, 38, 39, 40, 41, 42, 43, 44, 45, 46, 47, 48, 49, 50, 51, 52, 53, 54, 55, 56, 57, 58, 59, 60, 61, 62, 71, 72, 73, 74, 75, 91, 92, 93, 76, 77, 78, 79, 80, 81, 82, 83, 84, 85, 86, 87, 88, 89, 90, 94, 95, 96, 97, 98, 99, 100] (by decide +kernel) (by decide +kernel)
set_option maxRecDepth 20000 in
theorem gX6_setLength_X6_save : GoodIn wsX6_setLength (wsV RX6 63 RX6 yX6_save wsX6_save) := goodIn_app (goodIn_of _ (by decide +kernel)) ggX6_setLength_X6_save
set_option maxRecDepth 20000 in
theorem ggX6_setLength_X4_layLine : GoodIn wsX6_setLength wsX4_layLine := goodIn_r _ [66, 42, 36, 37, 38, 39, 41, 67, 68, 69, 54, 70, 56, 76, 77, 78, 79, 80, 81, 82, 83, 84, 85, 86, 87, 88, 89, 90, 94] (by decide +kernel) (by decide +kernel)
set_option maxRecDepth 20000 in
theorem gX6_setLength_X4_layLine : GoodIn wsX6_setLength (wsV RX6 66 RX4 yX4_layLine wsX4_layLine) := goodIn_app (goodIn_of _ (by decide +kernel)) ggX6_setLength_X4_layLine
theorem dX6_setLength_0 : decode cX6_setLength 0 = .ok (.iload_n 1, 1) := by decide +kernel
theorem dX6_setLength_1 : decode cX6_setLength 1 = .ok (.bipush 10, 2) := by decide +kernel
theorem dX6_setLength_3 : decode cX6_setLength 3 = .ok (.bipush 120, 2) := by decide +kernel
theorem dX6_setLength_5 : decode cX6_setLength 5 = .ok (.invokestatic 48, 3) := by decide +kernel
theorem dX6_setLength_8 : decode cX6_setLength 8 = .ok (.ifCond .ne 13, 3) := by decide +kernel
theorem dX6_setLength_11 : decode cX6_setLength 11 = .ok (.new 52, 3) := by decide +kernel
theorem dX6_setLength_14 : decode cX6_setLength 14 = .ok (.dup, 1) := by decide +kernel
theorem dX6_setLength_15 : decode cX6_setLength 15 = .ok (.ldc 54, 2) := by decide +kernel
theorem dX6_setLength_17 : decode cX6_setLength 17 = .ok (.invokespecial 56, 3) := by decide +kernel
theorem dX6_setLength_20 : decode cX6_setLength 20 = .ok (.athrow, 1) := by decide +kernel
theorem dX6_setLength_21 : decode cX6_setLength 21 = .ok (.aload_n 0, 1) := by decide +kernel
theorem dX6_setLength_22 : decode cX6_setLength 22 = .ok (.getfield 12, 3) := by decide +kernel
theorem dX6_setLength_25 : decode cX6_setLength 25 = .ok (.getfield 59, 3) := by decide +kernel
theorem dX6_setLength_28 : decode cX6_setLength 28 = .ok (.istore_n 2, 1) := by decide +kernel
theorem dX6_setLength_29 : decode cX6_setLength 29 = .ok (.aload_n 0, 1) := by decide +kernel
theorem dX6_setLength_30 : decode cX6_setLength 30 = .ok (.invokevirtual 63, 3) := by decide +kernel
theorem dX6_setLength_33 : decode cX6_setLength 33 = .ok (.aload_n 0, 1) := by decide +kernel
theorem dX6_setLength_34 : decode cX6_setLength 34 = .ok (.getfield 12, 3) := by decide +kernel
theorem dX6_setLength_37 : decode cX6_setLength 37 = .ok (.iload_n 1, 1) := by decide +kernel
theorem dX6_setLength_38 : decode cX6_setLength 38 = .ok (.invokevirtual 66, 3) := by decide +kernel
theorem dX6_setLength_41 : decode cX6_setLength 41 = .ok (.iload_n 2, 1) := by decide +kernel
theorem dX6_setLength_42 : decode cX6_setLength 42 = .ok (.ireturn, 1) := by decide +kernel
set_option maxRecDepth 20000 in
theorem ggX6_setLimit_X6_isRange : GoodIn wsX6_setLimit wsX6_isRange := goodIn_r _ [9] (by decide +kernel) (by decide +kernel)
set_option maxRecDepth 20000 in
theorem gX6_setLimit_X6_isRange : GoodIn wsX6_setLimit (va_wsS RX6 70 yX6_isRange wsX6_isRange) := goodIn_app (goodIn_of _ (by decide +kernel)) ggX6_setLimit_X6_isRange
set_option maxRecDepth 20000 in
theorem ggX6_setLimit_X6_isWithin : GoodIn wsX6_setLimit wsX6_isWithin := goodIn_r _ [12] (by decide +kernel) (by decide +kernel)
set_option maxRecDepth 20000 in
theorem gX6_setLimit_X6_isWithin : GoodIn wsX6_setLimit (va_wsS RX6 48 yX6_isWithin wsX6_isWithin) := goodIn_app (goodIn_of _ (by decide +kernel)) ggX6_setLimit_X6_isWithin
set_option maxRecDepth 20000 in
theorem ggX6_setLimit_X6_save : GoodIn wsX6_setLimit wsX6_save := goodIn_r _ [16, 17, 3, 18, 19, 20, 21, 22, 23, 24, 25, 26, 27, 28, 29, 30, 31, 32, 33, 34, 35, 36, 37, 38, 39, 40, 41, 42, 43, 44, 45, 46, 47, 48, 49, 50, 51, 52, 53, 54, 55, 56, 57, 58, 59, 60, 61, 62, 63, 64, 65, 66, 74, 75, 76, 77, 78, 94, 95, 96, 79, 80, 81, 82, 83, 84, 85, 86, 87, 88, 89, 90, 91, 92, 93, 97, 98, 99, 100, 101, 102, 103] (by decide +kernel) (by decide +kernel)
set_option maxRecDepth 20000 in
theorem gX6_setLimit_X6_save : GoodIn wsX6_setLimit (wsV RX6 63 RX6 yX6_save wsX6_save) := goodIn_app (goodIn_of _ (by decide +kernel)) ggX6_setLimit_X6_save
set_option maxRecDepth 20000 in
theorem ggX6_setLimit_X3_change : GoodIn wsX6_setLimit wsX3_change := goodIn_r _ [70, 71, 72, 28, 73, 60, 97] (by decide +kernel) (by decide +kernel)
set_option maxRecDepth 20000 in
theorem gX6_setLimit_X3_change : GoodIn wsX6_setLimit (wsV RX6 79 RX3 yX3_change wsX3_change) := goodIn_app (goodIn_of _ (by decide +kernel)) ggX6_setLimit_X3_change
theorem dX6_setLimit_0 : decode cX6_setLimit 0 = .ok (.iload_n 1, 1) := by decide +kernel
theorem dX6_setLimit_1 : decode cX6_setLimit 1 = .ok (.iload_n 2, 1) := by decide +kernel
theorem dX6_setLimit_2 : decode cX6_setLimit 2 = .ok (.aload_n 0, 1) := by decide +kernel
theorem dX6_setLimit_3 : decode cX6_setLimit 3 = .ok (.getfield 12, 3) := by decide +kernel
theorem dX6_setLimit_6 : decode cX6_setLimit 6 = .ok (.getfield 59, 3) := by decide +kernel
theorem dX6_setLimit_9 : decode cX6_setLimit 9 = .ok (.iconst 1, 1) := by decide +kernel
theorem dX6_setLimit_10 : decode cX6_setLimit 10 = .ok (.isub, 1) := by decide +kernel
theorem dX6_setLimit_11 : decode cX6_setLimit 11 = .ok (.invokestatic 70, 3) := by decide +kernel
theorem dX6_setLimit_14 : decode cX6_setLimit 14 = .ok (.ifCond .eq 15, 3) := by decide +kernel
theorem dX6_setLimit_17 : decode cX6_setLimit 17 = .ok (.iload_n 3, 1) := by decide +kernel
theorem dX6_setLimit_18 : decode cX6_setLimit 18 = .ok (.bipush 20, 2) := by decide +kernel
theorem dX6_setLimit_20 : decode cX6_setLimit 20 = .ok (.sipush 160, 3) := by decide +kernel
theorem dX6_setLimit_23 : decode cX6_setLimit 23 = .ok (.invokestatic 48, 3) := by decide +kernel
theorem dX6_setLimit_26 : decode cX6_setLimit 26 = .ok (.ifCond .ne 13, 3) := by decide +kernel
theorem dX6_setLimit_29 : decode cX6_setLimit 29 = .ok (.new 52, 3) := by decide +kernel
theorem dX6_setLimit_32 : decode cX6_setLimit 32 = .ok (.dup, 1) := by decide +kernel
theorem dX6_setLimit_33 : decode cX6_setLimit 33 = .ok (.ldc 73, 2) := by decide +kernel
theorem dX6_setLimit_35 : decode cX6_setLimit 35 = .ok (.invokespecial 56, 3) := by decide +kernel
theorem dX6_setLimit_38 : decode cX6_setLimit 38 = .ok (.athrow, 1) := by decide +kernel
theorem dX6_setLimit_39 : decode cX6_setLimit 39 = .ok (.aload_n 0, 1) := by decide +kernel
theorem dX6_setLimit_40 : decode cX6_setLimit 40 = .ok (.invokevirtual 63, 3) := by decide +kernel
theorem dX6_setLimit_43 : decode cX6_setLimit 43 = .ok (.aload_n 0, 1) := by decide +kernel
theorem dX6_setLimit_44 : decode cX6_setLimit 44 = .ok (.getfield 12, 3) := by decide +kernel
theorem dX6_setLimit_47 : decode cX6_setLimit 47 = .ok (.getfield 75, 3) := by decide +kernel
theorem dX6_setLimit_50 : decode cX6_setLimit 50 = .ok (.iload_n 1, 1) := by decide +kernel
theorem dX6_setLimit_51 : decode cX6_setLimit 51 = .ok (.iload_n 2, 1) := by decide +kernel
theorem dX6_setLimit_52 : decode cX6_setLimit 52 = .ok (.iload_n 3, 1) := by decide +kernel
theorem dX6_setLimit_53 : decode cX6_setLimit 53 = .ok (.invokevirtual 79, 3) := by decide +kernel
theorem dX6_setLimit_56 : decode cX6_setLimit 56 = .ok (.ireturn, 1) := by decide +kernel
set_option maxRecDepth 20000 in
theorem ggX6_setGradient_X6_isRange : GoodIn wsX6_setGradient wsX6_isRange := goodIn_r _ [9] (by decide +kernel) (by decide +kernel)
set_option maxRecDepth 20000 in
theorem gX6_setGradient_X6_isRange : GoodIn wsX6_setGradient (va_wsS RX6 70 yX6_isRange wsX6_isRange) := goodIn_app (goodIn_of _ (by decide +kernel)) ggX6_setGradient_X6_isRange
set_option maxRecDepth 20000 in
theorem ggX6_setGradient_X6_isWithin : GoodIn wsX6_setGradient wsX6_isWithin := goodIn_r _ [12] (by decide +kernel) (by decide +kernel)
set_option maxRecDepth 20000 in
theorem gX6_setGradient_X6_isWithin : GoodIn wsX6_setGradient (va_wsS RX6 48 yX6_isWithin wsX6_isWithin) := goodIn_app (goodIn_of _ (by decide +kernel)) ggX6_setGradient_X6_isWithin
set_option maxRecDepth 20000 in
theorem ggX6_setGradient_X6_save : GoodIn wsX6_setGradient wsX6_save := goodIn_r _ [16, 17, 3, 18, 19, 20, 21, 22, 23, 24, 25, 26, 27, 28, 29, 30, 31, 32, 33, 34, 35, 36, 37, 38, 39, 40, 41, 42, 43, 44, 45, 46, 47, 48, 49, 50, 51, 52, 53, 54, 55, 56, 57, 58, 59, 60, 61, 62, 63, 64, 65, 66, 74, 75, 76, 77, 78, 94, 95, 96, 79, 80, 81, 82, 83, 84, 85, 86, 87, 88, 89, 90, 91, 92, 93, 97, 98, 99, 100, 101, 102, 103] (by decide +kernel) (by decide +kernel)
set_option maxRecDepth 20000 in
theorem gX6_setGradient_X6_save : GoodIn wsX6_setGradient (wsV RX6 63 RX6 yX6_save wsX6_save) := goodIn_app (goodIn_of _ (by decide +kernel)) ggX6_setGradient_X6_save
set_option maxRecDepth 20000 in
theorem ggX6_setGradient_X3_change : GoodIn wsX6_setGradient wsX3_change := goodIn_r _ [70, 71, 72, 28, 73, 60, 97] (by decide +kernel) (by decide +kernel)
set_option maxRecDepth 20000 in
theorem gX6_setGradient_X3_change : GoodIn wsX6_setGradient (wsV RX6 79 RX3 yX3_change wsX3_change) := goodIn_app (goodIn_of _ (by decide +kernel)) ggX6_setGradient_X3_change
theorem dX6_setGradient_0 : decode cX6_setGradient 0 = .ok (.iload_n 1, 1) := by decide +kernel
theorem dX6_setGradient_1 : decode cX6_setGradient 1 = .ok (.iload_n 2, 1) := by decide +kernel
theorem dX6_setGradient_2 : decode cX6_setGradient 2 = .ok (.aload_n 0, 1) := by decide +kernel
theorem dX6_setGradient_3 : decode cX6_setGradient 3 = .ok (.getfield 12, 3) := by decide +kernel
theorem dX6_setGradient_6 : decode cX6_setGradient 6 = .ok (.getfield 59, 3) := by decide +kernel
theorem dX6_setGradient_9 : decode cX6_setGradient 9 = .ok (.iconst 1, 1) := by decide +kernel
theorem dX6_setGradient_10 : decode cX6_setGradient 10 = .ok (.isub, 1) := by decide +kernel
theorem dX6_setGradient_11 : decode cX6_setGradient 11 = .ok (.invokestatic 70, 3) := by decide +kernel
theorem dX6_setGradient_14 : decode cX6_setGradient 14 = .ok (.ifCond .eq 14, 3) := by decide +kernel
theorem dX6_setGradient_17 : decode cX6_setGradient 17 = .ok (.iload_n 3, 1) := by decide +kernel
theorem dX6_setGradient_18 : decode cX6_setGradient 18 = .ok (.bipush (-40), 2) := by decide +kernel
theorem dX6_setGradient_20 : decode cX6_setGradient 20 = .ok (.bipush 40, 2) := by decide +kernel
theorem dX6_setGradient_22 : decode cX6_setGradient 22 = .ok (.invokestatic 48, 3) := by decide +kernel
theorem dX6_setGradient_25 : decode cX6_setGradient 25 = .ok (.ifCond .ne 13, 3) := by decide +kernel
theorem dX6_setGradient_28 : decode cX6_setGradient 28 = .ok (.new 52, 3) := by decide +kernel
theorem dX6_setGradient_31 : decode cX6_setGradient 31 = .ok (.dup, 1) := by decide +kernel
theorem dX6_setGradient_32 : decode cX6_setGradient 32 = .ok (.ldc 85, 2) := by decide +kernel
theorem dX6_setGradient_34 : decode cX6_setGradient 34 = .ok (.invokespecial 56, 3) := by decide +kernel
theorem dX6_setGradient_37 : decode cX6_setGradient 37 = .ok (.athrow, 1) := by decide +kernel
theorem dX6_setGradient_38 : decode cX6_setGradient 38 = .ok (.aload_n 0, 1) := by decide +kernel
theorem dX6_setGradient_39 : decode cX6_setGradient 39 = .ok (.invokevirtual 63, 3) := by decide +kernel
theorem dX6_setGradient_42 : decode cX6_setGradient 42 = .ok (.aload_n 0, 1) := by decide +kernel
theorem dX6_setGradient_43 : decode cX6_setGradient 43 = .ok (.getfield 12, 3) := by decide +kernel
theorem dX6_setGradient_46 : decode cX6_setGradient 46 = .ok (.getfield 87, 3) := by decide +kernel
theorem dX6_setGradient_49 : decode cX6_setGradient 49 = .ok (.iload_n 1, 1) := by decide +kernel
theorem dX6_setGradient_50 : decode cX6_setGradient 50 = .ok (.iload_n 2, 1) := by decide +kernel
theorem dX6_setGradient_51 : decode cX6_setGradient 51 = .ok (.iload_n 3, 1) := by decide +kernel
theorem dX6_setGradient_52 : decode cX6_setGradient 52 = .ok (.invokevirtual 79, 3) := by decide +kernel
theorem dX6_setGradient_55 : decode cX6_setGradient 55 = .ok (.ireturn, 1) := by decide +kernel
set_option maxRecDepth 20000 in
theorem ggX6_setBarred_X6_isRange : GoodIn wsX6_setBarred wsX6_isRange := goodIn_r _ [9] (by decide +kernel) (by decide +kernel)
set_option maxRecDepth 20000 in
theorem gX6_setBarred_X6_isRange : GoodIn wsX6_setBarred (va_wsS RX6 70 yX6_isRange wsX6_isRange) := goodIn_app (goodIn_of _ (by decide +kernel)) ggX6_setBarred_X6_isRange
set_option maxRecDepth 20000 in
theorem ggX6_setBarred_X6_save : GoodIn wsX6_setBarred wsX6_save := goodIn_r _ [13, 14, 3, 15, 16, 17, 18, 19, 20, 21, 22, 23, 24, 25, 26, 27, 28, 29, 30, 31, 32, 33, 34, 35, 36, 37, 38, 39, 40, 41, 42, 43, 44, 45, 46, 47, 48, 49, 50, 51, 52, 53, 54, 55, 56, 57, 58, 59, 60, 61, 62, 63, 79, 80, 81, 82, 83, 99, 100, 101, 84, 85, 86, 87, 88, 89, 90, 91, 92, 93, 94, 95, 96, 97, 98, 102, 103, 104, 105, 106, 107, 108] (by decide +kernel) (by decide +kernel)
set_option maxRecDepth 20000 in
theorem gX6_setBarred_X6_save : GoodIn wsX6_setBarred (wsV RX6 63 RX6 yX6_save wsX6_save) := goodIn_app (goodIn_of _ (by decide +kernel)) ggX6_setBarred_X6_save
set_option maxRecDepth 20000 in
theorem ggX6_setBarred_X3_change : GoodIn wsX6_setBarred wsX3_change := goodIn_r _ [67, 68, 69, 25, 70, 57, 102] (by decide +kernel) (by decide +kernel)
set_option maxRecDepth 20000 in
theorem gX6_setBarred_X3_change : GoodIn wsX6_setBarred (wsV RX6 79 RX3 yX3_change wsX3_change) := goodIn_app (goodIn_of _ (by decide +kernel)) ggX6_setBarred_X3_change
set_option maxRecDepth 20000 in
theorem ggX6_setBarred_X4_barredPositions : GoodIn wsX6_setBarred wsX4_barredPositions := goodIn_r _ [74, 43, 39, 75, 76, 77, 55, 78, 57, 84, 85, 86, 87, 88, 89, 90, 91, 92, 93, 94, 95, 96, 97, 98, 102] (by decide +kernel) (by decide +kernel)
set_option maxRecDepth 20000 in
theorem gX6_setBarred_X4_barredPositions : GoodIn wsX6_setBarred (wsV RX6 95 RX4 yX4_barredPositions wsX4_barredPositions) := goodIn_app (goodIn_of _ (by decide +kernel)) ggX6_setBarred_X4_barredPositions
theorem dX6_setBarred_0 : decode cX6_setBarred 0 = .ok (.iload_n 1, 1) := by decide +kernel
theorem dX6_setBarred_1 : decode cX6_setBarred 1 = .ok (.iload_n 2, 1) := by decide +kernel
theorem dX6_setBarred_2 : decode cX6_setBarred 2 = .ok (.aload_n 0, 1) := by decide +kernel
theorem dX6_setBarred_3 : decode cX6_setBarred 3 = .ok (.getfield 12, 3) := by decide +kernel
theorem dX6_setBarred_6 : decode cX6_setBarred 6 = .ok (.getfield 59, 3) := by decide +kernel
theorem dX6_setBarred_9 : decode cX6_setBarred 9 = .ok (.invokestatic 70, 3) := by decide +kernel
theorem dX6_setBarred_12 : decode cX6_setBarred 12 = .ok (.ifCond .ne 13, 3) := by decide +kernel
theorem dX6_setBarred_15 : decode cX6_setBarred 15 = .ok (.new 52, 3) := by decide +kernel
theorem dX6_setBarred_18 : decode cX6_setBarred 18 = .ok (.dup, 1) := by decide +kernel
theorem dX6_setBarred_19 : decode cX6_setBarred 19 = .ok (.ldc 90, 2) := by decide +kernel
theorem dX6_setBarred_21 : decode cX6_setBarred 21 = .ok (.invokespecial 56, 3) := by decide +kernel
theorem dX6_setBarred_24 : decode cX6_setBarred 24 = .ok (.athrow, 1) := by decide +kernel
theorem dX6_setBarred_25 : decode cX6_setBarred 25 = .ok (.aload_n 0, 1) := by decide +kernel
theorem dX6_setBarred_26 : decode cX6_setBarred 26 = .ok (.invokevirtual 63, 3) := by decide +kernel
theorem dX6_setBarred_29 : decode cX6_setBarred 29 = .ok (.aload_n 0, 1) := by decide +kernel
theorem dX6_setBarred_30 : decode cX6_setBarred 30 = .ok (.getfield 12, 3) := by decide +kernel
theorem dX6_setBarred_33 : decode cX6_setBarred 33 = .ok (.getfield 92, 3) := by decide +kernel
theorem dX6_setBarred_36 : decode cX6_setBarred 36 = .ok (.iload_n 1, 1) := by decide +kernel
theorem dX6_setBarred_37 : decode cX6_setBarred 37 = .ok (.iload_n 2, 1) := by decide +kernel
theorem dX6_setBarred_38 : decode cX6_setBarred 38 = .ok (.iload_n 3, 1) := by decide +kernel
theorem dX6_setBarred_39 : decode cX6_setBarred 39 = .ok (.ifCond .eq 7, 3) := by decide +kernel
theorem dX6_setBarred_42 : decode cX6_setBarred 42 = .ok (.iconst 1, 1) := by decide +kernel
theorem dX6_setBarred_43 : decode cX6_setBarred 43 = .ok (.goto 4, 3) := by decide +kernel
theorem dX6_setBarred_46 : decode cX6_setBarred 46 = .ok (.iconst 0, 1) := by decide +kernel
theorem dX6_setBarred_47 : decode cX6_setBarred 47 = .ok (.invokevirtual 79, 3) := by decide +kernel
theorem dX6_setBarred_50 : decode cX6_setBarred 50 = .ok (.pop, 1) := by decide +kernel
theorem dX6_setBarred_51 : decode cX6_setBarred 51 = .ok (.aload_n 0, 1) := by decide +kernel
theorem dX6_setBarred_52 : decode cX6_setBarred 52 = .ok (.getfield 12, 3) := by decide +kernel
theorem dX6_setBarred_55 : decode cX6_setBarred 55 = .ok (.invokevirtual 95, 3) := by decide +kernel
theorem dX6_setBarred_58 : decode cX6_setBarred 58 = .ok (.ireturn, 1) := by decide +kernel
set_option maxRecDepth 20000 in
theorem ggX6_setRequired_X6_isWithin : GoodIn wsX6_setRequired wsX6_isWithin := goodIn_r _ [9] (by decide +kernel) (by decide +kernel)
set_option maxRecDepth 20000 in
theorem gX6_setRequired_X6_isWithin : GoodIn wsX6_setRequired (va_wsS RX6 48 yX6_isWithin wsX6_isWithin) := goodIn_app (goodIn_of _ (by decide +kernel)) ggX6_setRequired_X6_isWithin
set_option maxRecDepth 20000 in
theorem ggX6_setRequired_X3_at : GoodIn wsX6_setRequired wsX3_at := goodIn_r _ [14, 15, 92] (by decide +kernel) (by decide +kernel)
set_option maxRecDepth 20000 in
theorem gX6_setRequired_X3_at : GoodIn wsX6_setRequired (wsV RX6 104 RX3 yX3_at wsX3_at) := goodIn_app (goodIn_of _ (by decide +kernel)) ggX6_setRequired_X3_at
set_option maxRecDepth 20000 in
theorem ggX6_setRequired_X6_save : GoodIn wsX6_setRequired wsX6_save := goodIn_r _ [19, 20, 3, 21, 22, 23, 24, 25, 26, 27, 28, 29, 30, 31, 32, 33, 34, 35, 36, 37, 38, 39, 40, 41, 42, 43, 44, 45, 46, 47, 48, 49, 50, 51, 52, 53, 54, 55, 56, 57, 58, 59, 60, 13, 61, 15, 62, 63, 64, 65, 66, 67, 72, 73, 74, 75, 76, 93, 94, 95, 77, 78, 79, 80, 81, 82, 83, 84, 85, 86, 87, 88, 89, 90, 91, 92, 96, 97, 98, 99, 100, 101] (by decide +kernel) (by decide +kernel)
set_option maxRecDepth 20000 in
theorem gX6_setRequired_X6_save : GoodIn wsX6_setRequired (wsV RX6 63 RX6 yX6_save wsX6_save) := goodIn_app (goodIn_of _ (by decide +kernel)) ggX6_setRequired_X6_save
set_option maxRecDepth 20000 in
theorem ggX6_setRequired_X3_put : GoodIn wsX6_setRequired wsX3_put := goodIn_r _ [71, 15, 92] (by decide +kernel) (by decide +kernel)
set_option maxRecDepth 20000 in
theorem gX6_setRequired_X3_put : GoodIn wsX6_setRequired (wsV RX6 108 RX3 yX3_put wsX3_put) := goodIn_app (goodIn_of _ (by decide +kernel)) ggX6_setRequired_X3_put
theorem dX6_setRequired_0 : decode cX6_setRequired 0 = .ok (.iload_n 1, 1) := by decide +kernel
theorem dX6_setRequired_1 : decode cX6_setRequired 1 = .ok (.iconst 0, 1) := by decide +kernel
theorem dX6_setRequired_2 : decode cX6_setRequired 2 = .ok (.aload_n 0, 1) := by decide +kernel
theorem dX6_setRequired_3 : decode cX6_setRequired 3 = .ok (.getfield 12, 3) := by decide +kernel
theorem dX6_setRequired_6 : decode cX6_setRequired 6 = .ok (.getfield 59, 3) := by decide +kernel
theorem dX6_setRequired_9 : decode cX6_setRequired 9 = .ok (.invokestatic 48, 3) := by decide +kernel
theorem dX6_setRequired_12 : decode cX6_setRequired 12 = .ok (.ifCond .ne 13, 3) := by decide +kernel
theorem dX6_setRequired_15 : decode cX6_setRequired 15 = .ok (.new 52, 3) := by decide +kernel
theorem dX6_setRequired_18 : decode cX6_setRequired 18 = .ok (.dup, 1) := by decide +kernel
theorem dX6_setRequired_19 : decode cX6_setRequired 19 = .ok (.ldc 99, 2) := by decide +kernel
theorem dX6_setRequired_21 : decode cX6_setRequired 21 = .ok (.invokespecial 56, 3) := by decide +kernel
theorem dX6_setRequired_24 : decode cX6_setRequired 24 = .ok (.athrow, 1) := by decide +kernel
theorem dX6_setRequired_25 : decode cX6_setRequired 25 = .ok (.aload_n 0, 1) := by decide +kernel
theorem dX6_setRequired_26 : decode cX6_setRequired 26 = .ok (.getfield 12, 3) := by decide +kernel
theorem dX6_setRequired_29 : decode cX6_setRequired 29 = .ok (.getfield 101, 3) := by decide +kernel
theorem dX6_setRequired_32 : decode cX6_setRequired 32 = .ok (.iload_n 1, 1) := by decide +kernel
theorem dX6_setRequired_33 : decode cX6_setRequired 33 = .ok (.invokevirtual 104, 3) := by decide +kernel
theorem dX6_setRequired_36 : decode cX6_setRequired 36 = .ok (.iconst 1, 1) := by decide +kernel
theorem dX6_setRequired_37 : decode cX6_setRequired 37 = .ok (.if_icmp .ne 7, 3) := by decide +kernel
theorem dX6_setRequired_40 : decode cX6_setRequired 40 = .ok (.iconst 1, 1) := by decide +kernel
theorem dX6_setRequired_41 : decode cX6_setRequired 41 = .ok (.goto 4, 3) := by decide +kernel
theorem dX6_setRequired_44 : decode cX6_setRequired 44 = .ok (.iconst 0, 1) := by decide +kernel
theorem dX6_setRequired_45 : decode cX6_setRequired 45 = .ok (.istore_n 3, 1) := by decide +kernel
theorem dX6_setRequired_46 : decode cX6_setRequired 46 = .ok (.aload_n 0, 1) := by decide +kernel
theorem dX6_setRequired_47 : decode cX6_setRequired 47 = .ok (.invokevirtual 63, 3) := by decide +kernel
theorem dX6_setRequired_50 : decode cX6_setRequired 50 = .ok (.aload_n 0, 1) := by decide +kernel
theorem dX6_setRequired_51 : decode cX6_setRequired 51 = .ok (.getfield 12, 3) := by decide +kernel
theorem dX6_setRequired_54 : decode cX6_setRequired 54 = .ok (.getfield 101, 3) := by decide +kernel
theorem dX6_setRequired_57 : decode cX6_setRequired 57 = .ok (.iload_n 1, 1) := by decide +kernel
theorem dX6_setRequired_58 : decode cX6_setRequired 58 = .ok (.iload_n 2, 1) := by decide +kernel
theorem dX6_setRequired_59 : decode cX6_setRequired 59 = .ok (.ifCond .eq 7, 3) := by decide +kernel
theorem dX6_setRequired_62 : decode cX6_setRequired 62 = .ok (.iconst 1, 1) := by decide +kernel
theorem dX6_setRequired_63 : decode cX6_setRequired 63 = .ok (.goto 4, 3) := by decide +kernel
theorem dX6_setRequired_66 : decode cX6_setRequired 66 = .ok (.iconst 0, 1) := by decide +kernel
theorem dX6_setRequired_67 : decode cX6_setRequired 67 = .ok (.invokevirtual 108, 3) := by decide +kernel
theorem dX6_setRequired_70 : decode cX6_setRequired 70 = .ok (.iload_n 3, 1) := by decide +kernel
theorem dX6_setRequired_71 : decode cX6_setRequired 71 = .ok (.ireturn, 1) := by decide +kernel
set_option maxRecDepth 20000 in
theorem ggX6_setTrain_X6_isWithin : GoodIn wsX6_setTrain wsX6_isWithin := goodIn_r _ [10] (by decide +kernel) (by decide +kernel)
set_option maxRecDepth 20000 in
theorem gX6_setTrain_X6_isWithin : GoodIn wsX6_setTrain (va_wsS RX6 48 yX6_isWithin wsX6_isWithin) := goodIn_app (goodIn_of _ (by decide +kernel)) ggX6_setTrain_X6_isWithin
set_option maxRecDepth 20000 in
theorem ggX6_setTrain_X6_save : GoodIn wsX6_setTrain wsX6_save := goodIn_r _ [14, 15, 3, 16, 17, 18, 19, 20, 21, 22, 23, 24, 25, 26, 27, 28, 29, 30, 31, 32, 33, 34, 35, 36, 37, 38, 39, 40, 41, 42, 43, 44, 45, 46, 47, 48, 49, 50, 51, 52, 53, 54, 55, 56, 57, 58, 59, 60, 61, 62, 63, 64, 65, 66, 67, 68, 69, 85, 86, 87, 70, 71, 72, 73, 74, 75, 76, 77, 78, 79, 80, 81, 82, 83, 84, 88, 89, 90, 91, 92, 93, 94] (by decide +kernel) (by decide +kernel)
set_option maxRecDepth 20000 in
theorem gX6_setTrain_X6_save : GoodIn wsX6_setTrain (wsV RX6 63 RX6 yX6_save wsX6_save) := goodIn_app (goodIn_of _ (by decide +kernel)) ggX6_setTrain_X6_save
theorem dX6_setTrain_0 : decode cX6_setTrain 0 = .ok (.iload_n 1, 1) := by decide +kernel
theorem dX6_setTrain_1 : decode cX6_setTrain 1 = .ok (.bipush 50, 2) := by decide +kernel
theorem dX6_setTrain_3 : decode cX6_setTrain 3 = .ok (.sipush 200, 3) := by decide +kernel
theorem dX6_setTrain_6 : decode cX6_setTrain 6 = .ok (.invokestatic 48, 3) := by decide +kernel
theorem dX6_setTrain_9 : decode cX6_setTrain 9 = .ok (.ifCond .eq 23, 3) := by decide +kernel
theorem dX6_setTrain_12 : decode cX6_setTrain 12 = .ok (.iload_n 2, 1) := by decide +kernel
theorem dX6_setTrain_13 : decode cX6_setTrain 13 = .ok (.iconst 0, 1) := by decide +kernel
theorem dX6_setTrain_14 : decode cX6_setTrain 14 = .ok (.bipush 100, 2) := by decide +kernel
theorem dX6_setTrain_16 : decode cX6_setTrain 16 = .ok (.invokestatic 48, 3) := by decide +kernel
theorem dX6_setTrain_19 : decode cX6_setTrain 19 = .ok (.ifCond .eq 13, 3) := by decide +kernel
theorem dX6_setTrain_22 : decode cX6_setTrain 22 = .ok (.iload_n 3, 1) := by decide +kernel
theorem dX6_setTrain_23 : decode cX6_setTrain 23 = .ok (.iconst 1, 1) := by decide +kernel
theorem dX6_setTrain_24 : decode cX6_setTrain 24 = .ok (.bipush 20, 2) := by decide +kernel
theorem dX6_setTrain_26 : decode cX6_setTrain 26 = .ok (.invokestatic 48, 3) := by decide +kernel
theorem dX6_setTrain_29 : decode cX6_setTrain 29 = .ok (.ifCond .ne 13, 3) := by decide +kernel
theorem dX6_setTrain_32 : decode cX6_setTrain 32 = .ok (.new 52, 3) := by decide +kernel
theorem dX6_setTrain_35 : decode cX6_setTrain 35 = .ok (.dup, 1) := by decide +kernel
theorem dX6_setTrain_36 : decode cX6_setTrain 36 = .ok (.ldc 112, 2) := by decide +kernel
theorem dX6_setTrain_38 : decode cX6_setTrain 38 = .ok (.invokespecial 56, 3) := by decide +kernel
theorem dX6_setTrain_41 : decode cX6_setTrain 41 = .ok (.athrow, 1) := by decide +kernel
theorem dX6_setTrain_42 : decode cX6_setTrain 42 = .ok (.aload_n 0, 1) := by decide +kernel
theorem dX6_setTrain_43 : decode cX6_setTrain 43 = .ok (.getfield 12, 3) := by decide +kernel
theorem dX6_setTrain_46 : decode cX6_setTrain 46 = .ok (.getfield 114, 3) := by decide +kernel
theorem dX6_setTrain_49 : decode cX6_setTrain 49 = .ok (.istore 4, 2) := by decide +kernel
theorem dX6_setTrain_51 : decode cX6_setTrain 51 = .ok (.aload_n 0, 1) := by decide +kernel
theorem dX6_setTrain_52 : decode cX6_setTrain 52 = .ok (.invokevirtual 63, 3) := by decide +kernel
theorem dX6_setTrain_55 : decode cX6_setTrain 55 = .ok (.aload_n 0, 1) := by decide +kernel
theorem dX6_setTrain_56 : decode cX6_setTrain 56 = .ok (.getfield 12, 3) := by decide +kernel
theorem dX6_setTrain_59 : decode cX6_setTrain 59 = .ok (.iload_n 1, 1) := by decide +kernel
theorem dX6_setTrain_60 : decode cX6_setTrain 60 = .ok (.putfield 114, 3) := by decide +kernel
theorem dX6_setTrain_63 : decode cX6_setTrain 63 = .ok (.aload_n 0, 1) := by decide +kernel
theorem dX6_setTrain_64 : decode cX6_setTrain 64 = .ok (.getfield 12, 3) := by decide +kernel
theorem dX6_setTrain_67 : decode cX6_setTrain 67 = .ok (.iload_n 2, 1) := by decide +kernel
theorem dX6_setTrain_68 : decode cX6_setTrain 68 = .ok (.putfield 117, 3) := by decide +kernel
theorem dX6_setTrain_71 : decode cX6_setTrain 71 = .ok (.aload_n 0, 1) := by decide +kernel
theorem dX6_setTrain_72 : decode cX6_setTrain 72 = .ok (.getfield 12, 3) := by decide +kernel
theorem dX6_setTrain_75 : decode cX6_setTrain 75 = .ok (.iload_n 3, 1) := by decide +kernel
theorem dX6_setTrain_76 : decode cX6_setTrain 76 = .ok (.putfield 120, 3) := by decide +kernel
theorem dX6_setTrain_79 : decode cX6_setTrain 79 = .ok (.iload 4, 2) := by decide +kernel
theorem dX6_setTrain_81 : decode cX6_setTrain 81 = .ok (.ireturn, 1) := by decide +kernel
set_option maxRecDepth 20000 in
theorem ggX6_setRules_X6_isWithin : GoodIn wsX6_setRules wsX6_isWithin := goodIn_r _ [10] (by decide +kernel) (by decide +kernel)
set_option maxRecDepth 20000 in
theorem gX6_setRules_X6_isWithin : GoodIn wsX6_setRules (va_wsS RX6 48 yX6_isWithin wsX6_isWithin) := goodIn_app (goodIn_of _ (by decide +kernel)) ggX6_setRules_X6_isWithin
set_option maxRecDepth 20000 in
theorem ggX6_setRules_X6_save : GoodIn wsX6_setRules wsX6_save := goodIn_r _ [14, 15, 3, 16, 17, 18, 19, 20, 21, 22, 23, 24, 25, 26, 27, 28, 29, 30, 31, 32, 33, 34, 35, 36, 37, 38, 39, 40, 41, 42, 43, 44, 45, 46, 47, 48, 49, 50, 51, 52, 53, 54, 55, 56, 57, 58, 59, 60, 61, 62, 63, 64, 65, 66, 67, 68, 69, 85, 86, 87, 70, 71, 72, 73, 74, 75, 76, 77, 78, 79, 80, 81, 82, 83, 84, 88, 89, 90, 91, 92, 93, 94] (by decide +kernel) (by decide +kernel)
set_option maxRecDepth 20000 in
theorem gX6_setRules_X6_save : GoodIn wsX6_setRules (wsV RX6 63 RX6 yX6_save wsX6_save) := goodIn_app (goodIn_of _ (by decide +kernel)) ggX6_setRules_X6_save
theorem dX6_setRules_0 : decode cX6_setRules 0 = .ok (.iload_n 1, 1) := by decide +kernel
theorem dX6_setRules_1 : decode cX6_setRules 1 = .ok (.iconst 2, 1) := by decide +kernel
theorem dX6_setRules_2 : decode cX6_setRules 2 = .ok (.iconst 4, 1) := by decide +kernel
theorem dX6_setRules_3 : decode cX6_setRules 3 = .ok (.invokestatic 48, 3) := by decide +kernel
theorem dX6_setRules_6 : decode cX6_setRules 6 = .ok (.ifCond .eq 22, 3) := by decide +kernel
theorem dX6_setRules_9 : decode cX6_setRules 9 = .ok (.iload_n 3, 1) := by decide +kernel
theorem dX6_setRules_10 : decode cX6_setRules 10 = .ok (.iconst 1, 1) := by decide +kernel
theorem dX6_setRules_11 : decode cX6_setRules 11 = .ok (.bipush 120, 2) := by decide +kernel
theorem dX6_setRules_13 : decode cX6_setRules 13 = .ok (.invokestatic 48, 3) := by decide +kernel
theorem dX6_setRules_16 : decode cX6_setRules 16 = .ok (.ifCond .eq 12, 3) := by decide +kernel
theorem dX6_setRules_19 : decode cX6_setRules 19 = .ok (.iload_n 2, 1) := by decide +kernel
theorem dX6_setRules_20 : decode cX6_setRules 20 = .ok (.iconst 1, 1) := by decide +kernel
theorem dX6_setRules_21 : decode cX6_setRules 21 = .ok (.iload_n 3, 1) := by decide +kernel
theorem dX6_setRules_22 : decode cX6_setRules 22 = .ok (.invokestatic 48, 3) := by decide +kernel
theorem dX6_setRules_25 : decode cX6_setRules 25 = .ok (.ifCond .ne 13, 3) := by decide +kernel
theorem dX6_setRules_28 : decode cX6_setRules 28 = .ok (.new 52, 3) := by decide +kernel
theorem dX6_setRules_31 : decode cX6_setRules 31 = .ok (.dup, 1) := by decide +kernel
theorem dX6_setRules_32 : decode cX6_setRules 32 = .ok (.ldc 123, 2) := by decide +kernel
theorem dX6_setRules_34 : decode cX6_setRules 34 = .ok (.invokespecial 56, 3) := by decide +kernel
theorem dX6_setRules_37 : decode cX6_setRules 37 = .ok (.athrow, 1) := by decide +kernel
theorem dX6_setRules_38 : decode cX6_setRules 38 = .ok (.aload_n 0, 1) := by decide +kernel
theorem dX6_setRules_39 : decode cX6_setRules 39 = .ok (.getfield 12, 3) := by decide +kernel
theorem dX6_setRules_42 : decode cX6_setRules 42 = .ok (.getfield 125, 3) := by decide +kernel
theorem dX6_setRules_45 : decode cX6_setRules 45 = .ok (.istore 4, 2) := by decide +kernel
theorem dX6_setRules_47 : decode cX6_setRules 47 = .ok (.aload_n 0, 1) := by decide +kernel
theorem dX6_setRules_48 : decode cX6_setRules 48 = .ok (.invokevirtual 63, 3) := by decide +kernel
theorem dX6_setRules_51 : decode cX6_setRules 51 = .ok (.aload_n 0, 1) := by decide +kernel
theorem dX6_setRules_52 : decode cX6_setRules 52 = .ok (.getfield 12, 3) := by decide +kernel
theorem dX6_setRules_55 : decode cX6_setRules 55 = .ok (.iload_n 1, 1) := by decide +kernel
theorem dX6_setRules_56 : decode cX6_setRules 56 = .ok (.putfield 125, 3) := by decide +kernel
theorem dX6_setRules_59 : decode cX6_setRules 59 = .ok (.aload_n 0, 1) := by decide +kernel
theorem dX6_setRules_60 : decode cX6_setRules 60 = .ok (.getfield 12, 3) := by decide +kernel
theorem dX6_setRules_63 : decode cX6_setRules 63 = .ok (.iload_n 2, 1) := by decide +kernel
theorem dX6_setRules_64 : decode cX6_setRules 64 = .ok (.putfield 128, 3) := by decide +kernel
theorem dX6_setRules_67 : decode cX6_setRules 67 = .ok (.aload_n 0, 1) := by decide +kernel
theorem dX6_setRules_68 : decode cX6_setRules 68 = .ok (.getfield 12, 3) := by decide +kernel
theorem dX6_setRules_71 : decode cX6_setRules 71 = .ok (.iload_n 3, 1) := by decide +kernel
theorem dX6_setRules_72 : decode cX6_setRules 72 = .ok (.putfield 131, 3) := by decide +kernel
theorem dX6_setRules_75 : decode cX6_setRules 75 = .ok (.iload 4, 2) := by decide +kernel
theorem dX6_setRules_77 : decode cX6_setRules 77 = .ok (.ireturn, 1) := by decide +kernel
set_option maxRecDepth 20000 in
theorem ggX6_setSight_X6_isWithin : GoodIn wsX6_setSight wsX6_isWithin := goodIn_r _ [9] (by decide +kernel) (by decide +kernel)
set_option maxRecDepth 20000 in
theorem gX6_setSight_X6_isWithin : GoodIn wsX6_setSight (va_wsS RX6 48 yX6_isWithin wsX6_isWithin) := goodIn_app (goodIn_of _ (by decide +kernel)) ggX6_setSight_X6_isWithin
set_option maxRecDepth 20000 in
theorem ggX6_setSight_X6_save : GoodIn wsX6_setSight wsX6_save := goodIn_r _ [13, 14, 3, 15, 16, 17, 18, 19, 20, 21, 22, 23, 24, 25, 26, 27, 28, 29, 30, 31, 32, 33, 34, 35, 36, 37, 38, 39, 40, 41, 42, 43, 44, 45, 46, 47, 48, 49, 50, 51, 52, 53, 54, 55, 56, 57, 58, 59, 60, 61, 62, 63, 64, 65, 66, 67, 68, 84, 85, 86, 69, 70, 71, 72, 73, 74, 75, 76, 77, 78, 79, 80, 81, 82, 83, 87, 88, 89, 90, 91, 92, 93] (by decide +kernel) (by decide +kernel)
set_option maxRecDepth 20000 in
theorem gX6_setSight_X6_save : GoodIn wsX6_setSight (wsV RX6 63 RX6 yX6_save wsX6_save) := goodIn_app (goodIn_of _ (by decide +kernel)) ggX6_setSight_X6_save
theorem dX6_setSight_0 : decode cX6_setSight 0 = .ok (.iload_n 1, 1) := by decide +kernel
theorem dX6_setSight_1 : decode cX6_setSight 1 = .ok (.iconst 0, 1) := by decide +kernel
theorem dX6_setSight_2 : decode cX6_setSight 2 = .ok (.bipush 40, 2) := by decide +kernel
theorem dX6_setSight_4 : decode cX6_setSight 4 = .ok (.invokestatic 48, 3) := by decide +kernel
theorem dX6_setSight_7 : decode cX6_setSight 7 = .ok (.ifCond .eq 13, 3) := by decide +kernel
theorem dX6_setSight_10 : decode cX6_setSight 10 = .ok (.iload_n 2, 1) := by decide +kernel
theorem dX6_setSight_11 : decode cX6_setSight 11 = .ok (.iconst 0, 1) := by decide +kernel
theorem dX6_setSight_12 : decode cX6_setSight 12 = .ok (.bipush 20, 2) := by decide +kernel
theorem dX6_setSight_14 : decode cX6_setSight 14 = .ok (.invokestatic 48, 3) := by decide +kernel
theorem dX6_setSight_17 : decode cX6_setSight 17 = .ok (.ifCond .ne 13, 3) := by decide +kernel
theorem dX6_setSight_20 : decode cX6_setSight 20 = .ok (.new 52, 3) := by decide +kernel
theorem dX6_setSight_23 : decode cX6_setSight 23 = .ok (.dup, 1) := by decide +kernel
theorem dX6_setSight_24 : decode cX6_setSight 24 = .ok (.ldc 134, 2) := by decide +kernel
theorem dX6_setSight_26 : decode cX6_setSight 26 = .ok (.invokespecial 56, 3) := by decide +kernel
theorem dX6_setSight_29 : decode cX6_setSight 29 = .ok (.athrow, 1) := by decide +kernel
theorem dX6_setSight_30 : decode cX6_setSight 30 = .ok (.aload_n 0, 1) := by decide +kernel
theorem dX6_setSight_31 : decode cX6_setSight 31 = .ok (.getfield 12, 3) := by decide +kernel
theorem dX6_setSight_34 : decode cX6_setSight 34 = .ok (.getfield 136, 3) := by decide +kernel
theorem dX6_setSight_37 : decode cX6_setSight 37 = .ok (.istore_n 3, 1) := by decide +kernel
theorem dX6_setSight_38 : decode cX6_setSight 38 = .ok (.aload_n 0, 1) := by decide +kernel
theorem dX6_setSight_39 : decode cX6_setSight 39 = .ok (.invokevirtual 63, 3) := by decide +kernel
theorem dX6_setSight_42 : decode cX6_setSight 42 = .ok (.aload_n 0, 1) := by decide +kernel
theorem dX6_setSight_43 : decode cX6_setSight 43 = .ok (.getfield 12, 3) := by decide +kernel
theorem dX6_setSight_46 : decode cX6_setSight 46 = .ok (.iload_n 1, 1) := by decide +kernel
theorem dX6_setSight_47 : decode cX6_setSight 47 = .ok (.putfield 136, 3) := by decide +kernel
theorem dX6_setSight_50 : decode cX6_setSight 50 = .ok (.aload_n 0, 1) := by decide +kernel
theorem dX6_setSight_51 : decode cX6_setSight 51 = .ok (.getfield 12, 3) := by decide +kernel
theorem dX6_setSight_54 : decode cX6_setSight 54 = .ok (.iload_n 2, 1) := by decide +kernel
theorem dX6_setSight_55 : decode cX6_setSight 55 = .ok (.putfield 139, 3) := by decide +kernel
theorem dX6_setSight_58 : decode cX6_setSight 58 = .ok (.iload_n 3, 1) := by decide +kernel
theorem dX6_setSight_59 : decode cX6_setSight 59 = .ok (.ireturn, 1) := by decide +kernel
set_option maxRecDepth 20000 in
theorem ggX6_limit_X6_isWithin : GoodIn wsX6_limit wsX6_isWithin := goodIn_r _ [9] (by decide +kernel) (by decide +kernel)
set_option maxRecDepth 20000 in
theorem gX6_limit_X6_isWithin : GoodIn wsX6_limit (va_wsS RX6 48 yX6_isWithin wsX6_isWithin) := goodIn_app (goodIn_of _ (by decide +kernel)) ggX6_limit_X6_isWithin
set_option maxRecDepth 20000 in
theorem ggX6_limit_X3_at : GoodIn wsX6_limit wsX3_at := goodIn_r _ [14, 15, 36] (by decide +kernel) (by decide +kernel)
set_option maxRecDepth 20000 in
theorem gX6_limit_X3_at : GoodIn wsX6_limit (wsV RX6 104 RX3 yX3_at wsX3_at) := goodIn_app (goodIn_of _ (by decide +kernel)) ggX6_limit_X3_at
theorem dX6_limit_0 : decode cX6_limit 0 = .ok (.iload_n 1, 1) := by decide +kernel
theorem dX6_limit_1 : decode cX6_limit 1 = .ok (.iconst 0, 1) := by decide +kernel
theorem dX6_limit_2 : decode cX6_limit 2 = .ok (.aload_n 0, 1) := by decide +kernel
theorem dX6_limit_3 : decode cX6_limit 3 = .ok (.getfield 12, 3) := by decide +kernel
theorem dX6_limit_6 : decode cX6_limit 6 = .ok (.getfield 59, 3) := by decide +kernel
theorem dX6_limit_9 : decode cX6_limit 9 = .ok (.iconst 1, 1) := by decide +kernel
theorem dX6_limit_10 : decode cX6_limit 10 = .ok (.isub, 1) := by decide +kernel
theorem dX6_limit_11 : decode cX6_limit 11 = .ok (.invokestatic 48, 3) := by decide +kernel
theorem dX6_limit_14 : decode cX6_limit 14 = .ok (.ifCond .ne 13, 3) := by decide +kernel
theorem dX6_limit_17 : decode cX6_limit 17 = .ok (.new 142, 3) := by decide +kernel
theorem dX6_limit_20 : decode cX6_limit 20 = .ok (.dup, 1) := by decide +kernel
theorem dX6_limit_21 : decode cX6_limit 21 = .ok (.ldc 144, 2) := by decide +kernel
theorem dX6_limit_23 : decode cX6_limit 23 = .ok (.invokespecial 146, 3) := by decide +kernel
theorem dX6_limit_26 : decode cX6_limit 26 = .ok (.athrow, 1) := by decide +kernel
theorem dX6_limit_27 : decode cX6_limit 27 = .ok (.aload_n 0, 1) := by decide +kernel
theorem dX6_limit_28 : decode cX6_limit 28 = .ok (.getfield 12, 3) := by decide +kernel
theorem dX6_limit_31 : decode cX6_limit 31 = .ok (.getfield 75, 3) := by decide +kernel
theorem dX6_limit_34 : decode cX6_limit 34 = .ok (.iload_n 1, 1) := by decide +kernel
theorem dX6_limit_35 : decode cX6_limit 35 = .ok (.invokevirtual 104, 3) := by decide +kernel
theorem dX6_limit_38 : decode cX6_limit 38 = .ok (.ireturn, 1) := by decide +kernel
set_option maxRecDepth 20000 in
theorem ggX6_gradient_X6_isWithin : GoodIn wsX6_gradient wsX6_isWithin := goodIn_r _ [9] (by decide +kernel) (by decide +kernel)
set_option maxRecDepth 20000 in
theorem gX6_gradient_X6_isWithin : GoodIn wsX6_gradient (va_wsS RX6 48 yX6_isWithin wsX6_isWithin) := goodIn_app (goodIn_of _ (by decide +kernel)) ggX6_gradient_X6_isWithin
set_option maxRecDepth 20000 in
theorem ggX6_gradient_X3_at : GoodIn wsX6_gradient wsX3_at := goodIn_r _ [14, 15, 36] (by decide +kernel) (by decide +kernel)
set_option maxRecDepth 20000 in
theorem gX6_gradient_X3_at : GoodIn wsX6_gradient (wsV RX6 104 RX3 yX3_at wsX3_at) := goodIn_app (goodIn_of _ (by decide +kernel)) ggX6_gradient_X3_at
theorem dX6_gradient_0 : decode cX6_gradient 0 = .ok (.iload_n 1, 1) := by decide +kernel
theorem dX6_gradient_1 : decode cX6_gradient 1 = .ok (.iconst 0, 1) := by decide +kernel
theorem dX6_gradient_2 : decode cX6_gradient 2 = .ok (.aload_n 0, 1) := by decide +kernel
theorem dX6_gradient_3 : decode cX6_gradient 3 = .ok (.getfield 12, 3) := by decide +kernel
theorem dX6_gradient_6 : decode cX6_gradient 6 = .ok (.getfield 59, 3) := by decide +kernel
theorem dX6_gradient_9 : decode cX6_gradient 9 = .ok (.iconst 1, 1) := by decide +kernel
theorem dX6_gradient_10 : decode cX6_gradient 10 = .ok (.isub, 1) := by decide +kernel
theorem dX6_gradient_11 : decode cX6_gradient 11 = .ok (.invokestatic 48, 3) := by decide +kernel
theorem dX6_gradient_14 : decode cX6_gradient 14 = .ok (.ifCond .ne 13, 3) := by decide +kernel
theorem dX6_gradient_17 : decode cX6_gradient 17 = .ok (.new 142, 3) := by decide +kernel
theorem dX6_gradient_20 : decode cX6_gradient 20 = .ok (.dup, 1) := by decide +kernel
theorem dX6_gradient_21 : decode cX6_gradient 21 = .ok (.ldc 144, 2) := by decide +kernel
theorem dX6_gradient_23 : decode cX6_gradient 23 = .ok (.invokespecial 146, 3) := by decide +kernel
theorem dX6_gradient_26 : decode cX6_gradient 26 = .ok (.athrow, 1) := by decide +kernel
theorem dX6_gradient_27 : decode cX6_gradient 27 = .ok (.aload_n 0, 1) := by decide +kernel
theorem dX6_gradient_28 : decode cX6_gradient 28 = .ok (.getfield 12, 3) := by decide +kernel
theorem dX6_gradient_31 : decode cX6_gradient 31 = .ok (.getfield 87, 3) := by decide +kernel
theorem dX6_gradient_34 : decode cX6_gradient 34 = .ok (.iload_n 1, 1) := by decide +kernel
theorem dX6_gradient_35 : decode cX6_gradient 35 = .ok (.invokevirtual 104, 3) := by decide +kernel
theorem dX6_gradient_38 : decode cX6_gradient 38 = .ok (.ireturn, 1) := by decide +kernel
set_option maxRecDepth 20000 in
theorem ggX6_isBarred_X6_isWithin : GoodIn wsX6_isBarred wsX6_isWithin := goodIn_r _ [9] (by decide +kernel) (by decide +kernel)
set_option maxRecDepth 20000 in
theorem gX6_isBarred_X6_isWithin : GoodIn wsX6_isBarred (va_wsS RX6 48 yX6_isWithin wsX6_isWithin) := goodIn_app (goodIn_of _ (by decide +kernel)) ggX6_isBarred_X6_isWithin
set_option maxRecDepth 20000 in
theorem ggX6_isBarred_X3_at : GoodIn wsX6_isBarred wsX3_at := goodIn_r _ [14, 15, 36] (by decide +kernel) (by decide +kernel)
set_option maxRecDepth 20000 in
theorem gX6_isBarred_X3_at : GoodIn wsX6_isBarred (wsV RX6 104 RX3 yX3_at wsX3_at) := goodIn_app (goodIn_of _ (by decide +kernel)) ggX6_isBarred_X3_at
theorem dX6_isBarred_0 : decode cX6_isBarred 0 = .ok (.iload_n 1, 1) := by decide +kernel
theorem dX6_isBarred_1 : decode cX6_isBarred 1 = .ok (.iconst 0, 1) := by decide +kernel
theorem dX6_isBarred_2 : decode cX6_isBarred 2 = .ok (.aload_n 0, 1) := by decide +kernel
theorem dX6_isBarred_3 : decode cX6_isBarred 3 = .ok (.getfield 12, 3) := by decide +kernel
theorem dX6_isBarred_6 : decode cX6_isBarred 6 = .ok (.getfield 59, 3) := by decide +kernel
theorem dX6_isBarred_9 : decode cX6_isBarred 9 = .ok (.invokestatic 48, 3) := by decide +kernel
theorem dX6_isBarred_12 : decode cX6_isBarred 12 = .ok (.ifCond .ne 13, 3) := by decide +kernel
theorem dX6_isBarred_15 : decode cX6_isBarred 15 = .ok (.new 142, 3) := by decide +kernel
theorem dX6_isBarred_18 : decode cX6_isBarred 18 = .ok (.dup, 1) := by decide +kernel
theorem dX6_isBarred_19 : decode cX6_isBarred 19 = .ok (.ldc 99, 2) := by decide +kernel
theorem dX6_isBarred_21 : decode cX6_isBarred 21 = .ok (.invokespecial 146, 3) := by decide +kernel
theorem dX6_isBarred_24 : decode cX6_isBarred 24 = .ok (.athrow, 1) := by decide +kernel
theorem dX6_isBarred_25 : decode cX6_isBarred 25 = .ok (.aload_n 0, 1) := by decide +kernel
theorem dX6_isBarred_26 : decode cX6_isBarred 26 = .ok (.getfield 12, 3) := by decide +kernel
theorem dX6_isBarred_29 : decode cX6_isBarred 29 = .ok (.getfield 92, 3) := by decide +kernel
theorem dX6_isBarred_32 : decode cX6_isBarred 32 = .ok (.iload_n 1, 1) := by decide +kernel
theorem dX6_isBarred_33 : decode cX6_isBarred 33 = .ok (.invokevirtual 104, 3) := by decide +kernel
theorem dX6_isBarred_36 : decode cX6_isBarred 36 = .ok (.iconst 1, 1) := by decide +kernel
theorem dX6_isBarred_37 : decode cX6_isBarred 37 = .ok (.if_icmp .ne 7, 3) := by decide +kernel
theorem dX6_isBarred_40 : decode cX6_isBarred 40 = .ok (.iconst 1, 1) := by decide +kernel
theorem dX6_isBarred_41 : decode cX6_isBarred 41 = .ok (.goto 4, 3) := by decide +kernel
theorem dX6_isBarred_44 : decode cX6_isBarred 44 = .ok (.iconst 0, 1) := by decide +kernel
theorem dX6_isBarred_45 : decode cX6_isBarred 45 = .ok (.ireturn, 1) := by decide +kernel
set_option maxRecDepth 20000 in
theorem ggX6_energy_X6_isWithin : GoodIn wsX6_energy wsX6_isWithin := goodIn_r _ [10] (by decide +kernel) (by decide +kernel)
set_option maxRecDepth 20000 in
theorem gX6_energy_X6_isWithin : GoodIn wsX6_energy (va_wsS RX6 48 yX6_isWithin wsX6_isWithin) := goodIn_app (goodIn_of _ (by decide +kernel)) ggX6_energy_X6_isWithin
set_option maxRecDepth 20000 in
theorem ggX6_energy_X2_refresh : GoodIn wsX6_energy wsX2_refresh := goodIn_r _ [15, 16, 17, 18, 19, 14, 20, 21, 22, 23, 24, 25, 26, 27, 28, 29, 30, 31, 32, 33, 34, 35, 36, 37, 38, 39, 40, 41, 42, 43, 44, 45, 46, 47, 48, 49, 50, 51, 52, 53, 54, 55, 56, 57, 58, 59, 60, 61, 62, 63, 64, 65, 66, 67, 68, 69, 70, 71, 72, 73, 74, 75, 76, 77, 78, 100, 101, 102, 103, 104, 105, 85, 86, 87, 88, 89, 90, 91, 92, 93, 94, 95, 96, 97, 98, 99, 106] (by decide +kernel) (by decide +kernel)
set_option maxRecDepth 20000 in
theorem gX6_energy_X2_refresh : GoodIn wsX6_energy (wsV RX6 147 RX2 yX2_refresh wsX2_refresh) := goodIn_app (goodIn_of _ (by decide +kernel)) ggX6_energy_X2_refresh
set_option maxRecDepth 20000 in
theorem ggX6_energy_X3_at : GoodIn wsX6_energy wsX3_at := goodIn_r _ [37, 38, 106] (by decide +kernel) (by decide +kernel)
set_option maxRecDepth 20000 in
theorem gX6_energy_X3_at : GoodIn wsX6_energy (wsV RX6 104 RX3 yX3_at wsX3_at) := goodIn_app (goodIn_of _ (by decide +kernel)) ggX6_energy_X3_at
theorem dX6_energy_0 : decode cX6_energy 0 = .ok (.iload_n 1, 1) := by decide +kernel
theorem dX6_energy_1 : decode cX6_energy 1 = .ok (.iconst 0, 1) := by decide +kernel
theorem dX6_energy_2 : decode cX6_energy 2 = .ok (.aload_n 0, 1) := by decide +kernel
theorem dX6_energy_3 : decode cX6_energy 3 = .ok (.getfield 12, 3) := by decide +kernel
theorem dX6_energy_6 : decode cX6_energy 6 = .ok (.getfield 59, 3) := by decide +kernel
theorem dX6_energy_9 : decode cX6_energy 9 = .ok (.invokestatic 48, 3) := by decide +kernel
theorem dX6_energy_12 : decode cX6_energy 12 = .ok (.ifCond .ne 13, 3) := by decide +kernel
theorem dX6_energy_15 : decode cX6_energy 15 = .ok (.new 142, 3) := by decide +kernel
theorem dX6_energy_18 : decode cX6_energy 18 = .ok (.dup, 1) := by decide +kernel
theorem dX6_energy_19 : decode cX6_energy 19 = .ok (.ldc 99, 2) := by decide +kernel
theorem dX6_energy_21 : decode cX6_energy 21 = .ok (.invokespecial 146, 3) := by decide +kernel
theorem dX6_energy_24 : decode cX6_energy 24 = .ok (.athrow, 1) := by decide +kernel
theorem dX6_energy_25 : decode cX6_energy 25 = .ok (.aload_n 0, 1) := by decide +kernel
theorem dX6_energy_26 : decode cX6_energy 26 = .ok (.getfield 28, 3) := by decide +kernel
theorem dX6_energy_29 : decode cX6_energy 29 = .ok (.invokevirtual 147, 3) := by decide +kernel
theorem dX6_energy_32 : decode cX6_energy 32 = .ok (.aload_n 0, 1) := by decide +kernel
theorem dX6_energy_33 : decode cX6_energy 33 = .ok (.getfield 28, 3) := by decide +kernel
theorem dX6_energy_36 : decode cX6_energy 36 = .ok (.getfield 150, 3) := by decide +kernel
theorem dX6_energy_39 : decode cX6_energy 39 = .ok (.iload_n 1, 1) := by decide +kernel
theorem dX6_energy_40 : decode cX6_energy 40 = .ok (.invokevirtual 104, 3) := by decide +kernel
theorem dX6_energy_43 : decode cX6_energy 43 = .ok (.i2l, 1) := by decide +kernel
theorem dX6_energy_44 : decode cX6_energy 44 = .ok (.lreturn, 1) := by decide +kernel
set_option maxRecDepth 20000 in
theorem ggX6_profileSpeed_X6_isWithin : GoodIn wsX6_profileSpeed wsX6_isWithin := goodIn_r _ [10] (by decide +kernel) (by decide +kernel)
set_option maxRecDepth 20000 in
theorem gX6_profileSpeed_X6_isWithin : GoodIn wsX6_profileSpeed (va_wsS RX6 48 yX6_isWithin wsX6_isWithin) := goodIn_app (goodIn_of _ (by decide +kernel)) ggX6_profileSpeed_X6_isWithin
set_option maxRecDepth 20000 in
theorem ggX6_profileSpeed_X2_refresh : GoodIn wsX6_profileSpeed wsX2_refresh := goodIn_r _ [15, 16, 17, 18, 19, 14, 20, 21, 22, 23, 24, 25, 26, 27, 28, 29, 30, 31, 32, 33, 34, 35, 36, 37, 38, 39, 40, 41, 42, 43, 44, 45, 46, 47, 48, 49, 50, 51, 52, 53, 54, 55, 56, 57, 58, 59, 60, 61, 62, 63, 64, 65, 66, 67, 68, 69, 70, 71, 72, 73, 74, 75, 76, 77, 78, 100, 101, 102, 103, 104, 105, 85, 86, 87, 88, 89, 90, 91, 92, 93, 94, 95, 96, 97, 98, 99, 106] (by decide +kernel) (by decide +kernel)
set_option maxRecDepth 20000 in
theorem gX6_profileSpeed_X2_refresh : GoodIn wsX6_profileSpeed (wsV RX6 147 RX2 yX2_refresh wsX2_refresh) := goodIn_app (goodIn_of _ (by decide +kernel)) ggX6_profileSpeed_X2_refresh
set_option maxRecDepth 20000 in
theorem ggX6_profileSpeed_X3_at : GoodIn wsX6_profileSpeed wsX3_at := goodIn_r _ [37, 38, 106] (by decide +kernel) (by decide +kernel)
set_option maxRecDepth 20000 in
theorem gX6_profileSpeed_X3_at : GoodIn wsX6_profileSpeed (wsV RX6 104 RX3 yX3_at wsX3_at) := goodIn_app (goodIn_of _ (by decide +kernel)) ggX6_profileSpeed_X3_at
theorem dX6_profileSpeed_0 : decode cX6_profileSpeed 0 = .ok (.iload_n 1, 1) := by decide +kernel
theorem dX6_profileSpeed_1 : decode cX6_profileSpeed 1 = .ok (.iconst 0, 1) := by decide +kernel
theorem dX6_profileSpeed_2 : decode cX6_profileSpeed 2 = .ok (.aload_n 0, 1) := by decide +kernel
theorem dX6_profileSpeed_3 : decode cX6_profileSpeed 3 = .ok (.getfield 12, 3) := by decide +kernel
theorem dX6_profileSpeed_6 : decode cX6_profileSpeed 6 = .ok (.getfield 59, 3) := by decide +kernel
theorem dX6_profileSpeed_9 : decode cX6_profileSpeed 9 = .ok (.invokestatic 48, 3) := by decide +kernel
theorem dX6_profileSpeed_12 : decode cX6_profileSpeed 12 = .ok (.ifCond .ne 13, 3) := by decide +kernel
theorem dX6_profileSpeed_15 : decode cX6_profileSpeed 15 = .ok (.new 142, 3) := by decide +kernel
theorem dX6_profileSpeed_18 : decode cX6_profileSpeed 18 = .ok (.dup, 1) := by decide +kernel
theorem dX6_profileSpeed_19 : decode cX6_profileSpeed 19 = .ok (.ldc 99, 2) := by decide +kernel
theorem dX6_profileSpeed_21 : decode cX6_profileSpeed 21 = .ok (.invokespecial 146, 3) := by decide +kernel
theorem dX6_profileSpeed_24 : decode cX6_profileSpeed 24 = .ok (.athrow, 1) := by decide +kernel
theorem dX6_profileSpeed_25 : decode cX6_profileSpeed 25 = .ok (.aload_n 0, 1) := by decide +kernel
theorem dX6_profileSpeed_26 : decode cX6_profileSpeed 26 = .ok (.getfield 28, 3) := by decide +kernel
theorem dX6_profileSpeed_29 : decode cX6_profileSpeed 29 = .ok (.invokevirtual 147, 3) := by decide +kernel
theorem dX6_profileSpeed_32 : decode cX6_profileSpeed 32 = .ok (.aload_n 0, 1) := by decide +kernel
theorem dX6_profileSpeed_33 : decode cX6_profileSpeed 33 = .ok (.getfield 28, 3) := by decide +kernel
theorem dX6_profileSpeed_36 : decode cX6_profileSpeed 36 = .ok (.getfield 153, 3) := by decide +kernel
theorem dX6_profileSpeed_39 : decode cX6_profileSpeed 39 = .ok (.iload_n 1, 1) := by decide +kernel
theorem dX6_profileSpeed_40 : decode cX6_profileSpeed 40 = .ok (.invokevirtual 104, 3) := by decide +kernel
theorem dX6_profileSpeed_43 : decode cX6_profileSpeed 43 = .ok (.ireturn, 1) := by decide +kernel
set_option maxRecDepth 20000 in
theorem ggX6_brakingDistance_X6_isWithin : GoodIn wsX6_brakingDistance wsX6_isWithin := goodIn_r _ [10] (by decide +kernel) (by decide +kernel)
set_option maxRecDepth 20000 in
theorem gX6_brakingDistance_X6_isWithin : GoodIn wsX6_brakingDistance (va_wsS RX6 48 yX6_isWithin wsX6_isWithin) := goodIn_app (goodIn_of _ (by decide +kernel)) ggX6_brakingDistance_X6_isWithin
set_option maxRecDepth 20000 in
theorem ggX6_brakingDistance_X2_refresh : GoodIn wsX6_brakingDistance wsX2_refresh := goodIn_r _ [15, 16, 17, 18, 19, 14, 20, 21, 22, 23, 24, 25, 26, 27, 28, 29, 30, 31, 32, 33, 34, 35, 36, 37, 38, 39, 40, 41, 42, 43, 44, 45, 46, 47, 48, 49, 50, 51, 52, 53, 54, 55, 56, 57, 58, 59, 60, 61, 62, 63, 64, 65, 66, 67, 68, 69, 70, 71, 72, 73, 74, 75, 76, 77, 78, 100, 101, 102, 103, 104, 105, 85, 86, 87, 88, 89, 90, 91, 92, 93, 94, 95, 96, 97, 98, 99, 106] (by decide +kernel) (by decide +kernel)
set_option maxRecDepth 20000 in
theorem gX6_brakingDistance_X2_refresh : GoodIn wsX6_brakingDistance (wsV RX6 147 RX2 yX2_refresh wsX2_refresh) := goodIn_app (goodIn_of _ (by decide +kernel)) ggX6_brakingDistance_X2_refresh
set_option maxRecDepth 20000 in
theorem ggX6_brakingDistance_X3_at : GoodIn wsX6_brakingDistance wsX3_at := goodIn_r _ [37, 38, 106] (by decide +kernel) (by decide +kernel)
set_option maxRecDepth 20000 in
theorem gX6_brakingDistance_X3_at : GoodIn wsX6_brakingDistance (wsV RX6 104 RX3 yX3_at wsX3_at) := goodIn_app (goodIn_of _ (by decide +kernel)) ggX6_brakingDistance_X3_at
theorem dX6_brakingDistance_0 : decode cX6_brakingDistance 0 = .ok (.iload_n 1, 1) := by decide +kernel
theorem dX6_brakingDistance_1 : decode cX6_brakingDistance 1 = .ok (.iconst 0, 1) := by decide +kernel
theorem dX6_brakingDistance_2 : decode cX6_brakingDistance 2 = .ok (.aload_n 0, 1) := by decide +kernel
theorem dX6_brakingDistance_3 : decode cX6_brakingDistance 3 = .ok (.getfield 12, 3) := by decide +kernel
theorem dX6_brakingDistance_6 : decode cX6_brakingDistance 6 = .ok (.getfield 59, 3) := by decide +kernel
theorem dX6_brakingDistance_9 : decode cX6_brakingDistance 9 = .ok (.invokestatic 48, 3) := by decide +kernel
theorem dX6_brakingDistance_12 : decode cX6_brakingDistance 12 = .ok (.ifCond .ne 13, 3) := by decide +kernel
theorem dX6_brakingDistance_15 : decode cX6_brakingDistance 15 = .ok (.new 142, 3) := by decide +kernel
theorem dX6_brakingDistance_18 : decode cX6_brakingDistance 18 = .ok (.dup, 1) := by decide +kernel
theorem dX6_brakingDistance_19 : decode cX6_brakingDistance 19 = .ok (.ldc 99, 2) := by decide +kernel
theorem dX6_brakingDistance_21 : decode cX6_brakingDistance 21 = .ok (.invokespecial 146, 3) := by decide +kernel
theorem dX6_brakingDistance_24 : decode cX6_brakingDistance 24 = .ok (.athrow, 1) := by decide +kernel
theorem dX6_brakingDistance_25 : decode cX6_brakingDistance 25 = .ok (.aload_n 0, 1) := by decide +kernel
theorem dX6_brakingDistance_26 : decode cX6_brakingDistance 26 = .ok (.getfield 28, 3) := by decide +kernel
theorem dX6_brakingDistance_29 : decode cX6_brakingDistance 29 = .ok (.invokevirtual 147, 3) := by decide +kernel
theorem dX6_brakingDistance_32 : decode cX6_brakingDistance 32 = .ok (.aload_n 0, 1) := by decide +kernel
theorem dX6_brakingDistance_33 : decode cX6_brakingDistance 33 = .ok (.getfield 28, 3) := by decide +kernel
theorem dX6_brakingDistance_36 : decode cX6_brakingDistance 36 = .ok (.getfield 156, 3) := by decide +kernel
theorem dX6_brakingDistance_39 : decode cX6_brakingDistance 39 = .ok (.iload_n 1, 1) := by decide +kernel
theorem dX6_brakingDistance_40 : decode cX6_brakingDistance 40 = .ok (.invokevirtual 104, 3) := by decide +kernel
theorem dX6_brakingDistance_43 : decode cX6_brakingDistance 43 = .ok (.ireturn, 1) := by decide +kernel
set_option maxRecDepth 20000 in
theorem ggX6_travelTime_X6_isRange : GoodIn wsX6_travelTime wsX6_isRange := goodIn_r _ [9] (by decide +kernel) (by decide +kernel)
set_option maxRecDepth 20000 in
theorem gX6_travelTime_X6_isRange : GoodIn wsX6_travelTime (va_wsS RX6 70 yX6_isRange wsX6_isRange) := goodIn_app (goodIn_of _ (by decide +kernel)) ggX6_travelTime_X6_isRange
set_option maxRecDepth 20000 in
theorem ggX6_travelTime_X2_refresh : GoodIn wsX6_travelTime wsX2_refresh := goodIn_r _ [14, 15, 16, 17, 18, 13, 19, 20, 21, 22, 23, 24, 25, 26, 27, 28, 29, 30, 31, 32, 33, 34, 35, 36, 37, 38, 39, 40, 41, 42, 43, 44, 45, 46, 47, 48, 49, 50, 51, 52, 53, 54, 55, 56, 57, 58, 59, 60, 61, 62, 63, 64, 65, 66, 67, 68, 69, 70, 71, 72, 73, 74, 75, 76, 77, 102, 103, 104, 105, 106, 107, 87, 88, 89, 90, 91, 92, 93, 94, 95, 96, 97, 98, 99, 100, 101, 108] (by decide +kernel) (by decide +kernel)
set_option maxRecDepth 20000 in
theorem gX6_travelTime_X2_refresh : GoodIn wsX6_travelTime (wsV RX6 147 RX2 yX2_refresh wsX2_refresh) := goodIn_app (goodIn_of _ (by decide +kernel)) ggX6_travelTime_X2_refresh
set_option maxRecDepth 20000 in
theorem ggX6_travelTime_X2_timeBetween : GoodIn wsX6_travelTime wsX2_timeBetween := goodIn_r _ [81, 76, 32, 33, 34, 35, 36, 37, 102, 103, 104, 105, 106, 107, 108] (by decide +kernel) (by decide +kernel)
set_option maxRecDepth 20000 in
theorem gX6_travelTime_X2_timeBetween : GoodIn wsX6_travelTime (wsV RX6 159 RX2 yX2_timeBetween wsX2_timeBetween) := goodIn_app (goodIn_of _ (by decide +kernel)) ggX6_travelTime_X2_timeBetween
theorem dX6_travelTime_0 : decode cX6_travelTime 0 = .ok (.iload_n 1, 1) := by decide +kernel
theorem dX6_travelTime_1 : decode cX6_travelTime 1 = .ok (.iload_n 2, 1) := by decide +kernel
theorem dX6_travelTime_2 : decode cX6_travelTime 2 = .ok (.aload_n 0, 1) := by decide +kernel
theorem dX6_travelTime_3 : decode cX6_travelTime 3 = .ok (.getfield 12, 3) := by decide +kernel
theorem dX6_travelTime_6 : decode cX6_travelTime 6 = .ok (.getfield 59, 3) := by decide +kernel
theorem dX6_travelTime_9 : decode cX6_travelTime 9 = .ok (.invokestatic 70, 3) := by decide +kernel
theorem dX6_travelTime_12 : decode cX6_travelTime 12 = .ok (.ifCond .ne 13, 3) := by decide +kernel
theorem dX6_travelTime_15 : decode cX6_travelTime 15 = .ok (.new 52, 3) := by decide +kernel
theorem dX6_travelTime_18 : decode cX6_travelTime 18 = .ok (.dup, 1) := by decide +kernel
theorem dX6_travelTime_19 : decode cX6_travelTime 19 = .ok (.ldc 90, 2) := by decide +kernel
theorem dX6_travelTime_21 : decode cX6_travelTime 21 = .ok (.invokespecial 56, 3) := by decide +kernel
theorem dX6_travelTime_24 : decode cX6_travelTime 24 = .ok (.athrow, 1) := by decide +kernel
theorem dX6_travelTime_25 : decode cX6_travelTime 25 = .ok (.aload_n 0, 1) := by decide +kernel
theorem dX6_travelTime_26 : decode cX6_travelTime 26 = .ok (.getfield 28, 3) := by decide +kernel
theorem dX6_travelTime_29 : decode cX6_travelTime 29 = .ok (.invokevirtual 147, 3) := by decide +kernel
theorem dX6_travelTime_32 : decode cX6_travelTime 32 = .ok (.aload_n 0, 1) := by decide +kernel
theorem dX6_travelTime_33 : decode cX6_travelTime 33 = .ok (.getfield 28, 3) := by decide +kernel
theorem dX6_travelTime_36 : decode cX6_travelTime 36 = .ok (.iload_n 1, 1) := by decide +kernel
theorem dX6_travelTime_37 : decode cX6_travelTime 37 = .ok (.iload_n 2, 1) := by decide +kernel
theorem dX6_travelTime_38 : decode cX6_travelTime 38 = .ok (.invokevirtual 159, 3) := by decide +kernel
theorem dX6_travelTime_41 : decode cX6_travelTime 41 = .ok (.ireturn, 1) := by decide +kernel
set_option maxRecDepth 20000 in
theorem ggX6_addPost_X6_isWithin : GoodIn wsX6_addPost wsX6_isWithin := goodIn_r _ [10] (by decide +kernel) (by decide +kernel)
set_option maxRecDepth 20000 in
theorem gX6_addPost_X6_isWithin : GoodIn wsX6_addPost (va_wsS RX6 48 yX6_isWithin wsX6_isWithin) := goodIn_app (goodIn_of _ (by decide +kernel)) ggX6_addPost_X6_isWithin
set_option maxRecDepth 20000 in
theorem ggX6_addPost_X4_hasPost : GoodIn wsX6_addPost wsX4_hasPost := goodIn_r _ [15, 16, 17, 18, 19, 20, 14, 21, 22, 23, 24, 25, 26, 27, 90, 91, 92, 93, 94, 95, 96, 97, 98, 99, 100, 101, 102, 103, 104, 105] (by decide +kernel) (by decide +kernel)
set_option maxRecDepth 20000 in
theorem gX6_addPost_X4_hasPost : GoodIn wsX6_addPost (wsV RX6 163 RX4 yX4_hasPost wsX4_hasPost) := goodIn_app (goodIn_of _ (by decide +kernel)) ggX6_addPost_X4_hasPost
set_option maxRecDepth 20000 in
theorem ggX6_addPost_X6_save : GoodIn wsX6_addPost wsX6_save := goodIn_r _ [31, 32, 5, 33, 34, 35, 36, 37, 38, 39, 40, 41, 42, 43, 44, 45, 46, 47, 48, 49, 50, 51, 52, 14, 53, 54, 55, 56, 57, 17, 16, 58, 59, 60, 61, 62, 63, 64, 65, 66, 67, 68, 69, 25, 70, 27, 71, 72, 73, 74, 75, 76, 85, 86, 87, 88, 89, 106, 107, 108, 90, 91, 92, 93, 94, 95, 96, 97, 98, 99, 100, 101, 102, 103, 104, 105, 109, 110, 111, 112, 113, 114] (by decide +kernel) (by decide +kernel)
set_option maxRecDepth 20000 in
theorem gX6_addPost_X6_save : GoodIn wsX6_addPost (wsV RX6 63 RX6 yX6_save wsX6_save) := goodIn_app (goodIn_of _ (by decide +kernel)) ggX6_addPost_X6_save
set_option maxRecDepth 20000 in
theorem ggX6_addPost_X4_insertPost : GoodIn wsX6_addPost wsX4_insertPost := goodIn_r _ [80, 16, 17, 18, 19, 20, 14, 21, 22, 23, 24, 25, 26, 27, 81, 82, 83, 84, 90, 91, 92, 93, 94, 95, 96, 97, 98, 99, 100, 101, 102, 103, 104, 105] (by decide +kernel) (by decide +kernel)
set_option maxRecDepth 20000 in
theorem gX6_addPost_X4_insertPost : GoodIn wsX6_addPost (wsV RX6 172 RX4 yX4_insertPost wsX4_insertPost) := goodIn_app (goodIn_of _ (by decide +kernel)) ggX6_addPost_X4_insertPost
theorem dX6_addPost_0 : decode cX6_addPost 0 = .ok (.iload_n 1, 1) := by decide +kernel
theorem dX6_addPost_1 : decode cX6_addPost 1 = .ok (.iconst 0, 1) := by decide +kernel
theorem dX6_addPost_2 : decode cX6_addPost 2 = .ok (.aload_n 0, 1) := by decide +kernel
theorem dX6_addPost_3 : decode cX6_addPost 3 = .ok (.getfield 12, 3) := by decide +kernel
theorem dX6_addPost_6 : decode cX6_addPost 6 = .ok (.getfield 59, 3) := by decide +kernel
theorem dX6_addPost_9 : decode cX6_addPost 9 = .ok (.invokestatic 48, 3) := by decide +kernel
theorem dX6_addPost_12 : decode cX6_addPost 12 = .ok (.ifCond .ne 13, 3) := by decide +kernel
theorem dX6_addPost_15 : decode cX6_addPost 15 = .ok (.new 52, 3) := by decide +kernel
theorem dX6_addPost_18 : decode cX6_addPost 18 = .ok (.dup, 1) := by decide +kernel
theorem dX6_addPost_19 : decode cX6_addPost 19 = .ok (.ldc 99, 2) := by decide +kernel
theorem dX6_addPost_21 : decode cX6_addPost 21 = .ok (.invokespecial 56, 3) := by decide +kernel
theorem dX6_addPost_24 : decode cX6_addPost 24 = .ok (.athrow, 1) := by decide +kernel
theorem dX6_addPost_25 : decode cX6_addPost 25 = .ok (.aload_n 0, 1) := by decide +kernel
theorem dX6_addPost_26 : decode cX6_addPost 26 = .ok (.getfield 12, 3) := by decide +kernel
theorem dX6_addPost_29 : decode cX6_addPost 29 = .ok (.iload_n 1, 1) := by decide +kernel
theorem dX6_addPost_30 : decode cX6_addPost 30 = .ok (.invokevirtual 163, 3) := by decide +kernel
theorem dX6_addPost_33 : decode cX6_addPost 33 = .ok (.ifCond .eq 13, 3) := by decide +kernel
theorem dX6_addPost_36 : decode cX6_addPost 36 = .ok (.new 167, 3) := by decide +kernel
theorem dX6_addPost_39 : decode cX6_addPost 39 = .ok (.dup, 1) := by decide +kernel
theorem dX6_addPost_40 : decode cX6_addPost 40 = .ok (.ldc 169, 2) := by decide +kernel
theorem dX6_addPost_42 : decode cX6_addPost 42 = .ok (.invokespecial 171, 3) := by decide +kernel
theorem dX6_addPost_45 : decode cX6_addPost 45 = .ok (.athrow, 1) := by decide +kernel
theorem dX6_addPost_46 : decode cX6_addPost 46 = .ok (.aload_n 0, 1) := by decide +kernel
theorem dX6_addPost_47 : decode cX6_addPost 47 = .ok (.invokevirtual 63, 3) := by decide +kernel
theorem dX6_addPost_50 : decode cX6_addPost 50 = .ok (.aload_n 0, 1) := by decide +kernel
theorem dX6_addPost_51 : decode cX6_addPost 51 = .ok (.getfield 12, 3) := by decide +kernel
theorem dX6_addPost_54 : decode cX6_addPost 54 = .ok (.iload_n 1, 1) := by decide +kernel
theorem dX6_addPost_55 : decode cX6_addPost 55 = .ok (.invokevirtual 172, 3) := by decide +kernel
theorem dX6_addPost_58 : decode cX6_addPost 58 = .ok (.ireturn, 1) := by decide +kernel
set_option maxRecDepth 20000 in
theorem ggX6_removePost_X6_isWithin : GoodIn wsX6_removePost wsX6_isWithin := goodIn_r _ [11] (by decide +kernel) (by decide +kernel)
set_option maxRecDepth 20000 in
theorem gX6_removePost_X6_isWithin : GoodIn wsX6_removePost (va_wsS RX6 48 yX6_isWithin wsX6_isWithin) := goodIn_app (goodIn_of _ (by decide +kernel)) ggX6_removePost_X6_isWithin
set_option maxRecDepth 20000 in
theorem ggX6_removePost_X4_hasPost : GoodIn wsX6_removePost wsX4_hasPost := goodIn_r _ [16, 17, 18, 19, 20, 21, 15, 22, 23, 24, 25, 26, 27, 28, 91, 92, 93, 94, 95, 96, 97, 98, 99, 100, 101, 102, 103, 104, 105, 106] (by decide +kernel) (by decide +kernel)
set_option maxRecDepth 20000 in
theorem gX6_removePost_X4_hasPost : GoodIn wsX6_removePost (wsV RX6 163 RX4 yX4_hasPost wsX4_hasPost) := goodIn_app (goodIn_of _ (by decide +kernel)) ggX6_removePost_X4_hasPost
set_option maxRecDepth 20000 in
theorem ggX6_removePost_X6_save : GoodIn wsX6_removePost wsX6_save := goodIn_r _ [32, 33, 5, 34, 35, 36, 37, 38, 39, 40, 41, 42, 43, 44, 45, 46, 47, 48, 49, 50, 51, 52, 53, 15, 54, 55, 56, 57, 58, 18, 17, 59, 60, 61, 62, 63, 64, 65, 66, 67, 68, 69, 70, 26, 71, 28, 72, 73, 74, 75, 76, 77, 86, 87, 88, 89, 90, 107, 108, 109, 91, 92, 93, 94, 95, 96, 97, 98, 99, 100, 101, 102, 103, 104, 105, 106, 110, 111, 112, 113, 114, 115] (by decide +kernel) (by decide +kernel)
set_option maxRecDepth 20000 in
theorem gX6_removePost_X6_save : GoodIn wsX6_removePost (wsV RX6 63 RX6 yX6_save wsX6_save) := goodIn_app (goodIn_of _ (by decide +kernel)) ggX6_removePost_X6_save
set_option maxRecDepth 20000 in
theorem ggX6_removePost_X4_takePost : GoodIn wsX6_removePost wsX4_takePost := goodIn_r _ [81, 17, 18, 19, 20, 21, 15, 22, 23, 24, 25, 26, 27, 28, 82, 83, 84, 85, 91, 92, 93, 94, 95, 96, 97, 98, 99, 100, 101, 102, 103, 104, 105, 106] (by decide +kernel) (by decide +kernel)
set_option maxRecDepth 20000 in
theorem gX6_removePost_X4_takePost : GoodIn wsX6_removePost (wsV RX6 177 RX4 yX4_takePost wsX4_takePost) := goodIn_app (goodIn_of _ (by decide +kernel)) ggX6_removePost_X4_takePost
theorem dX6_removePost_0 : decode cX6_removePost 0 = .ok (.iload_n 1, 1) := by decide +kernel
theorem dX6_removePost_1 : decode cX6_removePost 1 = .ok (.iconst 0, 1) := by decide +kernel
theorem dX6_removePost_2 : decode cX6_removePost 2 = .ok (.aload_n 0, 1) := by decide +kernel
theorem dX6_removePost_3 : decode cX6_removePost 3 = .ok (.getfield 12, 3) := by decide +kernel
theorem dX6_removePost_6 : decode cX6_removePost 6 = .ok (.getfield 59, 3) := by decide +kernel
theorem dX6_removePost_9 : decode cX6_removePost 9 = .ok (.invokestatic 48, 3) := by decide +kernel
theorem dX6_removePost_12 : decode cX6_removePost 12 = .ok (.ifCond .ne 13, 3) := by decide +kernel
theorem dX6_removePost_15 : decode cX6_removePost 15 = .ok (.new 52, 3) := by decide +kernel
theorem dX6_removePost_18 : decode cX6_removePost 18 = .ok (.dup, 1) := by decide +kernel
theorem dX6_removePost_19 : decode cX6_removePost 19 = .ok (.ldc 99, 2) := by decide +kernel
theorem dX6_removePost_21 : decode cX6_removePost 21 = .ok (.invokespecial 56, 3) := by decide +kernel
theorem dX6_removePost_24 : decode cX6_removePost 24 = .ok (.athrow, 1) := by decide +kernel
theorem dX6_removePost_25 : decode cX6_removePost 25 = .ok (.aload_n 0, 1) := by decide +kernel
theorem dX6_removePost_26 : decode cX6_removePost 26 = .ok (.getfield 12, 3) := by decide +kernel
theorem dX6_removePost_29 : decode cX6_removePost 29 = .ok (.iload_n 1, 1) := by decide +kernel
theorem dX6_removePost_30 : decode cX6_removePost 30 = .ok (.invokevirtual 163, 3) := by decide +kernel
theorem dX6_removePost_33 : decode cX6_removePost 33 = .ok (.ifCond .ne 13, 3) := by decide +kernel
theorem dX6_removePost_36 : decode cX6_removePost 36 = .ok (.new 167, 3) := by decide +kernel
theorem dX6_removePost_39 : decode cX6_removePost 39 = .ok (.dup, 1) := by decide +kernel
theorem dX6_removePost_40 : decode cX6_removePost 40 = .ok (.ldc 175, 2) := by decide +kernel
theorem dX6_removePost_42 : decode cX6_removePost 42 = .ok (.invokespecial 171, 3) := by decide +kernel
theorem dX6_removePost_45 : decode cX6_removePost 45 = .ok (.athrow, 1) := by decide +kernel
theorem dX6_removePost_46 : decode cX6_removePost 46 = .ok (.aload_n 0, 1) := by decide +kernel
theorem dX6_removePost_47 : decode cX6_removePost 47 = .ok (.invokevirtual 63, 3) := by decide +kernel
theorem dX6_removePost_50 : decode cX6_removePost 50 = .ok (.aload_n 0, 1) := by decide +kernel
theorem dX6_removePost_51 : decode cX6_removePost 51 = .ok (.getfield 12, 3) := by decide +kernel
theorem dX6_removePost_54 : decode cX6_removePost 54 = .ok (.iload_n 1, 1) := by decide +kernel
theorem dX6_removePost_55 : decode cX6_removePost 55 = .ok (.invokevirtual 177, 3) := by decide +kernel
theorem dX6_removePost_58 : decode cX6_removePost 58 = .ok (.aload_n 0, 1) := by decide +kernel
theorem dX6_removePost_59 : decode cX6_removePost 59 = .ok (.getfield 12, 3) := by decide +kernel
theorem dX6_removePost_62 : decode cX6_removePost 62 = .ok (.getfield 180, 3) := by decide +kernel
theorem dX6_removePost_65 : decode cX6_removePost 65 = .ok (.ireturn, 1) := by decide +kernel
set_option maxRecDepth 20000 in
theorem ggX6_clearPosts_X6_save : GoodIn wsX6_clearPosts wsX6_save := goodIn_r _ [7, 8, 1, 9, 10, 11, 12, 13, 14, 15, 16, 17, 18, 19, 20, 21, 22, 23, 24, 25, 26, 27, 28, 29, 30, 31, 32, 33, 34, 35, 36, 37, 38, 39, 40, 41, 42, 43, 44, 45, 46, 47, 48, 49, 50, 51, 52, 53, 54, 55, 56, 57, 58, 59, 60, 61, 62, 78, 79, 80, 63, 64, 65, 66, 67, 68, 69, 70, 71, 72, 73, 74, 75, 76, 77, 81, 82, 83, 84, 85, 86, 87] (by decide +kernel) (by decide +kernel)
set_option maxRecDepth 20000 in
theorem gX6_clearPosts_X6_save : GoodIn wsX6_clearPosts (wsV RX6 63 RX6 yX6_save wsX6_save) := goodIn_app (goodIn_of _ (by decide +kernel)) ggX6_clearPosts_X6_save
theorem dX6_clearPosts_0 : decode cX6_clearPosts 0 = .ok (.aload_n 0, 1) := by decide +kernel
theorem dX6_clearPosts_1 : decode cX6_clearPosts 1 = .ok (.getfield 12, 3) := by decide +kernel
theorem dX6_clearPosts_4 : decode cX6_clearPosts 4 = .ok (.getfield 180, 3) := by decide +kernel
theorem dX6_clearPosts_7 : decode cX6_clearPosts 7 = .ok (.istore_n 1, 1) := by decide +kernel
theorem dX6_clearPosts_8 : decode cX6_clearPosts 8 = .ok (.aload_n 0, 1) := by decide +kernel
theorem dX6_clearPosts_9 : decode cX6_clearPosts 9 = .ok (.invokevirtual 63, 3) := by decide +kernel
theorem dX6_clearPosts_12 : decode cX6_clearPosts 12 = .ok (.aload_n 0, 1) := by decide +kernel
theorem dX6_clearPosts_13 : decode cX6_clearPosts 13 = .ok (.getfield 12, 3) := by decide +kernel
theorem dX6_clearPosts_16 : decode cX6_clearPosts 16 = .ok (.iconst 0, 1) := by decide +kernel
theorem dX6_clearPosts_17 : decode cX6_clearPosts 17 = .ok (.putfield 180, 3) := by decide +kernel
theorem dX6_clearPosts_20 : decode cX6_clearPosts 20 = .ok (.iload_n 1, 1) := by decide +kernel
theorem dX6_clearPosts_21 : decode cX6_clearPosts 21 = .ok (.ireturn, 1) := by decide +kernel
theorem dX6_posts_0 : decode cX6_posts 0 = .ok (.aload_n 0, 1) := by decide +kernel
theorem dX6_posts_1 : decode cX6_posts 1 = .ok (.getfield 12, 3) := by decide +kernel
theorem dX6_posts_4 : decode cX6_posts 4 = .ok (.getfield 180, 3) := by decide +kernel
theorem dX6_posts_7 : decode cX6_posts 7 = .ok (.ireturn, 1) := by decide +kernel
set_option maxRecDepth 20000 in
theorem ggX6_post_X6_isWithin : GoodIn wsX6_post wsX6_isWithin := goodIn_r _ [9] (by decide +kernel) (by decide +kernel)
set_option maxRecDepth 20000 in
theorem gX6_post_X6_isWithin : GoodIn wsX6_post (va_wsS RX6 48 yX6_isWithin wsX6_isWithin) := goodIn_app (goodIn_of _ (by decide +kernel)) ggX6_post_X6_isWithin
set_option maxRecDepth 20000 in
theorem ggX6_post_X3_at : GoodIn wsX6_post wsX3_at := goodIn_r _ [14, 15, 36] (by decide +kernel) (by decide +kernel)
set_option maxRecDepth 20000 in
theorem gX6_post_X3_at : GoodIn wsX6_post (wsV RX6 104 RX3 yX3_at wsX3_at) := goodIn_app (goodIn_of _ (by decide +kernel)) ggX6_post_X3_at
theorem dX6_post_0 : decode cX6_post 0 = .ok (.iload_n 1, 1) := by decide +kernel
theorem dX6_post_1 : decode cX6_post 1 = .ok (.iconst 0, 1) := by decide +kernel
theorem dX6_post_2 : decode cX6_post 2 = .ok (.aload_n 0, 1) := by decide +kernel
theorem dX6_post_3 : decode cX6_post 3 = .ok (.getfield 12, 3) := by decide +kernel
theorem dX6_post_6 : decode cX6_post 6 = .ok (.getfield 180, 3) := by decide +kernel
theorem dX6_post_9 : decode cX6_post 9 = .ok (.iconst 1, 1) := by decide +kernel
theorem dX6_post_10 : decode cX6_post 10 = .ok (.isub, 1) := by decide +kernel
theorem dX6_post_11 : decode cX6_post 11 = .ok (.invokestatic 48, 3) := by decide +kernel
theorem dX6_post_14 : decode cX6_post 14 = .ok (.ifCond .ne 13, 3) := by decide +kernel
theorem dX6_post_17 : decode cX6_post 17 = .ok (.new 142, 3) := by decide +kernel
theorem dX6_post_20 : decode cX6_post 20 = .ok (.dup, 1) := by decide +kernel
theorem dX6_post_21 : decode cX6_post 21 = .ok (.ldc 183, 2) := by decide +kernel
theorem dX6_post_23 : decode cX6_post 23 = .ok (.invokespecial 146, 3) := by decide +kernel
theorem dX6_post_26 : decode cX6_post 26 = .ok (.athrow, 1) := by decide +kernel
theorem dX6_post_27 : decode cX6_post 27 = .ok (.aload_n 0, 1) := by decide +kernel
theorem dX6_post_28 : decode cX6_post 28 = .ok (.getfield 12, 3) := by decide +kernel
theorem dX6_post_31 : decode cX6_post 31 = .ok (.getfield 185, 3) := by decide +kernel
theorem dX6_post_34 : decode cX6_post 34 = .ok (.iload_n 1, 1) := by decide +kernel
theorem dX6_post_35 : decode cX6_post 35 = .ok (.invokevirtual 104, 3) := by decide +kernel
theorem dX6_post_38 : decode cX6_post 38 = .ok (.ireturn, 1) := by decide +kernel
set_option maxRecDepth 20000 in
theorem ggX6_violationCount_X2_refresh : GoodIn wsX6_violationCount wsX2_refresh := goodIn_r _ [7, 8, 9, 10, 11, 6, 12, 13, 14, 15, 16, 17, 18, 19, 20, 21, 22, 23, 24, 25, 26, 27, 28, 29, 30, 31, 32, 33, 34, 35, 36, 37, 38, 39, 40, 41, 42, 43, 44, 45, 46, 47, 48, 49, 50, 51, 52, 53, 54, 55, 56, 57, 58, 59, 60, 61, 62, 63, 64, 65, 66, 67, 68, 69, 70, 124, 125, 126, 127, 128, 129, 130, 131, 132, 133, 134, 135, 136, 137, 138, 139, 140, 141, 142, 143, 144, 145] (by decide +kernel) (by decide +kernel)
set_option maxRecDepth 20000 in
theorem gX6_violationCount_X2_refresh : GoodIn wsX6_violationCount (wsV RX6 147 RX2 yX2_refresh wsX2_refresh) := goodIn_app (goodIn_of _ (by decide +kernel)) ggX6_violationCount_X2_refresh
set_option maxRecDepth 20000 in
theorem ggX6_violationCount_X5_inspect : GoodIn wsX6_violationCount wsX5_inspect := goodIn_r _ [75, 76, 77, 78, 79, 80, 81, 26, 27, 28, 29, 30, 82, 83, 84, 74, 85, 86, 87, 88, 89, 90, 91, 92, 93, 94, 35, 36, 37, 95, 96, 97, 98, 99, 100, 101, 102, 103, 104, 6, 105, 57, 106, 107, 108, 109, 13, 110, 25, 111, 112, 113, 114, 115, 116, 117, 118, 146, 147, 148, 149, 130, 131, 132, 133, 134, 135, 136, 137, 138, 139, 140, 141, 142, 143, 144, 145, 124, 125, 126, 127, 128, 129] (by decide +kernel) (by decide +kernel)
set_option maxRecDepth 20000 in
theorem gX6_violationCount_X5_inspect : GoodIn wsX6_violationCount (wsV RX6 188 RX5 yX5_inspect wsX5_inspect) := goodIn_app (goodIn_of _ (by decide +kernel)) ggX6_violationCount_X5_inspect
theorem dX6_violationCount_0 : decode cX6_violationCount 0 = .ok (.aload_n 0, 1) := by decide +kernel
theorem dX6_violationCount_1 : decode cX6_violationCount 1 = .ok (.getfield 28, 3) := by decide +kernel
theorem dX6_violationCount_4 : decode cX6_violationCount 4 = .ok (.invokevirtual 147, 3) := by decide +kernel
theorem dX6_violationCount_7 : decode cX6_violationCount 7 = .ok (.aload_n 0, 1) := by decide +kernel
theorem dX6_violationCount_8 : decode cX6_violationCount 8 = .ok (.getfield 37, 3) := by decide +kernel
theorem dX6_violationCount_11 : decode cX6_violationCount 11 = .ok (.invokevirtual 188, 3) := by decide +kernel
theorem dX6_violationCount_14 : decode cX6_violationCount 14 = .ok (.ireturn, 1) := by decide +kernel
set_option maxRecDepth 20000 in
theorem ggX6_violation_X2_refresh : GoodIn wsX6_violation wsX2_refresh := goodIn_r _ [10, 11, 12, 13, 14, 9, 15, 16, 17, 18, 19, 20, 21, 22, 23, 24, 25, 26, 27, 28, 29, 30, 31, 32, 33, 34, 35, 36, 37, 38, 39, 40, 41, 42, 43, 44, 45, 46, 47, 48, 49, 50, 51, 52, 53, 54, 55, 56, 57, 58, 59, 60, 61, 62, 63, 64, 65, 66, 67, 68, 69, 70, 71, 72, 73, 136, 137, 138, 139, 140, 141, 142, 143, 144, 145, 146, 147, 148, 149, 150, 151, 152, 153, 154, 155, 156, 157] (by decide +kernel) (by decide +kernel)
set_option maxRecDepth 20000 in
theorem gX6_violation_X2_refresh : GoodIn wsX6_violation (wsV RX6 147 RX2 yX2_refresh wsX2_refresh) := goodIn_app (goodIn_of _ (by decide +kernel)) ggX6_violation_X2_refresh
set_option maxRecDepth 20000 in
theorem ggX6_violation_X5_inspect : GoodIn wsX6_violation wsX5_inspect := goodIn_r _ [78, 79, 80, 81, 82, 83, 84, 29, 30, 31, 32, 33, 85, 86, 87, 77, 88, 89, 90, 91, 92, 93, 94, 95, 96, 97, 38, 39, 40, 98, 99, 100, 101, 102, 103, 104, 105, 106, 107, 9, 108, 60, 109, 110, 111, 112, 16, 113, 28, 114, 115, 116, 117, 118, 119, 120, 121, 132, 133, 134, 135, 142, 143, 144, 145, 146, 147, 148, 149, 150, 151, 152, 153, 154, 155, 156, 157, 136, 137, 138, 139, 140, 141] (by decide +kernel) (by decide +kernel)
set_option maxRecDepth 20000 in
theorem gX6_violation_X5_inspect : GoodIn wsX6_violation (wsV RX6 188 RX5 yX5_inspect wsX5_inspect) := goodIn_app (goodIn_of _ (by decide +kernel)) ggX6_violation_X5_inspect
set_option maxRecDepth 20000 in
theorem ggX6_violation_X6_isWithin : GoodIn wsX6_violation wsX6_isWithin := goodIn_r _ [125] (by decide +kernel) (by decide +kernel)
set_option maxRecDepth 20000 in
theorem gX6_violation_X6_isWithin : GoodIn wsX6_violation (va_wsS RX6 48 yX6_isWithin wsX6_isWithin) := goodIn_app (goodIn_of _ (by decide +kernel)) ggX6_violation_X6_isWithin
set_option maxRecDepth 20000 in
theorem ggX6_violation_X3_at : GoodIn wsX6_violation wsX3_at := goodIn_r _ [32, 33, 157] (by decide +kernel) (by decide +kernel)
set_option maxRecDepth 20000 in
theorem gX6_violation_X3_at : GoodIn wsX6_violation (wsV RX6 104 RX3 yX3_at wsX3_at) := goodIn_app (goodIn_of _ (by decide +kernel)) ggX6_violation_X3_at
theorem dX6_violation_0 : decode cX6_violation 0 = .ok (.aload_n 0, 1) := by decide +kernel
theorem dX6_violation_1 : decode cX6_violation 1 = .ok (.getfield 28, 3) := by decide +kernel
theorem dX6_violation_4 : decode cX6_violation 4 = .ok (.invokevirtual 147, 3) := by decide +kernel
theorem dX6_violation_7 : decode cX6_violation 7 = .ok (.iload_n 1, 1) := by decide +kernel
theorem dX6_violation_8 : decode cX6_violation 8 = .ok (.iconst 0, 1) := by decide +kernel
theorem dX6_violation_9 : decode cX6_violation 9 = .ok (.aload_n 0, 1) := by decide +kernel
theorem dX6_violation_10 : decode cX6_violation 10 = .ok (.getfield 37, 3) := by decide +kernel
theorem dX6_violation_13 : decode cX6_violation 13 = .ok (.invokevirtual 188, 3) := by decide +kernel
theorem dX6_violation_16 : decode cX6_violation 16 = .ok (.iconst 1, 1) := by decide +kernel
theorem dX6_violation_17 : decode cX6_violation 17 = .ok (.isub, 1) := by decide +kernel
theorem dX6_violation_18 : decode cX6_violation 18 = .ok (.invokestatic 48, 3) := by decide +kernel
theorem dX6_violation_21 : decode cX6_violation 21 = .ok (.ifCond .ne 13, 3) := by decide +kernel
theorem dX6_violation_24 : decode cX6_violation 24 = .ok (.new 142, 3) := by decide +kernel
theorem dX6_violation_27 : decode cX6_violation 27 = .ok (.dup, 1) := by decide +kernel
theorem dX6_violation_28 : decode cX6_violation 28 = .ok (.ldc 191, 2) := by decide +kernel
theorem dX6_violation_30 : decode cX6_violation 30 = .ok (.invokespecial 146, 3) := by decide +kernel
theorem dX6_violation_33 : decode cX6_violation 33 = .ok (.athrow, 1) := by decide +kernel
theorem dX6_violation_34 : decode cX6_violation 34 = .ok (.aload_n 0, 1) := by decide +kernel
theorem dX6_violation_35 : decode cX6_violation 35 = .ok (.getfield 37, 3) := by decide +kernel
theorem dX6_violation_38 : decode cX6_violation 38 = .ok (.getfield 193, 3) := by decide +kernel
theorem dX6_violation_41 : decode cX6_violation 41 = .ok (.iload_n 1, 1) := by decide +kernel
theorem dX6_violation_42 : decode cX6_violation 42 = .ok (.invokevirtual 104, 3) := by decide +kernel
theorem dX6_violation_45 : decode cX6_violation 45 = .ok (.ireturn, 1) := by decide +kernel
set_option maxRecDepth 20000 in
theorem ggX6_fewestPosts_X2_refresh : GoodIn wsX6_fewestPosts wsX2_refresh := goodIn_r _ [7, 8, 9, 10, 11, 6, 12, 13, 14, 15, 16, 17, 18, 19, 20, 21, 22, 23, 24, 25, 26, 27, 28, 29, 30, 31, 32, 33, 34, 35, 36, 37, 38, 39, 40, 41, 42, 43, 44, 45, 46, 47, 48, 49, 50, 51, 52, 53, 54, 55, 56, 57, 58, 59, 60, 61, 62, 63, 64, 65, 66, 67, 68, 69, 70, 147, 148, 149, 150, 151, 152, 153, 154, 155, 156, 157, 158, 159, 160, 161, 162, 163, 164, 165, 166, 167, 168] (by decide +kernel) (by decide +kernel)
set_option maxRecDepth 20000 in
theorem gX6_fewestPosts_X2_refresh : GoodIn wsX6_fewestPosts (wsV RX6 147 RX2 yX2_refresh wsX2_refresh) := goodIn_app (goodIn_of _ (by decide +kernel)) ggX6_fewestPosts_X2_refresh
set_option maxRecDepth 20000 in
theorem ggX6_fewestPosts_X1_plan : GoodIn wsX6_fewestPosts wsX1_plan := goodIn_r _ [75, 76, 77, 78, 79, 80, 81, 74, 82, 83, 84, 85, 86, 87, 88, 6, 89, 57, 90, 91, 92, 93, 13, 94, 25, 26, 27, 28, 29, 30, 95, 96, 35, 36, 37, 97, 98, 99, 100, 101, 17, 18, 19, 102, 103, 104, 105, 106, 107, 108, 109, 110, 111, 112, 113, 114, 115, 116, 117, 118, 119, 120, 121, 122, 123, 124, 125, 126, 127, 128, 129, 130, 131, 132, 133, 134, 135, 136, 137, 138, 139, 140, 141, 169, 170, 171, 172, 173, 153, 154, 155, 156, 157, 158, 159, 160, 161, 162, 163, 164, 165, 166, 167, 147, 148, 149, 150, 151, 152, 168] (by decide +kernel) (by decide +kernel)
set_option maxRecDepth 20000 in
theorem gX6_fewestPosts_X1_plan : GoodIn wsX6_fewestPosts (wsV RX6 196 RX1 yX1_plan wsX1_plan) := goodIn_app (goodIn_of _ (by decide +kernel)) ggX6_fewestPosts_X1_plan
theorem dX6_fewestPosts_0 : decode cX6_fewestPosts 0 = .ok (.aload_n 0, 1) := by decide +kernel
theorem dX6_fewestPosts_1 : decode cX6_fewestPosts 1 = .ok (.getfield 28, 3) := by decide +kernel
theorem dX6_fewestPosts_4 : decode cX6_fewestPosts 4 = .ok (.invokevirtual 147, 3) := by decide +kernel
theorem dX6_fewestPosts_7 : decode cX6_fewestPosts 7 = .ok (.aload_n 0, 1) := by decide +kernel
theorem dX6_fewestPosts_8 : decode cX6_fewestPosts 8 = .ok (.getfield 44, 3) := by decide +kernel
theorem dX6_fewestPosts_11 : decode cX6_fewestPosts 11 = .ok (.invokevirtual 196, 3) := by decide +kernel
theorem dX6_fewestPosts_14 : decode cX6_fewestPosts 14 = .ok (.ireturn, 1) := by decide +kernel
set_option maxRecDepth 20000 in
theorem ggX6_design_X2_refresh : GoodIn wsX6_design wsX2_refresh := goodIn_r _ [13, 14, 15, 16, 17, 12, 18, 19, 20, 21, 22, 23, 24, 25, 26, 27, 28, 29, 30, 31, 32, 33, 34, 35, 36, 37, 38, 39, 40, 41, 42, 43, 44, 45, 46, 47, 48, 49, 50, 51, 52, 53, 54, 55, 56, 57, 58, 59, 60, 61, 62, 63, 64, 65, 66, 67, 68, 69, 70, 71, 72, 73, 74, 75, 76, 218, 219, 220, 221, 222, 223, 198, 199, 200, 201, 202, 203, 204, 205, 206, 207, 208, 209, 210, 211, 212, 224] (by decide +kernel) (by decide +kernel)
set_option maxRecDepth 20000 in
theorem gX6_design_X2_refresh : GoodIn wsX6_design (wsV RX6 147 RX2 yX2_refresh wsX2_refresh) := goodIn_app (goodIn_of _ (by decide +kernel)) ggX6_design_X2_refresh
set_option maxRecDepth 20000 in
theorem ggX6_design_X1_plan : GoodIn wsX6_design wsX1_plan := goodIn_r _ [81, 82, 83, 84, 85, 86, 87, 80, 88, 89, 90, 91, 92, 93, 94, 12, 95, 63, 96, 97, 98, 99, 19, 100, 31, 32, 33, 34, 35, 36, 101, 102, 41, 42, 43, 103, 104, 105, 106, 107, 23, 24, 25, 108, 109, 110, 111, 112, 113, 114, 115, 116, 117, 118, 119, 120, 121, 122, 123, 124, 125, 126, 127, 128, 129, 130, 131, 132, 133, 134, 135, 136, 137, 138, 139, 140, 141, 142, 143, 144, 145, 146, 147, 213, 214, 215, 216, 217, 198, 199, 200, 201, 202, 203, 204, 205, 206, 207, 208, 209, 210, 211, 212, 218, 219, 220, 221, 222, 223, 224] (by decide +kernel) (by decide +kernel)
set_option maxRecDepth 20000 in
theorem gX6_design_X1_plan : GoodIn wsX6_design (wsV RX6 196 RX1 yX1_plan wsX1_plan) := goodIn_app (goodIn_of _ (by decide +kernel)) ggX6_design_X1_plan
set_option maxRecDepth 20000 in
theorem ggX6_design_X6_save : GoodIn wsX6_design wsX6_save := goodIn_r _ [152, 153, 5, 3, 154, 155, 156, 157, 158, 159, 160, 161, 23, 24, 25, 162, 163, 164, 165, 166, 167, 168, 169, 117, 170, 171, 172, 173, 120, 174, 175, 119, 176, 177, 178, 179, 180, 181, 182, 183, 184, 185, 186, 34, 187, 36, 188, 189, 190, 12, 191, 14, 193, 194, 195, 196, 197, 225, 226, 227, 198, 199, 200, 201, 202, 203, 204, 205, 206, 207, 208, 209, 210, 211, 212, 224, 218, 219, 220, 221, 222, 223] (by decide +kernel) (by decide +kernel)
set_option maxRecDepth 20000 in
theorem gX6_design_X6_save : GoodIn wsX6_design (wsV RX6 63 RX6 yX6_save wsX6_save) := goodIn_app (goodIn_of _ (by decide +kernel)) ggX6_design_X6_save
set_option maxRecDepth 20000 in
theorem ggX6_design_X3_copy : GoodIn wsX6_design wsX3_copy := goodIn_r _ [187, 36, 224] (by decide +kernel) (by decide +kernel)
set_option maxRecDepth 20000 in
theorem gX6_design_X3_copy : GoodIn wsX6_design (wsV RX6 204 RX3 yX3_copy wsX3_copy) := goodIn_app (goodIn_of _ (by decide +kernel)) ggX6_design_X3_copy
theorem dX6_design_0 : decode cX6_design 0 = .ok (.aload_n 0, 1) := by decide +kernel
theorem dX6_design_1 : decode cX6_design 1 = .ok (.getfield 28, 3) := by decide +kernel
theorem dX6_design_4 : decode cX6_design 4 = .ok (.invokevirtual 147, 3) := by decide +kernel
theorem dX6_design_7 : decode cX6_design 7 = .ok (.aload_n 0, 1) := by decide +kernel
theorem dX6_design_8 : decode cX6_design 8 = .ok (.getfield 44, 3) := by decide +kernel
theorem dX6_design_11 : decode cX6_design 11 = .ok (.invokevirtual 196, 3) := by decide +kernel
theorem dX6_design_14 : decode cX6_design 14 = .ok (.istore_n 1, 1) := by decide +kernel
theorem dX6_design_15 : decode cX6_design 15 = .ok (.iload_n 1, 1) := by decide +kernel
theorem dX6_design_16 : decode cX6_design 16 = .ok (.iconst (-1), 1) := by decide +kernel
theorem dX6_design_17 : decode cX6_design 17 = .ok (.if_icmp .ne 13, 3) := by decide +kernel
theorem dX6_design_20 : decode cX6_design 20 = .ok (.new 167, 3) := by decide +kernel
theorem dX6_design_23 : decode cX6_design 23 = .ok (.dup, 1) := by decide +kernel
theorem dX6_design_24 : decode cX6_design 24 = .ok (.ldc 199, 2) := by decide +kernel
theorem dX6_design_26 : decode cX6_design 26 = .ok (.invokespecial 171, 3) := by decide +kernel
theorem dX6_design_29 : decode cX6_design 29 = .ok (.athrow, 1) := by decide +kernel
theorem dX6_design_30 : decode cX6_design 30 = .ok (.aload_n 0, 1) := by decide +kernel
theorem dX6_design_31 : decode cX6_design 31 = .ok (.invokevirtual 63, 3) := by decide +kernel
theorem dX6_design_34 : decode cX6_design 34 = .ok (.aload_n 0, 1) := by decide +kernel
theorem dX6_design_35 : decode cX6_design 35 = .ok (.getfield 12, 3) := by decide +kernel
theorem dX6_design_38 : decode cX6_design 38 = .ok (.getfield 185, 3) := by decide +kernel
theorem dX6_design_41 : decode cX6_design 41 = .ok (.aload_n 0, 1) := by decide +kernel
theorem dX6_design_42 : decode cX6_design 42 = .ok (.getfield 44, 3) := by decide +kernel
theorem dX6_design_45 : decode cX6_design 45 = .ok (.getfield 201, 3) := by decide +kernel
theorem dX6_design_48 : decode cX6_design 48 = .ok (.invokevirtual 204, 3) := by decide +kernel
theorem dX6_design_51 : decode cX6_design 51 = .ok (.aload_n 0, 1) := by decide +kernel
theorem dX6_design_52 : decode cX6_design 52 = .ok (.getfield 12, 3) := by decide +kernel
theorem dX6_design_55 : decode cX6_design 55 = .ok (.iload_n 1, 1) := by decide +kernel
theorem dX6_design_56 : decode cX6_design 56 = .ok (.putfield 180, 3) := by decide +kernel
theorem dX6_design_59 : decode cX6_design 59 = .ok (.iload_n 1, 1) := by decide +kernel
theorem dX6_design_60 : decode cX6_design 60 = .ok (.ireturn, 1) := by decide +kernel
set_option maxRecDepth 20000 in
theorem ggX6_blockTime_X6_isWithin : GoodIn wsX6_blockTime wsX6_isWithin := goodIn_r _ [9] (by decide +kernel) (by decide +kernel)
set_option maxRecDepth 20000 in
theorem gX6_blockTime_X6_isWithin : GoodIn wsX6_blockTime (va_wsS RX6 48 yX6_isWithin wsX6_isWithin) := goodIn_app (goodIn_of _ (by decide +kernel)) ggX6_blockTime_X6_isWithin
set_option maxRecDepth 20000 in
theorem ggX6_blockTime_X2_refresh : GoodIn wsX6_blockTime wsX2_refresh := goodIn_r _ [14, 15, 16, 17, 18, 13, 19, 20, 21, 22, 23, 24, 25, 26, 27, 28, 29, 30, 31, 32, 33, 34, 35, 36, 37, 38, 39, 40, 41, 42, 43, 44, 45, 46, 47, 48, 49, 50, 51, 52, 53, 54, 55, 56, 57, 58, 59, 60, 61, 62, 63, 64, 65, 66, 67, 68, 69, 70, 71, 72, 73, 74, 75, 76, 77, 116, 117, 118, 119, 120, 121, 101, 102, 103, 104, 105, 106, 107, 108, 109, 110, 111, 112, 113, 114, 115, 122] (by decide +kernel) (by decide +kernel)
set_option maxRecDepth 20000 in
theorem gX6_blockTime_X2_refresh : GoodIn wsX6_blockTime (wsV RX6 147 RX2 yX2_refresh wsX2_refresh) := goodIn_app (goodIn_of _ (by decide +kernel)) ggX6_blockTime_X2_refresh
set_option maxRecDepth 20000 in
theorem ggX6_blockTime_X2_blockTimeOf : GoodIn wsX6_blockTime wsX2_blockTimeOf := goodIn_r _ [81, 20, 82, 83, 84, 85, 86, 21, 23, 24, 25, 26, 32, 33, 34, 35, 36, 37, 87, 88, 89, 13, 90, 91, 92, 93, 94, 95, 76, 116, 117, 118, 119, 120, 121, 101, 102, 103, 104, 105, 106, 107, 108, 109, 110, 111, 112, 113, 114, 115, 122] (by decide +kernel) (by decide +kernel)
set_option maxRecDepth 20000 in
theorem gX6_blockTime_X2_blockTimeOf : GoodIn wsX6_blockTime (wsV RX6 208 RX2 yX2_blockTimeOf wsX2_blockTimeOf) := goodIn_app (goodIn_of _ (by decide +kernel)) ggX6_blockTime_X2_blockTimeOf
theorem dX6_blockTime_0 : decode cX6_blockTime 0 = .ok (.iload_n 1, 1) := by decide +kernel
theorem dX6_blockTime_1 : decode cX6_blockTime 1 = .ok (.iconst 0, 1) := by decide +kernel
theorem dX6_blockTime_2 : decode cX6_blockTime 2 = .ok (.aload_n 0, 1) := by decide +kernel
theorem dX6_blockTime_3 : decode cX6_blockTime 3 = .ok (.getfield 12, 3) := by decide +kernel
theorem dX6_blockTime_6 : decode cX6_blockTime 6 = .ok (.getfield 180, 3) := by decide +kernel
theorem dX6_blockTime_9 : decode cX6_blockTime 9 = .ok (.iconst 1, 1) := by decide +kernel
theorem dX6_blockTime_10 : decode cX6_blockTime 10 = .ok (.isub, 1) := by decide +kernel
theorem dX6_blockTime_11 : decode cX6_blockTime 11 = .ok (.invokestatic 48, 3) := by decide +kernel
theorem dX6_blockTime_14 : decode cX6_blockTime 14 = .ok (.ifCond .ne 13, 3) := by decide +kernel
theorem dX6_blockTime_17 : decode cX6_blockTime 17 = .ok (.new 142, 3) := by decide +kernel
theorem dX6_blockTime_20 : decode cX6_blockTime 20 = .ok (.dup, 1) := by decide +kernel
theorem dX6_blockTime_21 : decode cX6_blockTime 21 = .ok (.ldc 183, 2) := by decide +kernel
theorem dX6_blockTime_23 : decode cX6_blockTime 23 = .ok (.invokespecial 146, 3) := by decide +kernel
theorem dX6_blockTime_26 : decode cX6_blockTime 26 = .ok (.athrow, 1) := by decide +kernel
theorem dX6_blockTime_27 : decode cX6_blockTime 27 = .ok (.aload_n 0, 1) := by decide +kernel
theorem dX6_blockTime_28 : decode cX6_blockTime 28 = .ok (.getfield 28, 3) := by decide +kernel
theorem dX6_blockTime_31 : decode cX6_blockTime 31 = .ok (.invokevirtual 147, 3) := by decide +kernel
theorem dX6_blockTime_34 : decode cX6_blockTime 34 = .ok (.aload_n 0, 1) := by decide +kernel
theorem dX6_blockTime_35 : decode cX6_blockTime 35 = .ok (.getfield 28, 3) := by decide +kernel
theorem dX6_blockTime_38 : decode cX6_blockTime 38 = .ok (.iload_n 1, 1) := by decide +kernel
theorem dX6_blockTime_39 : decode cX6_blockTime 39 = .ok (.invokevirtual 208, 3) := by decide +kernel
theorem dX6_blockTime_42 : decode cX6_blockTime 42 = .ok (.ireturn, 1) := by decide +kernel
