set_option maxRecDepth 20000 in
theorem ggX7_lays_X7_most : GoodIn wsX7_lays wsX7_most := goodIn_r _ [11, 12, 1, 25, 26, 27, 28, 29, 30, 31, 32, 33, 34, 35, 36] (by decide +kernel) (by decide +kernel)
set_option maxRecDepth 20000 in
theorem gX7_lays_X7_most : GoodIn wsX7_lays (wsV RX7 78 RX7 yX7_most wsX7_most) := goodIn_app (goodIn_of _ (by decide +kernel)) ggX7_lays_X7_most
set_option maxRecDepth 20000 in
theorem ggX7_lays_X7_lost : GoodIn wsX7_lays wsX7_lost := goodIn_r _ [16, 1, 17, 25, 26, 27, 28, 29, 30, 31, 32, 33, 34, 35, 36] (by decide +kernel) (by decide +kernel)
set_option maxRecDepth 20000 in
theorem gX7_lays_X7_lost : GoodIn wsX7_lays (wsV RX7 74 RX7 yX7_lost wsX7_lost) := goodIn_app (goodIn_of _ (by decide +kernel)) ggX7_lays_X7_lost
set_option maxRecDepth 20000 in
theorem ggX7_lays_X7_speedFor : GoodIn wsX7_lays wsX7_speedFor := goodIn_r _ [20, 12] (by decide +kernel) (by decide +kernel)
set_option maxRecDepth 20000 in
theorem gX7_lays_X7_speedFor : GoodIn wsX7_lays (va_wsS RX7 81 yX7_speedFor wsX7_speedFor) := goodIn_app (goodIn_of _ (by decide +kernel)) ggX7_lays_X7_speedFor
set_option maxRecDepth 20000 in
theorem ggX7_lays_X7_distanceAt : GoodIn wsX7_lays wsX7_distanceAt := goodIn_r _ [24, 3, 1, 2, 13, 14, 15, 10, 16, 17, 25, 26, 27, 28, 29, 30, 31, 32, 33, 34, 35, 36] (by decide +kernel) (by decide +kernel)
set_option maxRecDepth 20000 in
theorem gX7_lays_X7_distanceAt : GoodIn wsX7_lays (wsV RX7 85 RX7 yX7_distanceAt wsX7_distanceAt) := goodIn_app (goodIn_of _ (by decide +kernel)) ggX7_lays_X7_distanceAt
theorem dX7_lays_0 : decode cX7_lays 0 = .ok (.aload_n 0, 1) := by decide +kernel
theorem dX7_lays_1 : decode cX7_lays 1 = .ok (.getfield 7, 3) := by decide +kernel
theorem dX7_lays_4 : decode cX7_lays 4 = .ok (.iconst 0, 1) := by decide +kernel
theorem dX7_lays_5 : decode cX7_lays 5 = .ok (.iaload, 1) := by decide +kernel
theorem dX7_lays_6 : decode cX7_lays 6 = .ok (.istore_n 1, 1) := by decide +kernel
theorem dX7_lays_7 : decode cX7_lays 7 = .ok (.aload_n 0, 1) := by decide +kernel
theorem dX7_lays_8 : decode cX7_lays 8 = .ok (.getfield 16, 3) := by decide +kernel
theorem dX7_lays_11 : decode cX7_lays 11 = .ok (.iload_n 1, 1) := by decide +kernel
theorem dX7_lays_12 : decode cX7_lays 12 = .ok (.aload_n 0, 1) := by decide +kernel
theorem dX7_lays_13 : decode cX7_lays 13 = .ok (.iload_n 1, 1) := by decide +kernel
theorem dX7_lays_14 : decode cX7_lays 14 = .ok (.iconst 1, 1) := by decide +kernel
theorem dX7_lays_15 : decode cX7_lays 15 = .ok (.isub, 1) := by decide +kernel
theorem dX7_lays_16 : decode cX7_lays 16 = .ok (.invokevirtual 78, 3) := by decide +kernel
theorem dX7_lays_19 : decode cX7_lays 19 = .ok (.lastore, 1) := by decide +kernel
theorem dX7_lays_20 : decode cX7_lays 20 = .ok (.iload_n 1, 1) := by decide +kernel
theorem dX7_lays_21 : decode cX7_lays 21 = .ok (.iconst 1, 1) := by decide +kernel
theorem dX7_lays_22 : decode cX7_lays 22 = .ok (.isub, 1) := by decide +kernel
theorem dX7_lays_23 : decode cX7_lays 23 = .ok (.istore_n 2, 1) := by decide +kernel
theorem dX7_lays_24 : decode cX7_lays 24 = .ok (.iload_n 2, 1) := by decide +kernel
theorem dX7_lays_25 : decode cX7_lays 25 = .ok (.ifCond .lt 49, 3) := by decide +kernel
theorem dX7_lays_28 : decode cX7_lays 28 = .ok (.aload_n 0, 1) := by decide +kernel
theorem dX7_lays_29 : decode cX7_lays 29 = .ok (.getfield 16, 3) := by decide +kernel
theorem dX7_lays_32 : decode cX7_lays 32 = .ok (.iload_n 2, 1) := by decide +kernel
theorem dX7_lays_33 : decode cX7_lays 33 = .ok (.iconst 1, 1) := by decide +kernel
theorem dX7_lays_34 : decode cX7_lays 34 = .ok (.iadd, 1) := by decide +kernel
theorem dX7_lays_35 : decode cX7_lays 35 = .ok (.laload, 1) := by decide +kernel
theorem dX7_lays_36 : decode cX7_lays 36 = .ok (.aload_n 0, 1) := by decide +kernel
theorem dX7_lays_37 : decode cX7_lays 37 = .ok (.iload_n 2, 1) := by decide +kernel
theorem dX7_lays_38 : decode cX7_lays 38 = .ok (.invokevirtual 74, 3) := by decide +kernel
theorem dX7_lays_41 : decode cX7_lays 41 = .ok (.ladd, 1) := by decide +kernel
theorem dX7_lays_42 : decode cX7_lays 42 = .ok (.lstore_n 3, 1) := by decide +kernel
theorem dX7_lays_43 : decode cX7_lays 43 = .ok (.aload_n 0, 1) := by decide +kernel
theorem dX7_lays_44 : decode cX7_lays 44 = .ok (.getfield 16, 3) := by decide +kernel
theorem dX7_lays_47 : decode cX7_lays 47 = .ok (.iload_n 2, 1) := by decide +kernel
theorem dX7_lays_48 : decode cX7_lays 48 = .ok (.aload_n 0, 1) := by decide +kernel
theorem dX7_lays_49 : decode cX7_lays 49 = .ok (.iload_n 2, 1) := by decide +kernel
theorem dX7_lays_50 : decode cX7_lays 50 = .ok (.invokevirtual 78, 3) := by decide +kernel
theorem dX7_lays_53 : decode cX7_lays 53 = .ok (.lload_n 3, 1) := by decide +kernel
theorem dX7_lays_54 : decode cX7_lays 54 = .ok (.lcmp, 1) := by decide +kernel
theorem dX7_lays_55 : decode cX7_lays 55 = .ok (.ifCond .ge 11, 3) := by decide +kernel
theorem dX7_lays_58 : decode cX7_lays 58 = .ok (.aload_n 0, 1) := by decide +kernel
theorem dX7_lays_59 : decode cX7_lays 59 = .ok (.iload_n 2, 1) := by decide +kernel
theorem dX7_lays_60 : decode cX7_lays 60 = .ok (.invokevirtual 78, 3) := by decide +kernel
theorem dX7_lays_63 : decode cX7_lays 63 = .ok (.goto 4, 3) := by decide +kernel
theorem dX7_lays_66 : decode cX7_lays 66 = .ok (.lload_n 3, 1) := by decide +kernel
theorem dX7_lays_67 : decode cX7_lays 67 = .ok (.lastore, 1) := by decide +kernel
theorem dX7_lays_68 : decode cX7_lays 68 = .ok (.iinc 2 (-1), 3) := by decide +kernel
theorem dX7_lays_71 : decode cX7_lays 71 = .ok (.goto (-47), 3) := by decide +kernel
theorem dX7_lays_74 : decode cX7_lays 74 = .ok (.iconst 0, 1) := by decide +kernel
theorem dX7_lays_75 : decode cX7_lays 75 = .ok (.istore_n 2, 1) := by decide +kernel
theorem dX7_lays_76 : decode cX7_lays 76 = .ok (.iload_n 2, 1) := by decide +kernel
theorem dX7_lays_77 : decode cX7_lays 77 = .ok (.iload_n 1, 1) := by decide +kernel
theorem dX7_lays_78 : decode cX7_lays 78 = .ok (.if_icmp .gt 80, 3) := by decide +kernel
theorem dX7_lays_81 : decode cX7_lays 81 = .ok (.aload_n 0, 1) := by decide +kernel
theorem dX7_lays_82 : decode cX7_lays 82 = .ok (.getfield 20, 3) := by decide +kernel
theorem dX7_lays_85 : decode cX7_lays 85 = .ok (.iload_n 2, 1) := by decide +kernel
theorem dX7_lays_86 : decode cX7_lays 86 = .ok (.aload_n 0, 1) := by decide +kernel
theorem dX7_lays_87 : decode cX7_lays 87 = .ok (.getfield 16, 3) := by decide +kernel
theorem dX7_lays_90 : decode cX7_lays 90 = .ok (.iload_n 2, 1) := by decide +kernel
theorem dX7_lays_91 : decode cX7_lays 91 = .ok (.laload, 1) := by decide +kernel
theorem dX7_lays_92 : decode cX7_lays 92 = .ok (.invokestatic 81, 3) := by decide +kernel
theorem dX7_lays_95 : decode cX7_lays 95 = .ok (.iastore, 1) := by decide +kernel
theorem dX7_lays_96 : decode cX7_lays 96 = .ok (.aload_n 0, 1) := by decide +kernel
theorem dX7_lays_97 : decode cX7_lays 97 = .ok (.getfield 23, 3) := by decide +kernel
theorem dX7_lays_100 : decode cX7_lays 100 = .ok (.iload_n 2, 1) := by decide +kernel
theorem dX7_lays_101 : decode cX7_lays 101 = .ok (.aload_n 0, 1) := by decide +kernel
theorem dX7_lays_102 : decode cX7_lays 102 = .ok (.iload_n 2, 1) := by decide +kernel
theorem dX7_lays_103 : decode cX7_lays 103 = .ok (.invokevirtual 85, 3) := by decide +kernel
theorem dX7_lays_106 : decode cX7_lays 106 = .ok (.iastore, 1) := by decide +kernel
theorem dX7_lays_107 : decode cX7_lays 107 = .ok (.aload_n 0, 1) := by decide +kernel
theorem dX7_lays_108 : decode cX7_lays 108 = .ok (.getfield 26, 3) := by decide +kernel
theorem dX7_lays_111 : decode cX7_lays 111 = .ok (.iload_n 2, 1) := by decide +kernel
theorem dX7_lays_112 : decode cX7_lays 112 = .ok (.iload_n 2, 1) := by decide +kernel
theorem dX7_lays_113 : decode cX7_lays 113 = .ok (.ifCond .ne 7, 3) := by decide +kernel
theorem dX7_lays_116 : decode cX7_lays 116 = .ok (.iconst 0, 1) := by decide +kernel
theorem dX7_lays_117 : decode cX7_lays 117 = .ok (.goto 34, 3) := by decide +kernel
theorem dX7_lays_120 : decode cX7_lays 120 = .ok (.aload_n 0, 1) := by decide +kernel
theorem dX7_lays_121 : decode cX7_lays 121 = .ok (.getfield 26, 3) := by decide +kernel
theorem dX7_lays_124 : decode cX7_lays 124 = .ok (.iload_n 2, 1) := by decide +kernel
theorem dX7_lays_125 : decode cX7_lays 125 = .ok (.iconst 1, 1) := by decide +kernel
theorem dX7_lays_126 : decode cX7_lays 126 = .ok (.isub, 1) := by decide +kernel
theorem dX7_lays_127 : decode cX7_lays 127 = .ok (.iaload, 1) := by decide +kernel
theorem dX7_lays_128 : decode cX7_lays 128 = .ok (.ldc 89, 2) := by decide +kernel
theorem dX7_lays_130 : decode cX7_lays 130 = .ok (.aload_n 0, 1) := by decide +kernel
theorem dX7_lays_131 : decode cX7_lays 131 = .ok (.getfield 20, 3) := by decide +kernel
theorem dX7_lays_134 : decode cX7_lays 134 = .ok (.iload_n 2, 1) := by decide +kernel
theorem dX7_lays_135 : decode cX7_lays 135 = .ok (.iconst 1, 1) := by decide +kernel
theorem dX7_lays_136 : decode cX7_lays 136 = .ok (.isub, 1) := by decide +kernel
theorem dX7_lays_137 : decode cX7_lays 137 = .ok (.iaload, 1) := by decide +kernel
theorem dX7_lays_138 : decode cX7_lays 138 = .ok (.iadd, 1) := by decide +kernel
theorem dX7_lays_139 : decode cX7_lays 139 = .ok (.iconst 1, 1) := by decide +kernel
theorem dX7_lays_140 : decode cX7_lays 140 = .ok (.isub, 1) := by decide +kernel
theorem dX7_lays_141 : decode cX7_lays 141 = .ok (.aload_n 0, 1) := by decide +kernel
theorem dX7_lays_142 : decode cX7_lays 142 = .ok (.getfield 20, 3) := by decide +kernel
theorem dX7_lays_145 : decode cX7_lays 145 = .ok (.iload_n 2, 1) := by decide +kernel
theorem dX7_lays_146 : decode cX7_lays 146 = .ok (.iconst 1, 1) := by decide +kernel
theorem dX7_lays_147 : decode cX7_lays 147 = .ok (.isub, 1) := by decide +kernel
theorem dX7_lays_148 : decode cX7_lays 148 = .ok (.iaload, 1) := by decide +kernel
theorem dX7_lays_149 : decode cX7_lays 149 = .ok (.idiv, 1) := by decide +kernel
theorem dX7_lays_150 : decode cX7_lays 150 = .ok (.iadd, 1) := by decide +kernel
theorem dX7_lays_151 : decode cX7_lays 151 = .ok (.iastore, 1) := by decide +kernel
theorem dX7_lays_152 : decode cX7_lays 152 = .ok (.iinc 2 1, 3) := by decide +kernel
theorem dX7_lays_155 : decode cX7_lays 155 = .ok (.goto (-79), 3) := by decide +kernel
theorem dX7_lays_158 : decode cX7_lays 158 = .ok (.return_, 1) := by decide +kernel
set_option maxRecDepth 20000 in
theorem ggX7_energy_X7_isPosition : GoodIn wsX7_energy wsX7_isPosition := goodIn_r _ [6, 7, 8, 9, 5, 10, 41, 42, 43, 44, 45, 46, 47, 48, 49, 50, 51, 52] (by decide +kernel) (by decide +kernel)
set_option maxRecDepth 20000 in
theorem gX7_energy_X7_isPosition : GoodIn wsX7_energy (wsV RX7 67 RX7 yX7_isPosition wsX7_isPosition) := goodIn_app (goodIn_of _ (by decide +kernel)) ggX7_energy_X7_isPosition
set_option maxRecDepth 20000 in
theorem ggX7_energy_X7_refuses : GoodIn wsX7_energy wsX7_refuses := goodIn_r _ [14, 15, 41, 42, 43, 44, 45, 46, 47, 48, 49, 50, 51, 52] (by decide +kernel) (by decide +kernel)
set_option maxRecDepth 20000 in
theorem gX7_energy_X7_refuses : GoodIn wsX7_energy (wsV RX7 52 RX7 yX7_refuses wsX7_refuses) := goodIn_app (goodIn_of _ (by decide +kernel)) ggX7_energy_X7_refuses
set_option maxRecDepth 20000 in
theorem ggX7_energy_X7_lays : GoodIn wsX7_energy wsX7_lays := goodIn_r _ [19, 7, 1, 20, 21, 22, 23, 24, 25, 26, 5, 27, 28, 29, 30, 31, 32, 33, 34, 35, 36, 37, 38, 39, 40, 41, 42, 43, 44, 45, 46, 47, 48, 49, 50, 51, 52] (by decide +kernel) (by decide +kernel)
set_option maxRecDepth 20000 in
theorem gX7_energy_X7_lays : GoodIn wsX7_energy (wsV RX7 90 RX7 yX7_lays wsX7_lays) := goodIn_app (goodIn_of _ (by decide +kernel)) ggX7_energy_X7_lays
theorem dX7_energy_0 : decode cX7_energy 0 = .ok (.aload_n 0, 1) := by decide +kernel
theorem dX7_energy_1 : decode cX7_energy 1 = .ok (.aload_n 0, 1) := by decide +kernel
theorem dX7_energy_2 : decode cX7_energy 2 = .ok (.iload_n 1, 1) := by decide +kernel
theorem dX7_energy_3 : decode cX7_energy 3 = .ok (.invokevirtual 67, 3) := by decide +kernel
theorem dX7_energy_6 : decode cX7_energy 6 = .ok (.invokevirtual 52, 3) := by decide +kernel
theorem dX7_energy_9 : decode cX7_energy 9 = .ok (.ifCond .eq 5, 3) := by decide +kernel
theorem dX7_energy_12 : decode cX7_energy 12 = .ok (.lconst 0, 1) := by decide +kernel
theorem dX7_energy_13 : decode cX7_energy 13 = .ok (.lreturn, 1) := by decide +kernel
theorem dX7_energy_14 : decode cX7_energy 14 = .ok (.aload_n 0, 1) := by decide +kernel
theorem dX7_energy_15 : decode cX7_energy 15 = .ok (.invokevirtual 90, 3) := by decide +kernel
theorem dX7_energy_18 : decode cX7_energy 18 = .ok (.aload_n 0, 1) := by decide +kernel
theorem dX7_energy_19 : decode cX7_energy 19 = .ok (.getfield 16, 3) := by decide +kernel
theorem dX7_energy_22 : decode cX7_energy 22 = .ok (.iload_n 1, 1) := by decide +kernel
theorem dX7_energy_23 : decode cX7_energy 23 = .ok (.laload, 1) := by decide +kernel
theorem dX7_energy_24 : decode cX7_energy 24 = .ok (.lreturn, 1) := by decide +kernel
set_option maxRecDepth 20000 in
theorem ggX7_profileSpeed_X7_isPosition : GoodIn wsX7_profileSpeed wsX7_isPosition := goodIn_r _ [6, 7, 8, 9, 5, 10, 41, 42, 43, 44, 45, 46, 47, 48, 49, 50, 51, 52] (by decide +kernel) (by decide +kernel)
set_option maxRecDepth 20000 in
theorem gX7_profileSpeed_X7_isPosition : GoodIn wsX7_profileSpeed (wsV RX7 67 RX7 yX7_isPosition wsX7_isPosition) := goodIn_app (goodIn_of _ (by decide +kernel)) ggX7_profileSpeed_X7_isPosition
set_option maxRecDepth 20000 in
theorem ggX7_profileSpeed_X7_refuses : GoodIn wsX7_profileSpeed wsX7_refuses := goodIn_r _ [14, 15, 41, 42, 43, 44, 45, 46, 47, 48, 49, 50, 51, 52] (by decide +kernel) (by decide +kernel)
set_option maxRecDepth 20000 in
theorem gX7_profileSpeed_X7_refuses : GoodIn wsX7_profileSpeed (wsV RX7 52 RX7 yX7_refuses wsX7_refuses) := goodIn_app (goodIn_of _ (by decide +kernel)) ggX7_profileSpeed_X7_refuses
set_option maxRecDepth 20000 in
theorem ggX7_profileSpeed_X7_lays : GoodIn wsX7_profileSpeed wsX7_lays := goodIn_r _ [19, 7, 20, 1, 21, 22, 23, 24, 25, 26, 5, 27, 28, 29, 30, 31, 32, 33, 34, 35, 36, 37, 38, 39, 40, 41, 42, 43, 44, 45, 46, 47, 48, 49, 50, 51, 52] (by decide +kernel) (by decide +kernel)
set_option maxRecDepth 20000 in
theorem gX7_profileSpeed_X7_lays : GoodIn wsX7_profileSpeed (wsV RX7 90 RX7 yX7_lays wsX7_lays) := goodIn_app (goodIn_of _ (by decide +kernel)) ggX7_profileSpeed_X7_lays
theorem dX7_profileSpeed_0 : decode cX7_profileSpeed 0 = .ok (.aload_n 0, 1) := by decide +kernel
theorem dX7_profileSpeed_1 : decode cX7_profileSpeed 1 = .ok (.aload_n 0, 1) := by decide +kernel
theorem dX7_profileSpeed_2 : decode cX7_profileSpeed 2 = .ok (.iload_n 1, 1) := by decide +kernel
theorem dX7_profileSpeed_3 : decode cX7_profileSpeed 3 = .ok (.invokevirtual 67, 3) := by decide +kernel
theorem dX7_profileSpeed_6 : decode cX7_profileSpeed 6 = .ok (.invokevirtual 52, 3) := by decide +kernel
theorem dX7_profileSpeed_9 : decode cX7_profileSpeed 9 = .ok (.ifCond .eq 5, 3) := by decide +kernel
theorem dX7_profileSpeed_12 : decode cX7_profileSpeed 12 = .ok (.iconst 0, 1) := by decide +kernel
theorem dX7_profileSpeed_13 : decode cX7_profileSpeed 13 = .ok (.ireturn, 1) := by decide +kernel
theorem dX7_profileSpeed_14 : decode cX7_profileSpeed 14 = .ok (.aload_n 0, 1) := by decide +kernel
theorem dX7_profileSpeed_15 : decode cX7_profileSpeed 15 = .ok (.invokevirtual 90, 3) := by decide +kernel
theorem dX7_profileSpeed_18 : decode cX7_profileSpeed 18 = .ok (.aload_n 0, 1) := by decide +kernel
theorem dX7_profileSpeed_19 : decode cX7_profileSpeed 19 = .ok (.getfield 20, 3) := by decide +kernel
theorem dX7_profileSpeed_22 : decode cX7_profileSpeed 22 = .ok (.iload_n 1, 1) := by decide +kernel
theorem dX7_profileSpeed_23 : decode cX7_profileSpeed 23 = .ok (.iaload, 1) := by decide +kernel
theorem dX7_profileSpeed_24 : decode cX7_profileSpeed 24 = .ok (.ireturn, 1) := by decide +kernel
set_option maxRecDepth 20000 in
theorem ggX7_brakingDistance_X7_isPosition : GoodIn wsX7_brakingDistance wsX7_isPosition := goodIn_r _ [6, 7, 8, 9, 5, 10, 41, 42, 43, 44, 45, 46, 47, 48, 49, 50, 51, 52] (by decide +kernel) (by decide +kernel)
set_option maxRecDepth 20000 in
theorem gX7_brakingDistance_X7_isPosition : GoodIn wsX7_brakingDistance (wsV RX7 67 RX7 yX7_isPosition wsX7_isPosition) := goodIn_app (goodIn_of _ (by decide +kernel)) ggX7_brakingDistance_X7_isPosition
set_option maxRecDepth 20000 in
theorem ggX7_brakingDistance_X7_refuses : GoodIn wsX7_brakingDistance wsX7_refuses := goodIn_r _ [14, 15, 41, 42, 43, 44, 45, 46, 47, 48, 49, 50, 51, 52] (by decide +kernel) (by decide +kernel)
set_option maxRecDepth 20000 in
theorem gX7_brakingDistance_X7_refuses : GoodIn wsX7_brakingDistance (wsV RX7 52 RX7 yX7_refuses wsX7_refuses) := goodIn_app (goodIn_of _ (by decide +kernel)) ggX7_brakingDistance_X7_refuses
set_option maxRecDepth 20000 in
theorem ggX7_brakingDistance_X7_lays : GoodIn wsX7_brakingDistance wsX7_lays := goodIn_r _ [19, 7, 20, 21, 1, 22, 23, 24, 25, 26, 5, 27, 28, 29, 30, 31, 32, 33, 34, 35, 36, 37, 38, 39, 40, 41, 42, 43, 44, 45, 46, 47, 48, 49, 50, 51, 52] (by decide +kernel) (by decide +kernel)
set_option maxRecDepth 20000 in
theorem gX7_brakingDistance_X7_lays : GoodIn wsX7_brakingDistance (wsV RX7 90 RX7 yX7_lays wsX7_lays) := goodIn_app (goodIn_of _ (by decide +kernel)) ggX7_brakingDistance_X7_lays
theorem dX7_brakingDistance_0 : decode cX7_brakingDistance 0 = .ok (.aload_n 0, 1) := by decide +kernel
theorem dX7_brakingDistance_1 : decode cX7_brakingDistance 1 = .ok (.aload_n 0, 1) := by decide +kernel
theorem dX7_brakingDistance_2 : decode cX7_brakingDistance 2 = .ok (.iload_n 1, 1) := by decide +kernel
theorem dX7_brakingDistance_3 : decode cX7_brakingDistance 3 = .ok (.invokevirtual 67, 3) := by decide +kernel
theorem dX7_brakingDistance_6 : decode cX7_brakingDistance 6 = .ok (.invokevirtual 52, 3) := by decide +kernel
theorem dX7_brakingDistance_9 : decode cX7_brakingDistance 9 = .ok (.ifCond .eq 5, 3) := by decide +kernel
theorem dX7_brakingDistance_12 : decode cX7_brakingDistance 12 = .ok (.iconst 0, 1) := by decide +kernel
theorem dX7_brakingDistance_13 : decode cX7_brakingDistance 13 = .ok (.ireturn, 1) := by decide +kernel
theorem dX7_brakingDistance_14 : decode cX7_brakingDistance 14 = .ok (.aload_n 0, 1) := by decide +kernel
theorem dX7_brakingDistance_15 : decode cX7_brakingDistance 15 = .ok (.invokevirtual 90, 3) := by decide +kernel
theorem dX7_brakingDistance_18 : decode cX7_brakingDistance 18 = .ok (.aload_n 0, 1) := by decide +kernel
theorem dX7_brakingDistance_19 : decode cX7_brakingDistance 19 = .ok (.getfield 23, 3) := by decide +kernel
theorem dX7_brakingDistance_22 : decode cX7_brakingDistance 22 = .ok (.iload_n 1, 1) := by decide +kernel
theorem dX7_brakingDistance_23 : decode cX7_brakingDistance 23 = .ok (.iaload, 1) := by decide +kernel
theorem dX7_brakingDistance_24 : decode cX7_brakingDistance 24 = .ok (.ireturn, 1) := by decide +kernel
set_option maxRecDepth 20000 in
theorem ggX7_travelTime_X7_isPosition : GoodIn wsX7_travelTime wsX7_isPosition := goodIn_r _ [6, 7, 8, 9, 5, 10, 41, 42, 43, 44, 45, 46, 47, 48, 49, 50, 51, 52] (by decide +kernel) (by decide +kernel)
set_option maxRecDepth 20000 in
theorem gX7_travelTime_X7_isPosition : GoodIn wsX7_travelTime (wsV RX7 67 RX7 yX7_isPosition wsX7_isPosition) := goodIn_app (goodIn_of _ (by decide +kernel)) ggX7_travelTime_X7_isPosition
set_option maxRecDepth 20000 in
theorem ggX7_travelTime_X7_refuses : GoodIn wsX7_travelTime wsX7_refuses := goodIn_r _ [14, 15, 41, 42, 43, 44, 45, 46, 47, 48, 49, 50, 51, 52] (by decide +kernel) (by decide +kernel)
set_option maxRecDepth 20000 in
theorem gX7_travelTime_X7_refuses : GoodIn wsX7_travelTime (wsV RX7 52 RX7 yX7_refuses wsX7_refuses) := goodIn_app (goodIn_of _ (by decide +kernel)) ggX7_travelTime_X7_refuses
set_option maxRecDepth 20000 in
theorem ggX7_travelTime_X7_lays : GoodIn wsX7_travelTime wsX7_lays := goodIn_r _ [19, 7, 20, 21, 22, 1, 23, 24, 25, 26, 5, 27, 28, 29, 30, 31, 32, 33, 34, 35, 36, 37, 38, 39, 40, 41, 42, 43, 44, 45, 46, 47, 48, 49, 50, 51, 52] (by decide +kernel) (by decide +kernel)
set_option maxRecDepth 20000 in
theorem gX7_travelTime_X7_lays : GoodIn wsX7_travelTime (wsV RX7 90 RX7 yX7_lays wsX7_lays) := goodIn_app (goodIn_of _ (by decide +kernel)) ggX7_travelTime_X7_lays
theorem dX7_travelTime_0 : decode cX7_travelTime 0 = .ok (.aload_n 0, 1) := by decide +kernel
theorem dX7_travelTime_1 : decode cX7_travelTime 1 = .ok (.aload_n 0, 1) := by decide +kernel
theorem dX7_travelTime_2 : decode cX7_travelTime 2 = .ok (.iload_n 1, 1) := by decide +kernel
theorem dX7_travelTime_3 : decode cX7_travelTime 3 = .ok (.invokevirtual 67, 3) := by decide +kernel
theorem dX7_travelTime_6 : decode cX7_travelTime 6 = .ok (.ifCond .eq 20, 3) := by decide +kernel
theorem dX7_travelTime_9 : decode cX7_travelTime 9 = .ok (.aload_n 0, 1) := by decide +kernel
theorem dX7_travelTime_10 : decode cX7_travelTime 10 = .ok (.iload_n 2, 1) := by decide +kernel
theorem dX7_travelTime_11 : decode cX7_travelTime 11 = .ok (.invokevirtual 67, 3) := by decide +kernel
theorem dX7_travelTime_14 : decode cX7_travelTime 14 = .ok (.ifCond .eq 12, 3) := by decide +kernel
theorem dX7_travelTime_17 : decode cX7_travelTime 17 = .ok (.iload_n 1, 1) := by decide +kernel
theorem dX7_travelTime_18 : decode cX7_travelTime 18 = .ok (.iload_n 2, 1) := by decide +kernel
theorem dX7_travelTime_19 : decode cX7_travelTime 19 = .ok (.if_icmp .gt 7, 3) := by decide +kernel
theorem dX7_travelTime_22 : decode cX7_travelTime 22 = .ok (.iconst 1, 1) := by decide +kernel
theorem dX7_travelTime_23 : decode cX7_travelTime 23 = .ok (.goto 4, 3) := by decide +kernel
theorem dX7_travelTime_26 : decode cX7_travelTime 26 = .ok (.iconst 0, 1) := by decide +kernel
theorem dX7_travelTime_27 : decode cX7_travelTime 27 = .ok (.invokevirtual 52, 3) := by decide +kernel
theorem dX7_travelTime_30 : decode cX7_travelTime 30 = .ok (.ifCond .eq 5, 3) := by decide +kernel
theorem dX7_travelTime_33 : decode cX7_travelTime 33 = .ok (.iconst 0, 1) := by decide +kernel
theorem dX7_travelTime_34 : decode cX7_travelTime 34 = .ok (.ireturn, 1) := by decide +kernel
theorem dX7_travelTime_35 : decode cX7_travelTime 35 = .ok (.aload_n 0, 1) := by decide +kernel
theorem dX7_travelTime_36 : decode cX7_travelTime 36 = .ok (.invokevirtual 90, 3) := by decide +kernel
theorem dX7_travelTime_39 : decode cX7_travelTime 39 = .ok (.aload_n 0, 1) := by decide +kernel
theorem dX7_travelTime_40 : decode cX7_travelTime 40 = .ok (.getfield 26, 3) := by decide +kernel
theorem dX7_travelTime_43 : decode cX7_travelTime 43 = .ok (.iload_n 2, 1) := by decide +kernel
theorem dX7_travelTime_44 : decode cX7_travelTime 44 = .ok (.iaload, 1) := by decide +kernel
theorem dX7_travelTime_45 : decode cX7_travelTime 45 = .ok (.aload_n 0, 1) := by decide +kernel
theorem dX7_travelTime_46 : decode cX7_travelTime 46 = .ok (.getfield 26, 3) := by decide +kernel
theorem dX7_travelTime_49 : decode cX7_travelTime 49 = .ok (.iload_n 1, 1) := by decide +kernel
theorem dX7_travelTime_50 : decode cX7_travelTime 50 = .ok (.iaload, 1) := by decide +kernel
theorem dX7_travelTime_51 : decode cX7_travelTime 51 = .ok (.isub, 1) := by decide +kernel
theorem dX7_travelTime_52 : decode cX7_travelTime 52 = .ok (.ireturn, 1) := by decide +kernel
theorem dX7_layRow_0 : decode cX7_layRow 0 = .ok (.iconst 0, 1) := by decide +kernel
theorem dX7_layRow_1 : decode cX7_layRow 1 = .ok (.istore_n 1, 1) := by decide +kernel
theorem dX7_layRow_2 : decode cX7_layRow 2 = .ok (.iconst 0, 1) := by decide +kernel
theorem dX7_layRow_3 : decode cX7_layRow 3 = .ok (.istore_n 2, 1) := by decide +kernel
theorem dX7_layRow_4 : decode cX7_layRow 4 = .ok (.iload_n 2, 1) := by decide +kernel
theorem dX7_layRow_5 : decode cX7_layRow 5 = .ok (.aload_n 0, 1) := by decide +kernel
theorem dX7_layRow_6 : decode cX7_layRow 6 = .ok (.getfield 7, 3) := by decide +kernel
theorem dX7_layRow_9 : decode cX7_layRow 9 = .ok (.iconst 0, 1) := by decide +kernel
theorem dX7_layRow_10 : decode cX7_layRow 10 = .ok (.iaload, 1) := by decide +kernel
theorem dX7_layRow_11 : decode cX7_layRow 11 = .ok (.if_icmp .gt 33, 3) := by decide +kernel
theorem dX7_layRow_14 : decode cX7_layRow 14 = .ok (.aload_n 0, 1) := by decide +kernel
theorem dX7_layRow_15 : decode cX7_layRow 15 = .ok (.getfield 7, 3) := by decide +kernel
theorem dX7_layRow_18 : decode cX7_layRow 18 = .ok (.sipush 491, 3) := by decide +kernel
theorem dX7_layRow_21 : decode cX7_layRow 21 = .ok (.iload_n 2, 1) := by decide +kernel
theorem dX7_layRow_22 : decode cX7_layRow 22 = .ok (.iadd, 1) := by decide +kernel
theorem dX7_layRow_23 : decode cX7_layRow 23 = .ok (.iaload, 1) := by decide +kernel
theorem dX7_layRow_24 : decode cX7_layRow 24 = .ok (.iconst 1, 1) := by decide +kernel
theorem dX7_layRow_25 : decode cX7_layRow 25 = .ok (.if_icmp .ne 13, 3) := by decide +kernel
theorem dX7_layRow_28 : decode cX7_layRow 28 = .ok (.aload_n 0, 1) := by decide +kernel
theorem dX7_layRow_29 : decode cX7_layRow 29 = .ok (.getfield 29, 3) := by decide +kernel
theorem dX7_layRow_32 : decode cX7_layRow 32 = .ok (.iload_n 1, 1) := by decide +kernel
theorem dX7_layRow_33 : decode cX7_layRow 33 = .ok (.iload_n 2, 1) := by decide +kernel
theorem dX7_layRow_34 : decode cX7_layRow 34 = .ok (.iastore, 1) := by decide +kernel
theorem dX7_layRow_35 : decode cX7_layRow 35 = .ok (.iinc 1 1, 3) := by decide +kernel
theorem dX7_layRow_38 : decode cX7_layRow 38 = .ok (.iinc 2 1, 3) := by decide +kernel
theorem dX7_layRow_41 : decode cX7_layRow 41 = .ok (.goto (-37), 3) := by decide +kernel
theorem dX7_layRow_44 : decode cX7_layRow 44 = .ok (.iload_n 1, 1) := by decide +kernel
theorem dX7_layRow_45 : decode cX7_layRow 45 = .ok (.ireturn, 1) := by decide +kernel
set_option maxRecDepth 20000 in
theorem ggX7_addPost_X7_isPosition : GoodIn wsX7_addPost wsX7_isPosition := goodIn_r _ [7, 1, 8, 9, 6, 10, 17, 18, 19, 20, 21, 22, 23, 24, 25, 26, 27, 28] (by decide +kernel) (by decide +kernel)
set_option maxRecDepth 20000 in
theorem gX7_addPost_X7_isPosition : GoodIn wsX7_addPost (wsV RX7 67 RX7 yX7_isPosition wsX7_isPosition) := goodIn_app (goodIn_of _ (by decide +kernel)) ggX7_addPost_X7_isPosition
set_option maxRecDepth 20000 in
theorem ggX7_addPost_X7_keep : GoodIn wsX7_addPost wsX7_keep := goodIn_r _ [14, 15, 16, 1, 17, 18, 19, 20, 21, 22, 23, 24, 25, 26, 27, 28] (by decide +kernel) (by decide +kernel)
set_option maxRecDepth 20000 in
theorem gX7_addPost_X7_keep : GoodIn wsX7_addPost (wsV RX7 56 RX7 yX7_keep wsX7_keep) := goodIn_app (goodIn_of _ (by decide +kernel)) ggX7_addPost_X7_keep
theorem dX7_addPost_0 : decode cX7_addPost 0 = .ok (.aload_n 0, 1) := by decide +kernel
theorem dX7_addPost_1 : decode cX7_addPost 1 = .ok (.aload_n 0, 1) := by decide +kernel
theorem dX7_addPost_2 : decode cX7_addPost 2 = .ok (.iload_n 1, 1) := by decide +kernel
theorem dX7_addPost_3 : decode cX7_addPost 3 = .ok (.invokevirtual 67, 3) := by decide +kernel
theorem dX7_addPost_6 : decode cX7_addPost 6 = .ok (.ifCond .ne 7, 3) := by decide +kernel
theorem dX7_addPost_9 : decode cX7_addPost 9 = .ok (.iconst 1, 1) := by decide +kernel
theorem dX7_addPost_10 : decode cX7_addPost 10 = .ok (.goto 22, 3) := by decide +kernel
theorem dX7_addPost_13 : decode cX7_addPost 13 = .ok (.aload_n 0, 1) := by decide +kernel
theorem dX7_addPost_14 : decode cX7_addPost 14 = .ok (.getfield 7, 3) := by decide +kernel
theorem dX7_addPost_17 : decode cX7_addPost 17 = .ok (.sipush 491, 3) := by decide +kernel
theorem dX7_addPost_20 : decode cX7_addPost 20 = .ok (.iload_n 1, 1) := by decide +kernel
theorem dX7_addPost_21 : decode cX7_addPost 21 = .ok (.iadd, 1) := by decide +kernel
theorem dX7_addPost_22 : decode cX7_addPost 22 = .ok (.iaload, 1) := by decide +kernel
theorem dX7_addPost_23 : decode cX7_addPost 23 = .ok (.iconst 1, 1) := by decide +kernel
theorem dX7_addPost_24 : decode cX7_addPost 24 = .ok (.if_icmp .ne 7, 3) := by decide +kernel
theorem dX7_addPost_27 : decode cX7_addPost 27 = .ok (.iconst 2, 1) := by decide +kernel
theorem dX7_addPost_28 : decode cX7_addPost 28 = .ok (.goto 4, 3) := by decide +kernel
theorem dX7_addPost_31 : decode cX7_addPost 31 = .ok (.iconst 0, 1) := by decide +kernel
theorem dX7_addPost_32 : decode cX7_addPost 32 = .ok (.putfield 41, 3) := by decide +kernel
theorem dX7_addPost_35 : decode cX7_addPost 35 = .ok (.aload_n 0, 1) := by decide +kernel
theorem dX7_addPost_36 : decode cX7_addPost 36 = .ok (.getfield 41, 3) := by decide +kernel
theorem dX7_addPost_39 : decode cX7_addPost 39 = .ok (.ifCond .eq 5, 3) := by decide +kernel
theorem dX7_addPost_42 : decode cX7_addPost 42 = .ok (.iconst 0, 1) := by decide +kernel
theorem dX7_addPost_43 : decode cX7_addPost 43 = .ok (.ireturn, 1) := by decide +kernel
theorem dX7_addPost_44 : decode cX7_addPost 44 = .ok (.aload_n 0, 1) := by decide +kernel
theorem dX7_addPost_45 : decode cX7_addPost 45 = .ok (.invokevirtual 56, 3) := by decide +kernel
theorem dX7_addPost_48 : decode cX7_addPost 48 = .ok (.iconst 0, 1) := by decide +kernel
theorem dX7_addPost_49 : decode cX7_addPost 49 = .ok (.istore_n 2, 1) := by decide +kernel
theorem dX7_addPost_50 : decode cX7_addPost 50 = .ok (.iconst 0, 1) := by decide +kernel
theorem dX7_addPost_51 : decode cX7_addPost 51 = .ok (.istore_n 3, 1) := by decide +kernel
theorem dX7_addPost_52 : decode cX7_addPost 52 = .ok (.iload_n 3, 1) := by decide +kernel
theorem dX7_addPost_53 : decode cX7_addPost 53 = .ok (.iload_n 1, 1) := by decide +kernel
theorem dX7_addPost_54 : decode cX7_addPost 54 = .ok (.if_icmp .ge 22, 3) := by decide +kernel
theorem dX7_addPost_57 : decode cX7_addPost 57 = .ok (.iload_n 2, 1) := by decide +kernel
theorem dX7_addPost_58 : decode cX7_addPost 58 = .ok (.aload_n 0, 1) := by decide +kernel
theorem dX7_addPost_59 : decode cX7_addPost 59 = .ok (.getfield 7, 3) := by decide +kernel
theorem dX7_addPost_62 : decode cX7_addPost 62 = .ok (.sipush 491, 3) := by decide +kernel
theorem dX7_addPost_65 : decode cX7_addPost 65 = .ok (.iload_n 3, 1) := by decide +kernel
theorem dX7_addPost_66 : decode cX7_addPost 66 = .ok (.iadd, 1) := by decide +kernel
theorem dX7_addPost_67 : decode cX7_addPost 67 = .ok (.iaload, 1) := by decide +kernel
theorem dX7_addPost_68 : decode cX7_addPost 68 = .ok (.iadd, 1) := by decide +kernel
theorem dX7_addPost_69 : decode cX7_addPost 69 = .ok (.istore_n 2, 1) := by decide +kernel
theorem dX7_addPost_70 : decode cX7_addPost 70 = .ok (.iinc 3 1, 3) := by decide +kernel
theorem dX7_addPost_73 : decode cX7_addPost 73 = .ok (.goto (-21), 3) := by decide +kernel
theorem dX7_addPost_76 : decode cX7_addPost 76 = .ok (.aload_n 0, 1) := by decide +kernel
theorem dX7_addPost_77 : decode cX7_addPost 77 = .ok (.getfield 7, 3) := by decide +kernel
theorem dX7_addPost_80 : decode cX7_addPost 80 = .ok (.sipush 491, 3) := by decide +kernel
theorem dX7_addPost_83 : decode cX7_addPost 83 = .ok (.iload_n 1, 1) := by decide +kernel
theorem dX7_addPost_84 : decode cX7_addPost 84 = .ok (.iadd, 1) := by decide +kernel
theorem dX7_addPost_85 : decode cX7_addPost 85 = .ok (.iconst 1, 1) := by decide +kernel
theorem dX7_addPost_86 : decode cX7_addPost 86 = .ok (.iastore, 1) := by decide +kernel
theorem dX7_addPost_87 : decode cX7_addPost 87 = .ok (.iload_n 2, 1) := by decide +kernel
theorem dX7_addPost_88 : decode cX7_addPost 88 = .ok (.ireturn, 1) := by decide +kernel
set_option maxRecDepth 20000 in
theorem ggX7_removePost_X7_isPosition : GoodIn wsX7_removePost wsX7_isPosition := goodIn_r _ [7, 1, 8, 9, 6, 10, 22, 23, 24, 25, 26, 27, 28, 29, 30, 31, 32, 33] (by decide +kernel) (by decide +kernel)
set_option maxRecDepth 20000 in
theorem gX7_removePost_X7_isPosition : GoodIn wsX7_removePost (wsV RX7 67 RX7 yX7_isPosition wsX7_isPosition) := goodIn_app (goodIn_of _ (by decide +kernel)) ggX7_removePost_X7_isPosition
set_option maxRecDepth 20000 in
theorem ggX7_removePost_X7_keep : GoodIn wsX7_removePost wsX7_keep := goodIn_r _ [14, 15, 16, 1, 22, 23, 24, 25, 26, 27, 28, 29, 30, 31, 32, 33] (by decide +kernel) (by decide +kernel)
set_option maxRecDepth 20000 in
theorem gX7_removePost_X7_keep : GoodIn wsX7_removePost (wsV RX7 56 RX7 yX7_keep wsX7_keep) := goodIn_app (goodIn_of _ (by decide +kernel)) ggX7_removePost_X7_keep
set_option maxRecDepth 20000 in
theorem ggX7_removePost_X7_layRow : GoodIn wsX7_removePost wsX7_layRow := goodIn_r _ [20, 1, 21, 22, 23, 24, 25, 26, 27, 28, 29, 30, 31, 32, 33] (by decide +kernel) (by decide +kernel)
set_option maxRecDepth 20000 in
theorem gX7_removePost_X7_layRow : GoodIn wsX7_removePost (wsV RX7 93 RX7 yX7_layRow wsX7_layRow) := goodIn_app (goodIn_of _ (by decide +kernel)) ggX7_removePost_X7_layRow
theorem dX7_removePost_0 : decode cX7_removePost 0 = .ok (.aload_n 0, 1) := by decide +kernel
theorem dX7_removePost_1 : decode cX7_removePost 1 = .ok (.aload_n 0, 1) := by decide +kernel
theorem dX7_removePost_2 : decode cX7_removePost 2 = .ok (.iload_n 1, 1) := by decide +kernel
theorem dX7_removePost_3 : decode cX7_removePost 3 = .ok (.invokevirtual 67, 3) := by decide +kernel
theorem dX7_removePost_6 : decode cX7_removePost 6 = .ok (.ifCond .ne 7, 3) := by decide +kernel
theorem dX7_removePost_9 : decode cX7_removePost 9 = .ok (.iconst 1, 1) := by decide +kernel
theorem dX7_removePost_10 : decode cX7_removePost 10 = .ok (.goto 21, 3) := by decide +kernel
theorem dX7_removePost_13 : decode cX7_removePost 13 = .ok (.aload_n 0, 1) := by decide +kernel
theorem dX7_removePost_14 : decode cX7_removePost 14 = .ok (.getfield 7, 3) := by decide +kernel
theorem dX7_removePost_17 : decode cX7_removePost 17 = .ok (.sipush 491, 3) := by decide +kernel
theorem dX7_removePost_20 : decode cX7_removePost 20 = .ok (.iload_n 1, 1) := by decide +kernel
theorem dX7_removePost_21 : decode cX7_removePost 21 = .ok (.iadd, 1) := by decide +kernel
theorem dX7_removePost_22 : decode cX7_removePost 22 = .ok (.iaload, 1) := by decide +kernel
theorem dX7_removePost_23 : decode cX7_removePost 23 = .ok (.ifCond .ne 7, 3) := by decide +kernel
theorem dX7_removePost_26 : decode cX7_removePost 26 = .ok (.iconst 2, 1) := by decide +kernel
theorem dX7_removePost_27 : decode cX7_removePost 27 = .ok (.goto 4, 3) := by decide +kernel
theorem dX7_removePost_30 : decode cX7_removePost 30 = .ok (.iconst 0, 1) := by decide +kernel
theorem dX7_removePost_31 : decode cX7_removePost 31 = .ok (.putfield 41, 3) := by decide +kernel
theorem dX7_removePost_34 : decode cX7_removePost 34 = .ok (.aload_n 0, 1) := by decide +kernel
theorem dX7_removePost_35 : decode cX7_removePost 35 = .ok (.getfield 41, 3) := by decide +kernel
theorem dX7_removePost_38 : decode cX7_removePost 38 = .ok (.ifCond .eq 5, 3) := by decide +kernel
theorem dX7_removePost_41 : decode cX7_removePost 41 = .ok (.iconst 0, 1) := by decide +kernel
theorem dX7_removePost_42 : decode cX7_removePost 42 = .ok (.ireturn, 1) := by decide +kernel
theorem dX7_removePost_43 : decode cX7_removePost 43 = .ok (.aload_n 0, 1) := by decide +kernel
theorem dX7_removePost_44 : decode cX7_removePost 44 = .ok (.invokevirtual 56, 3) := by decide +kernel
theorem dX7_removePost_47 : decode cX7_removePost 47 = .ok (.aload_n 0, 1) := by decide +kernel
theorem dX7_removePost_48 : decode cX7_removePost 48 = .ok (.getfield 7, 3) := by decide +kernel
theorem dX7_removePost_51 : decode cX7_removePost 51 = .ok (.sipush 491, 3) := by decide +kernel
theorem dX7_removePost_54 : decode cX7_removePost 54 = .ok (.iload_n 1, 1) := by decide +kernel
theorem dX7_removePost_55 : decode cX7_removePost 55 = .ok (.iadd, 1) := by decide +kernel
theorem dX7_removePost_56 : decode cX7_removePost 56 = .ok (.iconst 0, 1) := by decide +kernel
theorem dX7_removePost_57 : decode cX7_removePost 57 = .ok (.iastore, 1) := by decide +kernel
theorem dX7_removePost_58 : decode cX7_removePost 58 = .ok (.aload_n 0, 1) := by decide +kernel
theorem dX7_removePost_59 : decode cX7_removePost 59 = .ok (.invokevirtual 93, 3) := by decide +kernel
theorem dX7_removePost_62 : decode cX7_removePost 62 = .ok (.ireturn, 1) := by decide +kernel
theorem dX7_clears_0 : decode cX7_clears 0 = .ok (.iconst 0, 1) := by decide +kernel
theorem dX7_clears_1 : decode cX7_clears 1 = .ok (.istore_n 1, 1) := by decide +kernel
theorem dX7_clears_2 : decode cX7_clears 2 = .ok (.iload_n 1, 1) := by decide +kernel
theorem dX7_clears_3 : decode cX7_clears 3 = .ok (.bipush 121, 2) := by decide +kernel
theorem dX7_clears_5 : decode cX7_clears 5 = .ok (.if_icmp .ge 20, 3) := by decide +kernel
theorem dX7_clears_8 : decode cX7_clears 8 = .ok (.aload_n 0, 1) := by decide +kernel
theorem dX7_clears_9 : decode cX7_clears 9 = .ok (.getfield 7, 3) := by decide +kernel
theorem dX7_clears_12 : decode cX7_clears 12 = .ok (.sipush 491, 3) := by decide +kernel
theorem dX7_clears_15 : decode cX7_clears 15 = .ok (.iload_n 1, 1) := by decide +kernel
theorem dX7_clears_16 : decode cX7_clears 16 = .ok (.iadd, 1) := by decide +kernel
theorem dX7_clears_17 : decode cX7_clears 17 = .ok (.iconst 0, 1) := by decide +kernel
theorem dX7_clears_18 : decode cX7_clears 18 = .ok (.iastore, 1) := by decide +kernel
theorem dX7_clears_19 : decode cX7_clears 19 = .ok (.iinc 1 1, 3) := by decide +kernel
theorem dX7_clears_22 : decode cX7_clears 22 = .ok (.goto (-20), 3) := by decide +kernel
theorem dX7_clears_25 : decode cX7_clears 25 = .ok (.return_, 1) := by decide +kernel
set_option maxRecDepth 20000 in
theorem ggX7_clearPosts_X7_keep : GoodIn wsX7_clearPosts wsX7_keep := goodIn_r _ [6, 7, 8, 9, 19, 20, 21, 22, 23, 24, 25, 26, 27, 28, 29, 30] (by decide +kernel) (by decide +kernel)
set_option maxRecDepth 20000 in
theorem gX7_clearPosts_X7_keep : GoodIn wsX7_clearPosts (wsV RX7 56 RX7 yX7_keep wsX7_keep) := goodIn_app (goodIn_of _ (by decide +kernel)) ggX7_clearPosts_X7_keep
set_option maxRecDepth 20000 in
theorem ggX7_clearPosts_X7_layRow : GoodIn wsX7_clearPosts wsX7_layRow := goodIn_r _ [13, 9, 14, 19, 20, 21, 22, 23, 24, 25, 26, 27, 28, 29, 30] (by decide +kernel) (by decide +kernel)
set_option maxRecDepth 20000 in
theorem gX7_clearPosts_X7_layRow : GoodIn wsX7_clearPosts (wsV RX7 93 RX7 yX7_layRow wsX7_layRow) := goodIn_app (goodIn_of _ (by decide +kernel)) ggX7_clearPosts_X7_layRow
set_option maxRecDepth 20000 in
theorem ggX7_clearPosts_X7_clears : GoodIn wsX7_clearPosts wsX7_clears := goodIn_r _ [18, 9, 19, 20, 21, 22, 23, 24, 25, 26, 27, 28, 29, 30] (by decide +kernel) (by decide +kernel)
set_option maxRecDepth 20000 in
theorem gX7_clearPosts_X7_clears : GoodIn wsX7_clearPosts (wsV RX7 97 RX7 yX7_clears wsX7_clears) := goodIn_app (goodIn_of _ (by decide +kernel)) ggX7_clearPosts_X7_clears
theorem dX7_clearPosts_0 : decode cX7_clearPosts 0 = .ok (.aload_n 0, 1) := by decide +kernel
theorem dX7_clearPosts_1 : decode cX7_clearPosts 1 = .ok (.iconst 0, 1) := by decide +kernel
theorem dX7_clearPosts_2 : decode cX7_clearPosts 2 = .ok (.putfield 41, 3) := by decide +kernel
theorem dX7_clearPosts_5 : decode cX7_clearPosts 5 = .ok (.aload_n 0, 1) := by decide +kernel
theorem dX7_clearPosts_6 : decode cX7_clearPosts 6 = .ok (.invokevirtual 56, 3) := by decide +kernel
theorem dX7_clearPosts_9 : decode cX7_clearPosts 9 = .ok (.aload_n 0, 1) := by decide +kernel
theorem dX7_clearPosts_10 : decode cX7_clearPosts 10 = .ok (.invokevirtual 93, 3) := by decide +kernel
theorem dX7_clearPosts_13 : decode cX7_clearPosts 13 = .ok (.istore_n 1, 1) := by decide +kernel
theorem dX7_clearPosts_14 : decode cX7_clearPosts 14 = .ok (.aload_n 0, 1) := by decide +kernel
theorem dX7_clearPosts_15 : decode cX7_clearPosts 15 = .ok (.invokevirtual 97, 3) := by decide +kernel
theorem dX7_clearPosts_18 : decode cX7_clearPosts 18 = .ok (.iload_n 1, 1) := by decide +kernel
theorem dX7_clearPosts_19 : decode cX7_clearPosts 19 = .ok (.ireturn, 1) := by decide +kernel
set_option maxRecDepth 20000 in
theorem ggX7_posts_X7_layRow : GoodIn wsX7_posts wsX7_layRow := goodIn_r _ [6, 7, 8, 9, 10, 11, 12, 13, 14, 15, 16, 17, 18, 19, 20] (by decide +kernel) (by decide +kernel)
set_option maxRecDepth 20000 in
theorem gX7_posts_X7_layRow : GoodIn wsX7_posts (wsV RX7 93 RX7 yX7_layRow wsX7_layRow) := goodIn_app (goodIn_of _ (by decide +kernel)) ggX7_posts_X7_layRow
theorem dX7_posts_0 : decode cX7_posts 0 = .ok (.aload_n 0, 1) := by decide +kernel
theorem dX7_posts_1 : decode cX7_posts 1 = .ok (.iconst 0, 1) := by decide +kernel
theorem dX7_posts_2 : decode cX7_posts 2 = .ok (.putfield 41, 3) := by decide +kernel
theorem dX7_posts_5 : decode cX7_posts 5 = .ok (.aload_n 0, 1) := by decide +kernel
theorem dX7_posts_6 : decode cX7_posts 6 = .ok (.invokevirtual 93, 3) := by decide +kernel
theorem dX7_posts_9 : decode cX7_posts 9 = .ok (.ireturn, 1) := by decide +kernel
set_option maxRecDepth 20000 in
theorem ggX7_post_X7_layRow : GoodIn wsX7_post wsX7_layRow := goodIn_r _ [6, 7, 1, 16, 17, 18, 19, 20, 21, 22, 23, 24, 25, 26, 27] (by decide +kernel) (by decide +kernel)
set_option maxRecDepth 20000 in
theorem gX7_post_X7_layRow : GoodIn wsX7_post (wsV RX7 93 RX7 yX7_layRow wsX7_layRow) := goodIn_app (goodIn_of _ (by decide +kernel)) ggX7_post_X7_layRow
set_option maxRecDepth 20000 in
theorem ggX7_post_X7_in : GoodIn wsX7_post wsX7_in := goodIn_r _ [10] (by decide +kernel) (by decide +kernel)
set_option maxRecDepth 20000 in
theorem gX7_post_X7_in : GoodIn wsX7_post (va_wsS RX7 48 yX7_in wsX7_in) := goodIn_app (goodIn_of _ (by decide +kernel)) ggX7_post_X7_in
set_option maxRecDepth 20000 in
theorem ggX7_post_X7_refuses : GoodIn wsX7_post wsX7_refuses := goodIn_r _ [14, 15, 16, 17, 18, 19, 20, 21, 22, 23, 24, 25, 26, 27] (by decide +kernel) (by decide +kernel)
set_option maxRecDepth 20000 in
theorem gX7_post_X7_refuses : GoodIn wsX7_post (wsV RX7 52 RX7 yX7_refuses wsX7_refuses) := goodIn_app (goodIn_of _ (by decide +kernel)) ggX7_post_X7_refuses
theorem dX7_post_0 : decode cX7_post 0 = .ok (.aload_n 0, 1) := by decide +kernel
theorem dX7_post_1 : decode cX7_post 1 = .ok (.invokevirtual 93, 3) := by decide +kernel
theorem dX7_post_4 : decode cX7_post 4 = .ok (.istore_n 2, 1) := by decide +kernel
theorem dX7_post_5 : decode cX7_post 5 = .ok (.aload_n 0, 1) := by decide +kernel
theorem dX7_post_6 : decode cX7_post 6 = .ok (.iload_n 1, 1) := by decide +kernel
theorem dX7_post_7 : decode cX7_post 7 = .ok (.iconst 0, 1) := by decide +kernel
theorem dX7_post_8 : decode cX7_post 8 = .ok (.iload_n 2, 1) := by decide +kernel
theorem dX7_post_9 : decode cX7_post 9 = .ok (.iconst 1, 1) := by decide +kernel
theorem dX7_post_10 : decode cX7_post 10 = .ok (.isub, 1) := by decide +kernel
theorem dX7_post_11 : decode cX7_post 11 = .ok (.invokestatic 48, 3) := by decide +kernel
theorem dX7_post_14 : decode cX7_post 14 = .ok (.invokevirtual 52, 3) := by decide +kernel
theorem dX7_post_17 : decode cX7_post 17 = .ok (.ifCond .eq 7, 3) := by decide +kernel
theorem dX7_post_20 : decode cX7_post 20 = .ok (.iconst 0, 1) := by decide +kernel
theorem dX7_post_21 : decode cX7_post 21 = .ok (.goto 9, 3) := by decide +kernel
theorem dX7_post_24 : decode cX7_post 24 = .ok (.aload_n 0, 1) := by decide +kernel
theorem dX7_post_25 : decode cX7_post 25 = .ok (.getfield 29, 3) := by decide +kernel
theorem dX7_post_28 : decode cX7_post 28 = .ok (.iload_n 1, 1) := by decide +kernel
theorem dX7_post_29 : decode cX7_post 29 = .ok (.iaload, 1) := by decide +kernel
theorem dX7_post_30 : decode cX7_post 30 = .ok (.ireturn, 1) := by decide +kernel
theorem dX7_isWanted_0 : decode cX7_isWanted 0 = .ok (.iload_n 1, 1) := by decide +kernel
theorem dX7_isWanted_1 : decode cX7_isWanted 1 = .ok (.ifCond .eq 27, 3) := by decide +kernel
theorem dX7_isWanted_4 : decode cX7_isWanted 4 = .ok (.iload_n 1, 1) := by decide +kernel
theorem dX7_isWanted_5 : decode cX7_isWanted 5 = .ok (.aload_n 0, 1) := by decide +kernel
theorem dX7_isWanted_6 : decode cX7_isWanted 6 = .ok (.getfield 7, 3) := by decide +kernel
theorem dX7_isWanted_9 : decode cX7_isWanted 9 = .ok (.iconst 0, 1) := by decide +kernel
theorem dX7_isWanted_10 : decode cX7_isWanted 10 = .ok (.iaload, 1) := by decide +kernel
theorem dX7_isWanted_11 : decode cX7_isWanted 11 = .ok (.if_icmp .eq 17, 3) := by decide +kernel
theorem dX7_isWanted_14 : decode cX7_isWanted 14 = .ok (.aload_n 0, 1) := by decide +kernel
theorem dX7_isWanted_15 : decode cX7_isWanted 15 = .ok (.getfield 7, 3) := by decide +kernel
theorem dX7_isWanted_18 : decode cX7_isWanted 18 = .ok (.sipush 370, 3) := by decide +kernel
theorem dX7_isWanted_21 : decode cX7_isWanted 21 = .ok (.iload_n 1, 1) := by decide +kernel
theorem dX7_isWanted_22 : decode cX7_isWanted 22 = .ok (.iadd, 1) := by decide +kernel
theorem dX7_isWanted_23 : decode cX7_isWanted 23 = .ok (.iaload, 1) := by decide +kernel
theorem dX7_isWanted_24 : decode cX7_isWanted 24 = .ok (.iconst 1, 1) := by decide +kernel
theorem dX7_isWanted_25 : decode cX7_isWanted 25 = .ok (.if_icmp .ne 7, 3) := by decide +kernel
theorem dX7_isWanted_28 : decode cX7_isWanted 28 = .ok (.iconst 1, 1) := by decide +kernel
theorem dX7_isWanted_29 : decode cX7_isWanted 29 = .ok (.goto 4, 3) := by decide +kernel
theorem dX7_isWanted_32 : decode cX7_isWanted 32 = .ok (.iconst 0, 1) := by decide +kernel
theorem dX7_isWanted_33 : decode cX7_isWanted 33 = .ok (.ireturn, 1) := by decide +kernel
theorem dX7_isSeenLate_0 : decode cX7_isSeenLate 0 = .ok (.iload_n 1, 1) := by decide +kernel
theorem dX7_isSeenLate_1 : decode cX7_isSeenLate 1 = .ok (.aload_n 0, 1) := by decide +kernel
theorem dX7_isSeenLate_2 : decode cX7_isSeenLate 2 = .ok (.getfield 7, 3) := by decide +kernel
theorem dX7_isSeenLate_5 : decode cX7_isSeenLate 5 = .ok (.bipush 7, 2) := by decide +kernel
theorem dX7_isSeenLate_7 : decode cX7_isSeenLate 7 = .ok (.iaload, 1) := by decide +kernel
theorem dX7_isSeenLate_8 : decode cX7_isSeenLate 8 = .ok (.if_icmp .ge 7, 3) := by decide +kernel
theorem dX7_isSeenLate_11 : decode cX7_isSeenLate 11 = .ok (.iconst 0, 1) := by decide +kernel
theorem dX7_isSeenLate_12 : decode cX7_isSeenLate 12 = .ok (.goto 12, 3) := by decide +kernel
theorem dX7_isSeenLate_15 : decode cX7_isSeenLate 15 = .ok (.iload_n 1, 1) := by decide +kernel
theorem dX7_isSeenLate_16 : decode cX7_isSeenLate 16 = .ok (.aload_n 0, 1) := by decide +kernel
theorem dX7_isSeenLate_17 : decode cX7_isSeenLate 17 = .ok (.getfield 7, 3) := by decide +kernel
theorem dX7_isSeenLate_20 : decode cX7_isSeenLate 20 = .ok (.bipush 7, 2) := by decide +kernel
theorem dX7_isSeenLate_22 : decode cX7_isSeenLate 22 = .ok (.iaload, 1) := by decide +kernel
theorem dX7_isSeenLate_23 : decode cX7_isSeenLate 23 = .ok (.isub, 1) := by decide +kernel
theorem dX7_isSeenLate_24 : decode cX7_isSeenLate 24 = .ok (.istore_n 2, 1) := by decide +kernel
theorem dX7_isSeenLate_25 : decode cX7_isSeenLate 25 = .ok (.aload_n 0, 1) := by decide +kernel
theorem dX7_isSeenLate_26 : decode cX7_isSeenLate 26 = .ok (.getfield 23, 3) := by decide +kernel
theorem dX7_isSeenLate_29 : decode cX7_isSeenLate 29 = .ok (.iload_n 2, 1) := by decide +kernel
theorem dX7_isSeenLate_30 : decode cX7_isSeenLate 30 = .ok (.iaload, 1) := by decide +kernel
theorem dX7_isSeenLate_31 : decode cX7_isSeenLate 31 = .ok (.iload_n 1, 1) := by decide +kernel
theorem dX7_isSeenLate_32 : decode cX7_isSeenLate 32 = .ok (.iload_n 2, 1) := by decide +kernel
theorem dX7_isSeenLate_33 : decode cX7_isSeenLate 33 = .ok (.isub, 1) := by decide +kernel
theorem dX7_isSeenLate_34 : decode cX7_isSeenLate 34 = .ok (.if_icmp .le 7, 3) := by decide +kernel
theorem dX7_isSeenLate_37 : decode cX7_isSeenLate 37 = .ok (.iconst 1, 1) := by decide +kernel
theorem dX7_isSeenLate_38 : decode cX7_isSeenLate 38 = .ok (.goto 4, 3) := by decide +kernel
theorem dX7_isSeenLate_41 : decode cX7_isSeenLate 41 = .ok (.iconst 0, 1) := by decide +kernel
theorem dX7_isSeenLate_42 : decode cX7_isSeenLate 42 = .ok (.ireturn, 1) := by decide +kernel
set_option maxRecDepth 20000 in
theorem ggX7_isTooNear_X7_isSeenLate : GoodIn wsX7_isTooNear wsX7_isSeenLate := goodIn_r _ [8, 2, 3, 9, 10, 11, 12, 13, 14, 15, 16, 17, 18, 19, 20] (by decide +kernel) (by decide +kernel)
set_option maxRecDepth 20000 in
theorem gX7_isTooNear_X7_isSeenLate : GoodIn wsX7_isTooNear (wsV RX7 100 RX7 yX7_isSeenLate wsX7_isSeenLate) := goodIn_app (goodIn_of _ (by decide +kernel)) ggX7_isTooNear_X7_isSeenLate
theorem dX7_isTooNear_0 : decode cX7_isTooNear 0 = .ok (.aload_n 0, 1) := by decide +kernel
theorem dX7_isTooNear_1 : decode cX7_isTooNear 1 = .ok (.getfield 29, 3) := by decide +kernel
theorem dX7_isTooNear_4 : decode cX7_isTooNear 4 = .ok (.iload_n 1, 1) := by decide +kernel
theorem dX7_isTooNear_5 : decode cX7_isTooNear 5 = .ok (.iaload, 1) := by decide +kernel
theorem dX7_isTooNear_6 : decode cX7_isTooNear 6 = .ok (.istore_n 3, 1) := by decide +kernel
theorem dX7_isTooNear_7 : decode cX7_isTooNear 7 = .ok (.aload_n 0, 1) := by decide +kernel
theorem dX7_isTooNear_8 : decode cX7_isTooNear 8 = .ok (.getfield 7, 3) := by decide +kernel
theorem dX7_isTooNear_11 : decode cX7_isTooNear 11 = .ok (.iconst 4, 1) := by decide +kernel
theorem dX7_isTooNear_12 : decode cX7_isTooNear 12 = .ok (.iaload, 1) := by decide +kernel
theorem dX7_isTooNear_13 : decode cX7_isTooNear 13 = .ok (.iconst 2, 1) := by decide +kernel
theorem dX7_isTooNear_14 : decode cX7_isTooNear 14 = .ok (.if_icmp .ne 21, 3) := by decide +kernel
theorem dX7_isTooNear_17 : decode cX7_isTooNear 17 = .ok (.iload_n 1, 1) := by decide +kernel
theorem dX7_isTooNear_18 : decode cX7_isTooNear 18 = .ok (.ifCond .le 15, 3) := by decide +kernel
theorem dX7_isTooNear_21 : decode cX7_isTooNear 21 = .ok (.aload_n 0, 1) := by decide +kernel
theorem dX7_isTooNear_22 : decode cX7_isTooNear 22 = .ok (.iload_n 3, 1) := by decide +kernel
theorem dX7_isTooNear_23 : decode cX7_isTooNear 23 = .ok (.invokevirtual 100, 3) := by decide +kernel
theorem dX7_isTooNear_26 : decode cX7_isTooNear 26 = .ok (.ifCond .eq 7, 3) := by decide +kernel
theorem dX7_isTooNear_29 : decode cX7_isTooNear 29 = .ok (.iconst 1, 1) := by decide +kernel
theorem dX7_isTooNear_30 : decode cX7_isTooNear 30 = .ok (.goto 4, 3) := by decide +kernel
theorem dX7_isTooNear_33 : decode cX7_isTooNear 33 = .ok (.iconst 0, 1) := by decide +kernel
theorem dX7_isTooNear_34 : decode cX7_isTooNear 34 = .ok (.ireturn, 1) := by decide +kernel
theorem dX7_isTooNear_35 : decode cX7_isTooNear 35 = .ok (.iload_n 1, 1) := by decide +kernel
theorem dX7_isTooNear_36 : decode cX7_isTooNear 36 = .ok (.aload_n 0, 1) := by decide +kernel
theorem dX7_isTooNear_37 : decode cX7_isTooNear 37 = .ok (.getfield 7, 3) := by decide +kernel
theorem dX7_isTooNear_40 : decode cX7_isTooNear 40 = .ok (.iconst 4, 1) := by decide +kernel
theorem dX7_isTooNear_41 : decode cX7_isTooNear 41 = .ok (.iaload, 1) := by decide +kernel
theorem dX7_isTooNear_42 : decode cX7_isTooNear 42 = .ok (.iadd, 1) := by decide +kernel
theorem dX7_isTooNear_43 : decode cX7_isTooNear 43 = .ok (.iconst 2, 1) := by decide +kernel
theorem dX7_isTooNear_44 : decode cX7_isTooNear 44 = .ok (.isub, 1) := by decide +kernel
theorem dX7_isTooNear_45 : decode cX7_isTooNear 45 = .ok (.istore 4, 2) := by decide +kernel
theorem dX7_isTooNear_47 : decode cX7_isTooNear 47 = .ok (.iload 4, 2) := by decide +kernel
theorem dX7_isTooNear_49 : decode cX7_isTooNear 49 = .ok (.iload_n 2, 1) := by decide +kernel
theorem dX7_isTooNear_50 : decode cX7_isTooNear 50 = .ok (.if_icmp .ge 25, 3) := by decide +kernel
theorem dX7_isTooNear_53 : decode cX7_isTooNear 53 = .ok (.aload_n 0, 1) := by decide +kernel
theorem dX7_isTooNear_54 : decode cX7_isTooNear 54 = .ok (.getfield 29, 3) := by decide +kernel
theorem dX7_isTooNear_57 : decode cX7_isTooNear 57 = .ok (.iload 4, 2) := by decide +kernel
theorem dX7_isTooNear_59 : decode cX7_isTooNear 59 = .ok (.iaload, 1) := by decide +kernel
theorem dX7_isTooNear_60 : decode cX7_isTooNear 60 = .ok (.iload_n 3, 1) := by decide +kernel
theorem dX7_isTooNear_61 : decode cX7_isTooNear 61 = .ok (.isub, 1) := by decide +kernel
theorem dX7_isTooNear_62 : decode cX7_isTooNear 62 = .ok (.aload_n 0, 1) := by decide +kernel
theorem dX7_isTooNear_63 : decode cX7_isTooNear 63 = .ok (.getfield 23, 3) := by decide +kernel
theorem dX7_isTooNear_66 : decode cX7_isTooNear 66 = .ok (.iload_n 3, 1) := by decide +kernel
theorem dX7_isTooNear_67 : decode cX7_isTooNear 67 = .ok (.iaload, 1) := by decide +kernel
theorem dX7_isTooNear_68 : decode cX7_isTooNear 68 = .ok (.if_icmp .ge 7, 3) := by decide +kernel
theorem dX7_isTooNear_71 : decode cX7_isTooNear 71 = .ok (.iconst 1, 1) := by decide +kernel
theorem dX7_isTooNear_72 : decode cX7_isTooNear 72 = .ok (.goto 4, 3) := by decide +kernel
theorem dX7_isTooNear_75 : decode cX7_isTooNear 75 = .ok (.iconst 0, 1) := by decide +kernel
theorem dX7_isTooNear_76 : decode cX7_isTooNear 76 = .ok (.ireturn, 1) := by decide +kernel
set_option maxRecDepth 20000 in
theorem ggX7_isViolated_X7_isWanted : GoodIn wsX7_isViolated wsX7_isWanted := goodIn_r _ [7, 1, 17, 18, 19, 20, 21, 22, 23, 24, 25, 26, 27, 28] (by decide +kernel) (by decide +kernel)
set_option maxRecDepth 20000 in
theorem gX7_isViolated_X7_isWanted : GoodIn wsX7_isViolated (wsV RX7 103 RX7 yX7_isWanted wsX7_isWanted) := goodIn_app (goodIn_of _ (by decide +kernel)) ggX7_isViolated_X7_isWanted
set_option maxRecDepth 20000 in
theorem ggX7_isViolated_X7_isTooNear : GoodIn wsX7_isViolated wsX7_isTooNear := goodIn_r _ [11, 2, 1, 12, 13, 14, 15, 6, 16, 17, 18, 19, 20, 21, 22, 23, 24, 25, 26, 27, 28] (by decide +kernel) (by decide +kernel)
set_option maxRecDepth 20000 in
theorem gX7_isViolated_X7_isTooNear : GoodIn wsX7_isViolated (wsV RX7 106 RX7 yX7_isTooNear wsX7_isTooNear) := goodIn_app (goodIn_of _ (by decide +kernel)) ggX7_isViolated_X7_isTooNear
theorem dX7_isViolated_0 : decode cX7_isViolated 0 = .ok (.aload_n 0, 1) := by decide +kernel
theorem dX7_isViolated_1 : decode cX7_isViolated 1 = .ok (.getfield 7, 3) := by decide +kernel
theorem dX7_isViolated_4 : decode cX7_isViolated 4 = .ok (.sipush 491, 3) := by decide +kernel
theorem dX7_isViolated_7 : decode cX7_isViolated 7 = .ok (.iload_n 2, 1) := by decide +kernel
theorem dX7_isViolated_8 : decode cX7_isViolated 8 = .ok (.iadd, 1) := by decide +kernel
theorem dX7_isViolated_9 : decode cX7_isViolated 9 = .ok (.iaload, 1) := by decide +kernel
theorem dX7_isViolated_10 : decode cX7_isViolated 10 = .ok (.iconst 1, 1) := by decide +kernel
theorem dX7_isViolated_11 : decode cX7_isViolated 11 = .ok (.if_icmp .ne 7, 3) := by decide +kernel
theorem dX7_isViolated_14 : decode cX7_isViolated 14 = .ok (.iconst 1, 1) := by decide +kernel
theorem dX7_isViolated_15 : decode cX7_isViolated 15 = .ok (.goto 4, 3) := by decide +kernel
theorem dX7_isViolated_18 : decode cX7_isViolated 18 = .ok (.iconst 0, 1) := by decide +kernel
theorem dX7_isViolated_19 : decode cX7_isViolated 19 = .ok (.istore 5, 2) := by decide +kernel
theorem dX7_isViolated_21 : decode cX7_isViolated 21 = .ok (.iload_n 1, 1) := by decide +kernel
theorem dX7_isViolated_22 : decode cX7_isViolated 22 = .ok (.tableswitch 143 1 4 #[30, 55, 74, 108], 30) := by decide +kernel
theorem dX7_isViolated_52 : decode cX7_isViolated 52 = .ok (.iload 5, 2) := by decide +kernel
theorem dX7_isViolated_54 : decode cX7_isViolated 54 = .ok (.ifCond .eq 21, 3) := by decide +kernel
theorem dX7_isViolated_57 : decode cX7_isViolated 57 = .ok (.aload_n 0, 1) := by decide +kernel
theorem dX7_isViolated_58 : decode cX7_isViolated 58 = .ok (.getfield 7, 3) := by decide +kernel
theorem dX7_isViolated_61 : decode cX7_isViolated 61 = .ok (.sipush 249, 3) := by decide +kernel
theorem dX7_isViolated_64 : decode cX7_isViolated 64 = .ok (.iload_n 2, 1) := by decide +kernel
theorem dX7_isViolated_65 : decode cX7_isViolated 65 = .ok (.iadd, 1) := by decide +kernel
theorem dX7_isViolated_66 : decode cX7_isViolated 66 = .ok (.iaload, 1) := by decide +kernel
theorem dX7_isViolated_67 : decode cX7_isViolated 67 = .ok (.iconst 1, 1) := by decide +kernel
theorem dX7_isViolated_68 : decode cX7_isViolated 68 = .ok (.if_icmp .ne 7, 3) := by decide +kernel
theorem dX7_isViolated_71 : decode cX7_isViolated 71 = .ok (.iconst 1, 1) := by decide +kernel
theorem dX7_isViolated_72 : decode cX7_isViolated 72 = .ok (.goto 4, 3) := by decide +kernel
theorem dX7_isViolated_75 : decode cX7_isViolated 75 = .ok (.iconst 0, 1) := by decide +kernel
theorem dX7_isViolated_76 : decode cX7_isViolated 76 = .ok (.ireturn, 1) := by decide +kernel
theorem dX7_isViolated_77 : decode cX7_isViolated 77 = .ok (.iload 5, 2) := by decide +kernel
theorem dX7_isViolated_79 : decode cX7_isViolated 79 = .ok (.ifCond .ne 15, 3) := by decide +kernel
theorem dX7_isViolated_82 : decode cX7_isViolated 82 = .ok (.aload_n 0, 1) := by decide +kernel
theorem dX7_isViolated_83 : decode cX7_isViolated 83 = .ok (.iload_n 2, 1) := by decide +kernel
theorem dX7_isViolated_84 : decode cX7_isViolated 84 = .ok (.invokevirtual 103, 3) := by decide +kernel
theorem dX7_isViolated_87 : decode cX7_isViolated 87 = .ok (.ifCond .eq 7, 3) := by decide +kernel
theorem dX7_isViolated_90 : decode cX7_isViolated 90 = .ok (.iconst 1, 1) := by decide +kernel
theorem dX7_isViolated_91 : decode cX7_isViolated 91 = .ok (.goto 4, 3) := by decide +kernel
theorem dX7_isViolated_94 : decode cX7_isViolated 94 = .ok (.iconst 0, 1) := by decide +kernel
theorem dX7_isViolated_95 : decode cX7_isViolated 95 = .ok (.ireturn, 1) := by decide +kernel
theorem dX7_isViolated_96 : decode cX7_isViolated 96 = .ok (.iload 5, 2) := by decide +kernel
theorem dX7_isViolated_98 : decode cX7_isViolated 98 = .ok (.ifCond .eq 30, 3) := by decide +kernel
theorem dX7_isViolated_101 : decode cX7_isViolated 101 = .ok (.iload_n 3, 1) := by decide +kernel
theorem dX7_isViolated_102 : decode cX7_isViolated 102 = .ok (.ifCond .le 26, 3) := by decide +kernel
theorem dX7_isViolated_105 : decode cX7_isViolated 105 = .ok (.iload_n 2, 1) := by decide +kernel
theorem dX7_isViolated_106 : decode cX7_isViolated 106 = .ok (.aload_n 0, 1) := by decide +kernel
theorem dX7_isViolated_107 : decode cX7_isViolated 107 = .ok (.getfield 29, 3) := by decide +kernel
theorem dX7_isViolated_110 : decode cX7_isViolated 110 = .ok (.iload_n 3, 1) := by decide +kernel
theorem dX7_isViolated_111 : decode cX7_isViolated 111 = .ok (.iconst 1, 1) := by decide +kernel
theorem dX7_isViolated_112 : decode cX7_isViolated 112 = .ok (.isub, 1) := by decide +kernel
theorem dX7_isViolated_113 : decode cX7_isViolated 113 = .ok (.iaload, 1) := by decide +kernel
theorem dX7_isViolated_114 : decode cX7_isViolated 114 = .ok (.isub, 1) := by decide +kernel
theorem dX7_isViolated_115 : decode cX7_isViolated 115 = .ok (.aload_n 0, 1) := by decide +kernel
theorem dX7_isViolated_116 : decode cX7_isViolated 116 = .ok (.getfield 7, 3) := by decide +kernel
theorem dX7_isViolated_119 : decode cX7_isViolated 119 = .ok (.iconst 5, 1) := by decide +kernel
theorem dX7_isViolated_120 : decode cX7_isViolated 120 = .ok (.iaload, 1) := by decide +kernel
theorem dX7_isViolated_121 : decode cX7_isViolated 121 = .ok (.if_icmp .ge 7, 3) := by decide +kernel
theorem dX7_isViolated_124 : decode cX7_isViolated 124 = .ok (.iconst 1, 1) := by decide +kernel
theorem dX7_isViolated_125 : decode cX7_isViolated 125 = .ok (.goto 4, 3) := by decide +kernel
theorem dX7_isViolated_128 : decode cX7_isViolated 128 = .ok (.iconst 0, 1) := by decide +kernel
theorem dX7_isViolated_129 : decode cX7_isViolated 129 = .ok (.ireturn, 1) := by decide +kernel
theorem dX7_isViolated_130 : decode cX7_isViolated 130 = .ok (.iload 5, 2) := by decide +kernel
theorem dX7_isViolated_132 : decode cX7_isViolated 132 = .ok (.ifCond .eq 31, 3) := by decide +kernel
theorem dX7_isViolated_135 : decode cX7_isViolated 135 = .ok (.iload_n 3, 1) := by decide +kernel
theorem dX7_isViolated_136 : decode cX7_isViolated 136 = .ok (.ifCond .le 27, 3) := by decide +kernel
theorem dX7_isViolated_139 : decode cX7_isViolated 139 = .ok (.iload_n 2, 1) := by decide +kernel
theorem dX7_isViolated_140 : decode cX7_isViolated 140 = .ok (.aload_n 0, 1) := by decide +kernel
theorem dX7_isViolated_141 : decode cX7_isViolated 141 = .ok (.getfield 29, 3) := by decide +kernel
theorem dX7_isViolated_144 : decode cX7_isViolated 144 = .ok (.iload_n 3, 1) := by decide +kernel
theorem dX7_isViolated_145 : decode cX7_isViolated 145 = .ok (.iconst 1, 1) := by decide +kernel
theorem dX7_isViolated_146 : decode cX7_isViolated 146 = .ok (.isub, 1) := by decide +kernel
theorem dX7_isViolated_147 : decode cX7_isViolated 147 = .ok (.iaload, 1) := by decide +kernel
theorem dX7_isViolated_148 : decode cX7_isViolated 148 = .ok (.isub, 1) := by decide +kernel
theorem dX7_isViolated_149 : decode cX7_isViolated 149 = .ok (.aload_n 0, 1) := by decide +kernel
theorem dX7_isViolated_150 : decode cX7_isViolated 150 = .ok (.getfield 7, 3) := by decide +kernel
theorem dX7_isViolated_153 : decode cX7_isViolated 153 = .ok (.bipush 6, 2) := by decide +kernel
theorem dX7_isViolated_155 : decode cX7_isViolated 155 = .ok (.iaload, 1) := by decide +kernel
theorem dX7_isViolated_156 : decode cX7_isViolated 156 = .ok (.if_icmp .le 7, 3) := by decide +kernel
theorem dX7_isViolated_159 : decode cX7_isViolated 159 = .ok (.iconst 1, 1) := by decide +kernel
theorem dX7_isViolated_160 : decode cX7_isViolated 160 = .ok (.goto 4, 3) := by decide +kernel
theorem dX7_isViolated_163 : decode cX7_isViolated 163 = .ok (.iconst 0, 1) := by decide +kernel
theorem dX7_isViolated_164 : decode cX7_isViolated 164 = .ok (.ireturn, 1) := by decide +kernel
theorem dX7_isViolated_165 : decode cX7_isViolated 165 = .ok (.iload 5, 2) := by decide +kernel
theorem dX7_isViolated_167 : decode cX7_isViolated 167 = .ok (.ifCond .eq 17, 3) := by decide +kernel
theorem dX7_isViolated_170 : decode cX7_isViolated 170 = .ok (.aload_n 0, 1) := by decide +kernel
theorem dX7_isViolated_171 : decode cX7_isViolated 171 = .ok (.iload_n 3, 1) := by decide +kernel
theorem dX7_isViolated_172 : decode cX7_isViolated 172 = .ok (.iload 4, 2) := by decide +kernel
theorem dX7_isViolated_174 : decode cX7_isViolated 174 = .ok (.invokevirtual 106, 3) := by decide +kernel
theorem dX7_isViolated_177 : decode cX7_isViolated 177 = .ok (.ifCond .eq 7, 3) := by decide +kernel
theorem dX7_isViolated_180 : decode cX7_isViolated 180 = .ok (.iconst 1, 1) := by decide +kernel
theorem dX7_isViolated_181 : decode cX7_isViolated 181 = .ok (.goto 4, 3) := by decide +kernel
theorem dX7_isViolated_184 : decode cX7_isViolated 184 = .ok (.iconst 0, 1) := by decide +kernel
theorem dX7_isViolated_185 : decode cX7_isViolated 185 = .ok (.ireturn, 1) := by decide +kernel
set_option maxRecDepth 20000 in
theorem ggX7_findViolations_X7_lays : GoodIn wsX7_findViolations wsX7_lays := goodIn_r _ [7, 1, 8, 9, 10, 11, 12, 13, 14, 15, 6, 16, 17, 18, 19, 20, 21, 22, 23, 24, 25, 26, 27, 28, 29, 51, 52, 53, 54, 55, 56, 57, 58, 59, 60, 61, 62] (by decide +kernel) (by decide +kernel)
set_option maxRecDepth 20000 in
theorem gX7_findViolations_X7_lays : GoodIn wsX7_findViolations (wsV RX7 90 RX7 yX7_lays wsX7_lays) := goodIn_app (goodIn_of _ (by decide +kernel)) ggX7_findViolations_X7_lays
set_option maxRecDepth 20000 in
theorem ggX7_findViolations_X7_layRow : GoodIn wsX7_findViolations wsX7_layRow := goodIn_r _ [33, 1, 34, 51, 52, 53, 54, 55, 56, 57, 58, 59, 60, 61, 62] (by decide +kernel) (by decide +kernel)
set_option maxRecDepth 20000 in
theorem gX7_findViolations_X7_layRow : GoodIn wsX7_findViolations (wsV RX7 93 RX7 yX7_layRow wsX7_layRow) := goodIn_app (goodIn_of _ (by decide +kernel)) ggX7_findViolations_X7_layRow
set_option maxRecDepth 20000 in
theorem ggX7_findViolations_X7_isViolated : GoodIn wsX7_findViolations wsX7_isViolated := goodIn_r _ [38, 1, 34, 39, 40, 41, 6, 42, 43, 44, 45, 46, 10, 47, 48, 49, 50, 51, 52, 53, 54, 55, 56, 57, 58, 59, 60, 61, 62] (by decide +kernel) (by decide +kernel)
set_option maxRecDepth 20000 in
theorem gX7_findViolations_X7_isViolated : GoodIn wsX7_findViolations (wsV RX7 110 RX7 yX7_isViolated wsX7_isViolated) := goodIn_app (goodIn_of _ (by decide +kernel)) ggX7_findViolations_X7_isViolated
theorem dX7_findViolations_0 : decode cX7_findViolations 0 = .ok (.aload_n 0, 1) := by decide +kernel
theorem dX7_findViolations_1 : decode cX7_findViolations 1 = .ok (.invokevirtual 90, 3) := by decide +kernel
theorem dX7_findViolations_4 : decode cX7_findViolations 4 = .ok (.aload_n 0, 1) := by decide +kernel
theorem dX7_findViolations_5 : decode cX7_findViolations 5 = .ok (.invokevirtual 93, 3) := by decide +kernel
theorem dX7_findViolations_8 : decode cX7_findViolations 8 = .ok (.istore_n 1, 1) := by decide +kernel
theorem dX7_findViolations_9 : decode cX7_findViolations 9 = .ok (.iconst 0, 1) := by decide +kernel
theorem dX7_findViolations_10 : decode cX7_findViolations 10 = .ok (.istore_n 2, 1) := by decide +kernel
theorem dX7_findViolations_11 : decode cX7_findViolations 11 = .ok (.iconst 0, 1) := by decide +kernel
theorem dX7_findViolations_12 : decode cX7_findViolations 12 = .ok (.istore_n 3, 1) := by decide +kernel
theorem dX7_findViolations_13 : decode cX7_findViolations 13 = .ok (.iconst 0, 1) := by decide +kernel
theorem dX7_findViolations_14 : decode cX7_findViolations 14 = .ok (.istore 4, 2) := by decide +kernel
theorem dX7_findViolations_16 : decode cX7_findViolations 16 = .ok (.iload 4, 2) := by decide +kernel
theorem dX7_findViolations_18 : decode cX7_findViolations 18 = .ok (.aload_n 0, 1) := by decide +kernel
theorem dX7_findViolations_19 : decode cX7_findViolations 19 = .ok (.getfield 7, 3) := by decide +kernel
theorem dX7_findViolations_22 : decode cX7_findViolations 22 = .ok (.iconst 0, 1) := by decide +kernel
theorem dX7_findViolations_23 : decode cX7_findViolations 23 = .ok (.iaload, 1) := by decide +kernel
theorem dX7_findViolations_24 : decode cX7_findViolations 24 = .ok (.if_icmp .gt 69, 3) := by decide +kernel
theorem dX7_findViolations_27 : decode cX7_findViolations 27 = .ok (.iconst 1, 1) := by decide +kernel
theorem dX7_findViolations_28 : decode cX7_findViolations 28 = .ok (.istore 5, 2) := by decide +kernel
theorem dX7_findViolations_30 : decode cX7_findViolations 30 = .ok (.iload 5, 2) := by decide +kernel
theorem dX7_findViolations_32 : decode cX7_findViolations 32 = .ok (.iconst 5, 1) := by decide +kernel
theorem dX7_findViolations_33 : decode cX7_findViolations 33 = .ok (.if_icmp .gt 40, 3) := by decide +kernel
theorem dX7_findViolations_36 : decode cX7_findViolations 36 = .ok (.aload_n 0, 1) := by decide +kernel
theorem dX7_findViolations_37 : decode cX7_findViolations 37 = .ok (.iload 5, 2) := by decide +kernel
theorem dX7_findViolations_39 : decode cX7_findViolations 39 = .ok (.iload 4, 2) := by decide +kernel
theorem dX7_findViolations_41 : decode cX7_findViolations 41 = .ok (.iload_n 3, 1) := by decide +kernel
theorem dX7_findViolations_42 : decode cX7_findViolations 42 = .ok (.iload_n 1, 1) := by decide +kernel
theorem dX7_findViolations_43 : decode cX7_findViolations 43 = .ok (.invokevirtual 110, 3) := by decide +kernel
theorem dX7_findViolations_46 : decode cX7_findViolations 46 = .ok (.ifCond .eq 21, 3) := by decide +kernel
theorem dX7_findViolations_49 : decode cX7_findViolations 49 = .ok (.aload_n 0, 1) := by decide +kernel
theorem dX7_findViolations_50 : decode cX7_findViolations 50 = .ok (.getfield 32, 3) := by decide +kernel
theorem dX7_findViolations_53 : decode cX7_findViolations 53 = .ok (.iload_n 2, 1) := by decide +kernel
theorem dX7_findViolations_54 : decode cX7_findViolations 54 = .ok (.sipush 1000, 3) := by decide +kernel
theorem dX7_findViolations_57 : decode cX7_findViolations 57 = .ok (.iload 5, 2) := by decide +kernel
theorem dX7_findViolations_59 : decode cX7_findViolations 59 = .ok (.imul, 1) := by decide +kernel
theorem dX7_findViolations_60 : decode cX7_findViolations 60 = .ok (.iload 4, 2) := by decide +kernel
theorem dX7_findViolations_62 : decode cX7_findViolations 62 = .ok (.iadd, 1) := by decide +kernel
theorem dX7_findViolations_63 : decode cX7_findViolations 63 = .ok (.iastore, 1) := by decide +kernel
theorem dX7_findViolations_64 : decode cX7_findViolations 64 = .ok (.iinc 2 1, 3) := by decide +kernel
theorem dX7_findViolations_67 : decode cX7_findViolations 67 = .ok (.iinc 5 1, 3) := by decide +kernel
theorem dX7_findViolations_70 : decode cX7_findViolations 70 = .ok (.goto (-40), 3) := by decide +kernel
theorem dX7_findViolations_73 : decode cX7_findViolations 73 = .ok (.iload_n 3, 1) := by decide +kernel
theorem dX7_findViolations_74 : decode cX7_findViolations 74 = .ok (.aload_n 0, 1) := by decide +kernel
theorem dX7_findViolations_75 : decode cX7_findViolations 75 = .ok (.getfield 7, 3) := by decide +kernel
theorem dX7_findViolations_78 : decode cX7_findViolations 78 = .ok (.sipush 491, 3) := by decide +kernel
theorem dX7_findViolations_81 : decode cX7_findViolations 81 = .ok (.iload 4, 2) := by decide +kernel
theorem dX7_findViolations_83 : decode cX7_findViolations 83 = .ok (.iadd, 1) := by decide +kernel
theorem dX7_findViolations_84 : decode cX7_findViolations 84 = .ok (.iaload, 1) := by decide +kernel
theorem dX7_findViolations_85 : decode cX7_findViolations 85 = .ok (.iadd, 1) := by decide +kernel
theorem dX7_findViolations_86 : decode cX7_findViolations 86 = .ok (.istore_n 3, 1) := by decide +kernel
theorem dX7_findViolations_87 : decode cX7_findViolations 87 = .ok (.iinc 4 1, 3) := by decide +kernel
theorem dX7_findViolations_90 : decode cX7_findViolations 90 = .ok (.goto (-74), 3) := by decide +kernel
theorem dX7_findViolations_93 : decode cX7_findViolations 93 = .ok (.iload_n 2, 1) := by decide +kernel
theorem dX7_findViolations_94 : decode cX7_findViolations 94 = .ok (.ireturn, 1) := by decide +kernel
set_option maxRecDepth 20000 in
theorem ggX7_violationCount_X7_findViolations : GoodIn wsX7_violationCount wsX7_findViolations := goodIn_r _ [6, 7, 8, 9, 10, 11, 5, 12, 13, 14, 15, 16, 17, 18, 19, 20, 21, 22, 23, 24, 25, 26, 27, 28, 29, 30, 31, 32, 33, 34, 35, 36, 37, 38, 39, 40, 41, 42, 43, 44, 45, 46, 47, 48, 49, 50, 51, 52, 53, 54, 55, 56, 57, 58, 59, 60, 61, 62, 63, 64, 65, 66, 67] (by decide +kernel) (by decide +kernel)
set_option maxRecDepth 20000 in
theorem gX7_violationCount_X7_findViolations : GoodIn wsX7_violationCount (wsV RX7 114 RX7 yX7_findViolations wsX7_findViolations) := goodIn_app (goodIn_of _ (by decide +kernel)) ggX7_violationCount_X7_findViolations
theorem dX7_violationCount_0 : decode cX7_violationCount 0 = .ok (.aload_n 0, 1) := by decide +kernel
theorem dX7_violationCount_1 : decode cX7_violationCount 1 = .ok (.iconst 0, 1) := by decide +kernel
theorem dX7_violationCount_2 : decode cX7_violationCount 2 = .ok (.putfield 41, 3) := by decide +kernel
theorem dX7_violationCount_5 : decode cX7_violationCount 5 = .ok (.aload_n 0, 1) := by decide +kernel
theorem dX7_violationCount_6 : decode cX7_violationCount 6 = .ok (.invokevirtual 114, 3) := by decide +kernel
theorem dX7_violationCount_9 : decode cX7_violationCount 9 = .ok (.ireturn, 1) := by decide +kernel
set_option maxRecDepth 20000 in
theorem ggX7_violation_X7_findViolations : GoodIn wsX7_violation wsX7_findViolations := goodIn_r _ [6, 7, 1, 8, 9, 10, 5, 11, 12, 13, 14, 15, 16, 17, 18, 19, 20, 21, 22, 23, 24, 25, 26, 27, 28, 29, 30, 31, 32, 33, 34, 35, 36, 37, 38, 39, 40, 41, 42, 43, 44, 45, 46, 47, 48, 49, 50, 51, 52, 53, 54, 63, 64, 65, 66, 67, 68, 69, 70, 71, 72, 73, 74] (by decide +kernel) (by decide +kernel)
set_option maxRecDepth 20000 in
theorem gX7_violation_X7_findViolations : GoodIn wsX7_violation (wsV RX7 114 RX7 yX7_findViolations wsX7_findViolations) := goodIn_app (goodIn_of _ (by decide +kernel)) ggX7_violation_X7_findViolations
set_option maxRecDepth 20000 in
theorem ggX7_violation_X7_in : GoodIn wsX7_violation wsX7_in := goodIn_r _ [57] (by decide +kernel) (by decide +kernel)
set_option maxRecDepth 20000 in
theorem gX7_violation_X7_in : GoodIn wsX7_violation (va_wsS RX7 48 yX7_in wsX7_in) := goodIn_app (goodIn_of _ (by decide +kernel)) ggX7_violation_X7_in
set_option maxRecDepth 20000 in
theorem ggX7_violation_X7_refuses : GoodIn wsX7_violation wsX7_refuses := goodIn_r _ [61, 62, 63, 64, 65, 66, 67, 68, 69, 70, 71, 72, 73, 74] (by decide +kernel) (by decide +kernel)
set_option maxRecDepth 20000 in
theorem gX7_violation_X7_refuses : GoodIn wsX7_violation (wsV RX7 52 RX7 yX7_refuses wsX7_refuses) := goodIn_app (goodIn_of _ (by decide +kernel)) ggX7_violation_X7_refuses
theorem dX7_violation_0 : decode cX7_violation 0 = .ok (.aload_n 0, 1) := by decide +kernel
theorem dX7_violation_1 : decode cX7_violation 1 = .ok (.invokevirtual 114, 3) := by decide +kernel
theorem dX7_violation_4 : decode cX7_violation 4 = .ok (.istore_n 2, 1) := by decide +kernel
theorem dX7_violation_5 : decode cX7_violation 5 = .ok (.aload_n 0, 1) := by decide +kernel
theorem dX7_violation_6 : decode cX7_violation 6 = .ok (.iload_n 1, 1) := by decide +kernel
theorem dX7_violation_7 : decode cX7_violation 7 = .ok (.iconst 0, 1) := by decide +kernel
theorem dX7_violation_8 : decode cX7_violation 8 = .ok (.iload_n 2, 1) := by decide +kernel
theorem dX7_violation_9 : decode cX7_violation 9 = .ok (.iconst 1, 1) := by decide +kernel
theorem dX7_violation_10 : decode cX7_violation 10 = .ok (.isub, 1) := by decide +kernel
theorem dX7_violation_11 : decode cX7_violation 11 = .ok (.invokestatic 48, 3) := by decide +kernel
theorem dX7_violation_14 : decode cX7_violation 14 = .ok (.invokevirtual 52, 3) := by decide +kernel
theorem dX7_violation_17 : decode cX7_violation 17 = .ok (.ifCond .eq 7, 3) := by decide +kernel
theorem dX7_violation_20 : decode cX7_violation 20 = .ok (.iconst 0, 1) := by decide +kernel
theorem dX7_violation_21 : decode cX7_violation 21 = .ok (.goto 9, 3) := by decide +kernel
theorem dX7_violation_24 : decode cX7_violation 24 = .ok (.aload_n 0, 1) := by decide +kernel
theorem dX7_violation_25 : decode cX7_violation 25 = .ok (.getfield 32, 3) := by decide +kernel
theorem dX7_violation_28 : decode cX7_violation 28 = .ok (.iload_n 1, 1) := by decide +kernel
theorem dX7_violation_29 : decode cX7_violation 29 = .ok (.iaload, 1) := by decide +kernel
theorem dX7_violation_30 : decode cX7_violation 30 = .ok (.ireturn, 1) := by decide +kernel
set_option maxRecDepth 20000 in
theorem ggX7_isAllowed_X7_isSeenLate : GoodIn wsX7_isAllowed wsX7_isSeenLate := goodIn_r _ [6, 1, 7, 8, 9, 10, 11, 12, 13, 14, 15, 16, 17, 18, 19] (by decide +kernel) (by decide +kernel)
set_option maxRecDepth 20000 in
theorem gX7_isAllowed_X7_isSeenLate : GoodIn wsX7_isAllowed (wsV RX7 100 RX7 yX7_isSeenLate wsX7_isSeenLate) := goodIn_app (goodIn_of _ (by decide +kernel)) ggX7_isAllowed_X7_isSeenLate
theorem dX7_isAllowed_0 : decode cX7_isAllowed 0 = .ok (.aload_n 0, 1) := by decide +kernel
theorem dX7_isAllowed_1 : decode cX7_isAllowed 1 = .ok (.getfield 7, 3) := by decide +kernel
theorem dX7_isAllowed_4 : decode cX7_isAllowed 4 = .ok (.sipush 249, 3) := by decide +kernel
theorem dX7_isAllowed_7 : decode cX7_isAllowed 7 = .ok (.iload_n 1, 1) := by decide +kernel
theorem dX7_isAllowed_8 : decode cX7_isAllowed 8 = .ok (.iadd, 1) := by decide +kernel
theorem dX7_isAllowed_9 : decode cX7_isAllowed 9 = .ok (.iaload, 1) := by decide +kernel
theorem dX7_isAllowed_10 : decode cX7_isAllowed 10 = .ok (.ifCond .ne 29, 3) := by decide +kernel
theorem dX7_isAllowed_13 : decode cX7_isAllowed 13 = .ok (.aload_n 0, 1) := by decide +kernel
theorem dX7_isAllowed_14 : decode cX7_isAllowed 14 = .ok (.getfield 7, 3) := by decide +kernel
theorem dX7_isAllowed_17 : decode cX7_isAllowed 17 = .ok (.iconst 4, 1) := by decide +kernel
theorem dX7_isAllowed_18 : decode cX7_isAllowed 18 = .ok (.iaload, 1) := by decide +kernel
theorem dX7_isAllowed_19 : decode cX7_isAllowed 19 = .ok (.iconst 2, 1) := by decide +kernel
theorem dX7_isAllowed_20 : decode cX7_isAllowed 20 = .ok (.if_icmp .gt 15, 3) := by decide +kernel
theorem dX7_isAllowed_23 : decode cX7_isAllowed 23 = .ok (.iload_n 1, 1) := by decide +kernel
theorem dX7_isAllowed_24 : decode cX7_isAllowed 24 = .ok (.ifCond .eq 11, 3) := by decide +kernel
theorem dX7_isAllowed_27 : decode cX7_isAllowed 27 = .ok (.aload_n 0, 1) := by decide +kernel
theorem dX7_isAllowed_28 : decode cX7_isAllowed 28 = .ok (.iload_n 1, 1) := by decide +kernel
theorem dX7_isAllowed_29 : decode cX7_isAllowed 29 = .ok (.invokevirtual 100, 3) := by decide +kernel
theorem dX7_isAllowed_32 : decode cX7_isAllowed 32 = .ok (.ifCond .ne 7, 3) := by decide +kernel
theorem dX7_isAllowed_35 : decode cX7_isAllowed 35 = .ok (.iconst 1, 1) := by decide +kernel
theorem dX7_isAllowed_36 : decode cX7_isAllowed 36 = .ok (.goto 4, 3) := by decide +kernel
theorem dX7_isAllowed_39 : decode cX7_isAllowed 39 = .ok (.iconst 0, 1) := by decide +kernel
theorem dX7_isAllowed_40 : decode cX7_isAllowed 40 = .ok (.ireturn, 1) := by decide +kernel
set_option maxRecDepth 20000 in
theorem ggX7_canFollow_X7_isAllowed : GoodIn wsX7_canFollow wsX7_isAllowed := goodIn_r _ [7, 1, 8, 9, 10, 6, 11, 2, 15, 16, 17, 18, 19, 20, 21, 22, 23, 24, 25, 26] (by decide +kernel) (by decide +kernel)
set_option maxRecDepth 20000 in
theorem gX7_canFollow_X7_isAllowed : GoodIn wsX7_canFollow (wsV RX7 117 RX7 yX7_isAllowed wsX7_isAllowed) := goodIn_app (goodIn_of _ (by decide +kernel)) ggX7_canFollow_X7_isAllowed
set_option maxRecDepth 20000 in
theorem ggX7_canFollow_X7_in : GoodIn wsX7_canFollow wsX7_in := goodIn_r _ [14] (by decide +kernel) (by decide +kernel)
set_option maxRecDepth 20000 in
theorem gX7_canFollow_X7_in : GoodIn wsX7_canFollow (va_wsS RX7 48 yX7_in wsX7_in) := goodIn_app (goodIn_of _ (by decide +kernel)) ggX7_canFollow_X7_in
theorem dX7_canFollow_0 : decode cX7_canFollow 0 = .ok (.iload_n 3, 1) := by decide +kernel
theorem dX7_canFollow_1 : decode cX7_canFollow 1 = .ok (.iload_n 2, 1) := by decide +kernel
theorem dX7_canFollow_2 : decode cX7_canFollow 2 = .ok (.isub, 1) := by decide +kernel
theorem dX7_canFollow_3 : decode cX7_canFollow 3 = .ok (.istore 4, 2) := by decide +kernel
theorem dX7_canFollow_5 : decode cX7_canFollow 5 = .ok (.aload_n 0, 1) := by decide +kernel
theorem dX7_canFollow_6 : decode cX7_canFollow 6 = .ok (.iload_n 3, 1) := by decide +kernel
theorem dX7_canFollow_7 : decode cX7_canFollow 7 = .ok (.invokevirtual 117, 3) := by decide +kernel
theorem dX7_canFollow_10 : decode cX7_canFollow 10 = .ok (.ifCond .eq 28, 3) := by decide +kernel
theorem dX7_canFollow_13 : decode cX7_canFollow 13 = .ok (.iload 4, 2) := by decide +kernel
theorem dX7_canFollow_15 : decode cX7_canFollow 15 = .ok (.aload_n 0, 1) := by decide +kernel
theorem dX7_canFollow_16 : decode cX7_canFollow 16 = .ok (.getfield 7, 3) := by decide +kernel
theorem dX7_canFollow_19 : decode cX7_canFollow 19 = .ok (.iconst 5, 1) := by decide +kernel
theorem dX7_canFollow_20 : decode cX7_canFollow 20 = .ok (.iaload, 1) := by decide +kernel
theorem dX7_canFollow_21 : decode cX7_canFollow 21 = .ok (.aload_n 0, 1) := by decide +kernel
theorem dX7_canFollow_22 : decode cX7_canFollow 22 = .ok (.getfield 7, 3) := by decide +kernel
theorem dX7_canFollow_25 : decode cX7_canFollow 25 = .ok (.bipush 6, 2) := by decide +kernel
theorem dX7_canFollow_27 : decode cX7_canFollow 27 = .ok (.iaload, 1) := by decide +kernel
theorem dX7_canFollow_28 : decode cX7_canFollow 28 = .ok (.invokestatic 48, 3) := by decide +kernel
theorem dX7_canFollow_31 : decode cX7_canFollow 31 = .ok (.ifCond .eq 7, 3) := by decide +kernel
theorem dX7_canFollow_34 : decode cX7_canFollow 34 = .ok (.iconst 1, 1) := by decide +kernel
theorem dX7_canFollow_35 : decode cX7_canFollow 35 = .ok (.goto 4, 3) := by decide +kernel
theorem dX7_canFollow_38 : decode cX7_canFollow 38 = .ok (.iconst 0, 1) := by decide +kernel
theorem dX7_canFollow_39 : decode cX7_canFollow 39 = .ok (.istore 5, 2) := by decide +kernel
theorem dX7_canFollow_41 : decode cX7_canFollow 41 = .ok (.aload_n 0, 1) := by decide +kernel
theorem dX7_canFollow_42 : decode cX7_canFollow 42 = .ok (.getfield 7, 3) := by decide +kernel
theorem dX7_canFollow_45 : decode cX7_canFollow 45 = .ok (.iconst 4, 1) := by decide +kernel
theorem dX7_canFollow_46 : decode cX7_canFollow 46 = .ok (.iaload, 1) := by decide +kernel
theorem dX7_canFollow_47 : decode cX7_canFollow 47 = .ok (.iconst 3, 1) := by decide +kernel
theorem dX7_canFollow_48 : decode cX7_canFollow 48 = .ok (.if_icmp .ne 25, 3) := by decide +kernel
theorem dX7_canFollow_51 : decode cX7_canFollow 51 = .ok (.iload 5, 2) := by decide +kernel
theorem dX7_canFollow_53 : decode cX7_canFollow 53 = .ok (.ifCond .eq 18, 3) := by decide +kernel
theorem dX7_canFollow_56 : decode cX7_canFollow 56 = .ok (.iload 4, 2) := by decide +kernel
theorem dX7_canFollow_58 : decode cX7_canFollow 58 = .ok (.aload_n 0, 1) := by decide +kernel
theorem dX7_canFollow_59 : decode cX7_canFollow 59 = .ok (.getfield 23, 3) := by decide +kernel
theorem dX7_canFollow_62 : decode cX7_canFollow 62 = .ok (.iload_n 2, 1) := by decide +kernel
theorem dX7_canFollow_63 : decode cX7_canFollow 63 = .ok (.iaload, 1) := by decide +kernel
theorem dX7_canFollow_64 : decode cX7_canFollow 64 = .ok (.if_icmp .lt 7, 3) := by decide +kernel
theorem dX7_canFollow_67 : decode cX7_canFollow 67 = .ok (.iconst 1, 1) := by decide +kernel
theorem dX7_canFollow_68 : decode cX7_canFollow 68 = .ok (.goto 4, 3) := by decide +kernel
theorem dX7_canFollow_71 : decode cX7_canFollow 71 = .ok (.iconst 0, 1) := by decide +kernel
theorem dX7_canFollow_72 : decode cX7_canFollow 72 = .ok (.ireturn, 1) := by decide +kernel
theorem dX7_canFollow_73 : decode cX7_canFollow 73 = .ok (.iload 5, 2) := by decide +kernel
theorem dX7_canFollow_75 : decode cX7_canFollow 75 = .ok (.ifCond .eq 35, 3) := by decide +kernel
theorem dX7_canFollow_78 : decode cX7_canFollow 78 = .ok (.aload_n 0, 1) := by decide +kernel
theorem dX7_canFollow_79 : decode cX7_canFollow 79 = .ok (.getfield 7, 3) := by decide +kernel
theorem dX7_canFollow_82 : decode cX7_canFollow 82 = .ok (.iconst 4, 1) := by decide +kernel
theorem dX7_canFollow_83 : decode cX7_canFollow 83 = .ok (.iaload, 1) := by decide +kernel
theorem dX7_canFollow_84 : decode cX7_canFollow 84 = .ok (.iconst 4, 1) := by decide +kernel
theorem dX7_canFollow_85 : decode cX7_canFollow 85 = .ok (.if_icmp .lt 21, 3) := by decide +kernel
theorem dX7_canFollow_88 : decode cX7_canFollow 88 = .ok (.iload_n 1, 1) := by decide +kernel
theorem dX7_canFollow_89 : decode cX7_canFollow 89 = .ok (.bipush 121, 2) := by decide +kernel
theorem dX7_canFollow_91 : decode cX7_canFollow 91 = .ok (.if_icmp .eq 15, 3) := by decide +kernel
theorem dX7_canFollow_94 : decode cX7_canFollow 94 = .ok (.iload_n 3, 1) := by decide +kernel
theorem dX7_canFollow_95 : decode cX7_canFollow 95 = .ok (.iload_n 1, 1) := by decide +kernel
theorem dX7_canFollow_96 : decode cX7_canFollow 96 = .ok (.isub, 1) := by decide +kernel
theorem dX7_canFollow_97 : decode cX7_canFollow 97 = .ok (.aload_n 0, 1) := by decide +kernel
theorem dX7_canFollow_98 : decode cX7_canFollow 98 = .ok (.getfield 23, 3) := by decide +kernel
theorem dX7_canFollow_101 : decode cX7_canFollow 101 = .ok (.iload_n 1, 1) := by decide +kernel
theorem dX7_canFollow_102 : decode cX7_canFollow 102 = .ok (.iaload, 1) := by decide +kernel
theorem dX7_canFollow_103 : decode cX7_canFollow 103 = .ok (.if_icmp .lt 7, 3) := by decide +kernel
theorem dX7_canFollow_106 : decode cX7_canFollow 106 = .ok (.iconst 1, 1) := by decide +kernel
theorem dX7_canFollow_107 : decode cX7_canFollow 107 = .ok (.goto 4, 3) := by decide +kernel
theorem dX7_canFollow_110 : decode cX7_canFollow 110 = .ok (.iconst 0, 1) := by decide +kernel
theorem dX7_canFollow_111 : decode cX7_canFollow 111 = .ok (.ireturn, 1) := by decide +kernel
set_option maxRecDepth 20000 in
theorem ggX7_bestNext_X7_canFollow : GoodIn wsX7_bestNext wsX7_canFollow := goodIn_r _ [7, 1, 8, 9, 10, 11, 6, 12, 13, 14, 15, 16, 17, 18, 19, 24, 25, 26, 27, 28, 29, 30, 31, 32, 33, 34, 35] (by decide +kernel) (by decide +kernel)
set_option maxRecDepth 20000 in
theorem gX7_bestNext_X7_canFollow : GoodIn wsX7_bestNext (wsV RX7 120 RX7 yX7_canFollow wsX7_canFollow) := goodIn_app (goodIn_of _ (by decide +kernel)) ggX7_bestNext_X7_canFollow
set_option maxRecDepth 20000 in
theorem ggX7_bestNext_X7_isWanted : GoodIn wsX7_bestNext wsX7_isWanted := goodIn_r _ [23, 1, 24, 25, 26, 27, 28, 29, 30, 31, 32, 33, 34, 35] (by decide +kernel) (by decide +kernel)
set_option maxRecDepth 20000 in
theorem gX7_bestNext_X7_isWanted : GoodIn wsX7_bestNext (wsV RX7 103 RX7 yX7_isWanted wsX7_isWanted) := goodIn_app (goodIn_of _ (by decide +kernel)) ggX7_bestNext_X7_isWanted
theorem dX7_bestNext_0 : decode cX7_bestNext 0 = .ok (.iconst (-1), 1) := by decide +kernel
theorem dX7_bestNext_1 : decode cX7_bestNext 1 = .ok (.istore_n 3, 1) := by decide +kernel
theorem dX7_bestNext_2 : decode cX7_bestNext 2 = .ok (.sipush 1000, 3) := by decide +kernel
theorem dX7_bestNext_5 : decode cX7_bestNext 5 = .ok (.istore 4, 2) := by decide +kernel
theorem dX7_bestNext_7 : decode cX7_bestNext 7 = .ok (.iconst 1, 1) := by decide +kernel
theorem dX7_bestNext_8 : decode cX7_bestNext 8 = .ok (.istore 5, 2) := by decide +kernel
theorem dX7_bestNext_10 : decode cX7_bestNext 10 = .ok (.iload_n 2, 1) := by decide +kernel
theorem dX7_bestNext_11 : decode cX7_bestNext 11 = .ok (.iconst 1, 1) := by decide +kernel
theorem dX7_bestNext_12 : decode cX7_bestNext 12 = .ok (.iadd, 1) := by decide +kernel
theorem dX7_bestNext_13 : decode cX7_bestNext 13 = .ok (.istore 6, 2) := by decide +kernel
theorem dX7_bestNext_15 : decode cX7_bestNext 15 = .ok (.iload 6, 2) := by decide +kernel
theorem dX7_bestNext_17 : decode cX7_bestNext 17 = .ok (.aload_n 0, 1) := by decide +kernel
theorem dX7_bestNext_18 : decode cX7_bestNext 18 = .ok (.getfield 7, 3) := by decide +kernel
theorem dX7_bestNext_21 : decode cX7_bestNext 21 = .ok (.iconst 0, 1) := by decide +kernel
theorem dX7_bestNext_22 : decode cX7_bestNext 22 = .ok (.iaload, 1) := by decide +kernel
theorem dX7_bestNext_23 : decode cX7_bestNext 23 = .ok (.if_icmp .gt 75, 3) := by decide +kernel
theorem dX7_bestNext_26 : decode cX7_bestNext 26 = .ok (.iload 5, 2) := by decide +kernel
theorem dX7_bestNext_28 : decode cX7_bestNext 28 = .ok (.ifCond .eq 70, 3) := by decide +kernel
theorem dX7_bestNext_31 : decode cX7_bestNext 31 = .ok (.aload_n 0, 1) := by decide +kernel
theorem dX7_bestNext_32 : decode cX7_bestNext 32 = .ok (.iload_n 1, 1) := by decide +kernel
theorem dX7_bestNext_33 : decode cX7_bestNext 33 = .ok (.iload_n 2, 1) := by decide +kernel
theorem dX7_bestNext_34 : decode cX7_bestNext 34 = .ok (.iload 6, 2) := by decide +kernel
theorem dX7_bestNext_36 : decode cX7_bestNext 36 = .ok (.invokevirtual 120, 3) := by decide +kernel
theorem dX7_bestNext_39 : decode cX7_bestNext 39 = .ok (.ifCond .eq 37, 3) := by decide +kernel
theorem dX7_bestNext_42 : decode cX7_bestNext 42 = .ok (.aload_n 0, 1) := by decide +kernel
theorem dX7_bestNext_43 : decode cX7_bestNext 43 = .ok (.getfield 35, 3) := by decide +kernel
theorem dX7_bestNext_46 : decode cX7_bestNext 46 = .ok (.bipush 121, 2) := by decide +kernel
theorem dX7_bestNext_48 : decode cX7_bestNext 48 = .ok (.iload_n 2, 1) := by decide +kernel
theorem dX7_bestNext_49 : decode cX7_bestNext 49 = .ok (.imul, 1) := by decide +kernel
theorem dX7_bestNext_50 : decode cX7_bestNext 50 = .ok (.iload 6, 2) := by decide +kernel
theorem dX7_bestNext_52 : decode cX7_bestNext 52 = .ok (.iadd, 1) := by decide +kernel
theorem dX7_bestNext_53 : decode cX7_bestNext 53 = .ok (.iaload, 1) := by decide +kernel
theorem dX7_bestNext_54 : decode cX7_bestNext 54 = .ok (.iload 4, 2) := by decide +kernel
theorem dX7_bestNext_56 : decode cX7_bestNext 56 = .ok (.if_icmp .ge 20, 3) := by decide +kernel
theorem dX7_bestNext_59 : decode cX7_bestNext 59 = .ok (.iload 6, 2) := by decide +kernel
theorem dX7_bestNext_61 : decode cX7_bestNext 61 = .ok (.istore_n 3, 1) := by decide +kernel
theorem dX7_bestNext_62 : decode cX7_bestNext 62 = .ok (.aload_n 0, 1) := by decide +kernel
theorem dX7_bestNext_63 : decode cX7_bestNext 63 = .ok (.getfield 35, 3) := by decide +kernel
theorem dX7_bestNext_66 : decode cX7_bestNext 66 = .ok (.bipush 121, 2) := by decide +kernel
theorem dX7_bestNext_68 : decode cX7_bestNext 68 = .ok (.iload_n 2, 1) := by decide +kernel
theorem dX7_bestNext_69 : decode cX7_bestNext 69 = .ok (.imul, 1) := by decide +kernel
theorem dX7_bestNext_70 : decode cX7_bestNext 70 = .ok (.iload 6, 2) := by decide +kernel
theorem dX7_bestNext_72 : decode cX7_bestNext 72 = .ok (.iadd, 1) := by decide +kernel
theorem dX7_bestNext_73 : decode cX7_bestNext 73 = .ok (.iaload, 1) := by decide +kernel
theorem dX7_bestNext_74 : decode cX7_bestNext 74 = .ok (.istore 4, 2) := by decide +kernel
theorem dX7_bestNext_76 : decode cX7_bestNext 76 = .ok (.aload_n 0, 1) := by decide +kernel
theorem dX7_bestNext_77 : decode cX7_bestNext 77 = .ok (.iload 6, 2) := by decide +kernel
theorem dX7_bestNext_79 : decode cX7_bestNext 79 = .ok (.invokevirtual 103, 3) := by decide +kernel
theorem dX7_bestNext_82 : decode cX7_bestNext 82 = .ok (.ifCond .ne 7, 3) := by decide +kernel
theorem dX7_bestNext_85 : decode cX7_bestNext 85 = .ok (.iconst 1, 1) := by decide +kernel
theorem dX7_bestNext_86 : decode cX7_bestNext 86 = .ok (.goto 4, 3) := by decide +kernel
theorem dX7_bestNext_89 : decode cX7_bestNext 89 = .ok (.iconst 0, 1) := by decide +kernel
theorem dX7_bestNext_90 : decode cX7_bestNext 90 = .ok (.istore 5, 2) := by decide +kernel
theorem dX7_bestNext_92 : decode cX7_bestNext 92 = .ok (.iinc 6 1, 3) := by decide +kernel
theorem dX7_bestNext_95 : decode cX7_bestNext 95 = .ok (.goto (-80), 3) := by decide +kernel
theorem dX7_bestNext_98 : decode cX7_bestNext 98 = .ok (.iload_n 3, 1) := by decide +kernel
theorem dX7_bestNext_99 : decode cX7_bestNext 99 = .ok (.ireturn, 1) := by decide +kernel
set_option maxRecDepth 20000 in
theorem ggX7_solves_X7_lays : GoodIn wsX7_solves wsX7_lays := goodIn_r _ [7, 1, 8, 9, 10, 11, 12, 13, 14, 15, 6, 16, 17, 18, 19, 20, 21, 22, 23, 24, 25, 26, 27, 28, 29, 53, 54, 55, 56, 57, 58, 59, 60, 61, 62, 63, 64] (by decide +kernel) (by decide +kernel)
set_option maxRecDepth 20000 in
theorem gX7_solves_X7_lays : GoodIn wsX7_solves (wsV RX7 90 RX7 yX7_lays wsX7_lays) := goodIn_app (goodIn_of _ (by decide +kernel)) ggX7_solves_X7_lays
set_option maxRecDepth 20000 in
theorem ggX7_solves_X7_bestNext : GoodIn wsX7_solves wsX7_bestNext := goodIn_r _ [33, 1, 2, 34, 35, 36, 6, 37, 10, 38, 39, 40, 41, 42, 43, 44, 45, 46, 47, 48, 49, 50, 51, 52, 53, 54, 55, 56, 57, 58, 59, 60, 61, 62, 63, 64] (by decide +kernel) (by decide +kernel)
set_option maxRecDepth 20000 in
theorem gX7_solves_X7_bestNext : GoodIn wsX7_solves (wsV RX7 123 RX7 yX7_bestNext wsX7_bestNext) := goodIn_app (goodIn_of _ (by decide +kernel)) ggX7_solves_X7_bestNext
set_option maxRecDepth 20000 in
theorem ggX7_solves_X7_isAllowed : GoodIn wsX7_solves wsX7_isAllowed := goodIn_r _ [41, 1, 42, 43, 44, 6, 45, 10, 53, 54, 55, 56, 57, 58, 59, 60, 61, 62, 63, 64] (by decide +kernel) (by decide +kernel)
set_option maxRecDepth 20000 in
theorem gX7_solves_X7_isAllowed : GoodIn wsX7_solves (wsV RX7 117 RX7 yX7_isAllowed wsX7_isAllowed) := goodIn_app (goodIn_of _ (by decide +kernel)) ggX7_solves_X7_isAllowed
theorem dX7_solves_0 : decode cX7_solves 0 = .ok (.aload_n 0, 1) := by decide +kernel
theorem dX7_solves_1 : decode cX7_solves 1 = .ok (.invokevirtual 90, 3) := by decide +kernel
theorem dX7_solves_4 : decode cX7_solves 4 = .ok (.aload_n 0, 1) := by decide +kernel
theorem dX7_solves_5 : decode cX7_solves 5 = .ok (.getfield 7, 3) := by decide +kernel
theorem dX7_solves_8 : decode cX7_solves 8 = .ok (.iconst 0, 1) := by decide +kernel
theorem dX7_solves_9 : decode cX7_solves 9 = .ok (.iaload, 1) := by decide +kernel
theorem dX7_solves_10 : decode cX7_solves 10 = .ok (.istore_n 1, 1) := by decide +kernel
theorem dX7_solves_11 : decode cX7_solves 11 = .ok (.iconst 0, 1) := by decide +kernel
theorem dX7_solves_12 : decode cX7_solves 12 = .ok (.istore_n 2, 1) := by decide +kernel
theorem dX7_solves_13 : decode cX7_solves 13 = .ok (.iload_n 2, 1) := by decide +kernel
theorem dX7_solves_14 : decode cX7_solves 14 = .ok (.sipush 14762, 3) := by decide +kernel
theorem dX7_solves_17 : decode cX7_solves 17 = .ok (.if_icmp .ge 18, 3) := by decide +kernel
theorem dX7_solves_20 : decode cX7_solves 20 = .ok (.aload_n 0, 1) := by decide +kernel
theorem dX7_solves_21 : decode cX7_solves 21 = .ok (.getfield 35, 3) := by decide +kernel
theorem dX7_solves_24 : decode cX7_solves 24 = .ok (.iload_n 2, 1) := by decide +kernel
theorem dX7_solves_25 : decode cX7_solves 25 = .ok (.sipush 1000, 3) := by decide +kernel
theorem dX7_solves_28 : decode cX7_solves 28 = .ok (.iastore, 1) := by decide +kernel
theorem dX7_solves_29 : decode cX7_solves 29 = .ok (.iinc 2 1, 3) := by decide +kernel
theorem dX7_solves_32 : decode cX7_solves 32 = .ok (.goto (-19), 3) := by decide +kernel
theorem dX7_solves_35 : decode cX7_solves 35 = .ok (.iload_n 1, 1) := by decide +kernel
theorem dX7_solves_36 : decode cX7_solves 36 = .ok (.istore_n 2, 1) := by decide +kernel
theorem dX7_solves_37 : decode cX7_solves 37 = .ok (.iload_n 2, 1) := by decide +kernel
theorem dX7_solves_38 : decode cX7_solves 38 = .ok (.ifCond .lt 100, 3) := by decide +kernel
theorem dX7_solves_41 : decode cX7_solves 41 = .ok (.iconst 0, 1) := by decide +kernel
theorem dX7_solves_42 : decode cX7_solves 42 = .ok (.istore_n 3, 1) := by decide +kernel
theorem dX7_solves_43 : decode cX7_solves 43 = .ok (.iload_n 3, 1) := by decide +kernel
theorem dX7_solves_44 : decode cX7_solves 44 = .ok (.iload_n 2, 1) := by decide +kernel
theorem dX7_solves_45 : decode cX7_solves 45 = .ok (.if_icmp .gt 87, 3) := by decide +kernel
theorem dX7_solves_48 : decode cX7_solves 48 = .ok (.iload_n 3, 1) := by decide +kernel
theorem dX7_solves_49 : decode cX7_solves 49 = .ok (.iload_n 2, 1) := by decide +kernel
theorem dX7_solves_50 : decode cX7_solves 50 = .ok (.if_icmp .ge 7, 3) := by decide +kernel
theorem dX7_solves_53 : decode cX7_solves 53 = .ok (.iload_n 3, 1) := by decide +kernel
theorem dX7_solves_54 : decode cX7_solves 54 = .ok (.goto 5, 3) := by decide +kernel
theorem dX7_solves_57 : decode cX7_solves 57 = .ok (.bipush 121, 2) := by decide +kernel
theorem dX7_solves_59 : decode cX7_solves 59 = .ok (.istore 4, 2) := by decide +kernel
theorem dX7_solves_61 : decode cX7_solves 61 = .ok (.iload_n 2, 1) := by decide +kernel
theorem dX7_solves_62 : decode cX7_solves 62 = .ok (.iload_n 1, 1) := by decide +kernel
theorem dX7_solves_63 : decode cX7_solves 63 = .ok (.if_icmp .ne 7, 3) := by decide +kernel
theorem dX7_solves_66 : decode cX7_solves 66 = .ok (.iconst (-1), 1) := by decide +kernel
theorem dX7_solves_67 : decode cX7_solves 67 = .ok (.goto 10, 3) := by decide +kernel
theorem dX7_solves_70 : decode cX7_solves 70 = .ok (.aload_n 0, 1) := by decide +kernel
theorem dX7_solves_71 : decode cX7_solves 71 = .ok (.iload 4, 2) := by decide +kernel
theorem dX7_solves_73 : decode cX7_solves 73 = .ok (.iload_n 2, 1) := by decide +kernel
theorem dX7_solves_74 : decode cX7_solves 74 = .ok (.invokevirtual 123, 3) := by decide +kernel
theorem dX7_solves_77 : decode cX7_solves 77 = .ok (.istore 5, 2) := by decide +kernel
theorem dX7_solves_79 : decode cX7_solves 79 = .ok (.aload_n 0, 1) := by decide +kernel
theorem dX7_solves_80 : decode cX7_solves 80 = .ok (.getfield 35, 3) := by decide +kernel
theorem dX7_solves_83 : decode cX7_solves 83 = .ok (.bipush 121, 2) := by decide +kernel
theorem dX7_solves_85 : decode cX7_solves 85 = .ok (.iload 4, 2) := by decide +kernel
theorem dX7_solves_87 : decode cX7_solves 87 = .ok (.imul, 1) := by decide +kernel
theorem dX7_solves_88 : decode cX7_solves 88 = .ok (.iload_n 2, 1) := by decide +kernel
theorem dX7_solves_89 : decode cX7_solves 89 = .ok (.iadd, 1) := by decide +kernel
theorem dX7_solves_90 : decode cX7_solves 90 = .ok (.iload_n 2, 1) := by decide +kernel
theorem dX7_solves_91 : decode cX7_solves 91 = .ok (.iload_n 1, 1) := by decide +kernel
theorem dX7_solves_92 : decode cX7_solves 92 = .ok (.if_icmp .ne 7, 3) := by decide +kernel
theorem dX7_solves_95 : decode cX7_solves 95 = .ok (.iconst 0, 1) := by decide +kernel
theorem dX7_solves_96 : decode cX7_solves 96 = .ok (.goto 29, 3) := by decide +kernel
theorem dX7_solves_99 : decode cX7_solves 99 = .ok (.iload 5, 2) := by decide +kernel
theorem dX7_solves_101 : decode cX7_solves 101 = .ok (.iconst (-1), 1) := by decide +kernel
theorem dX7_solves_102 : decode cX7_solves 102 = .ok (.if_icmp .ne 9, 3) := by decide +kernel
theorem dX7_solves_105 : decode cX7_solves 105 = .ok (.sipush 1000, 3) := by decide +kernel
theorem dX7_solves_108 : decode cX7_solves 108 = .ok (.goto 17, 3) := by decide +kernel
theorem dX7_solves_111 : decode cX7_solves 111 = .ok (.iconst 1, 1) := by decide +kernel
theorem dX7_solves_112 : decode cX7_solves 112 = .ok (.aload_n 0, 1) := by decide +kernel
theorem dX7_solves_113 : decode cX7_solves 113 = .ok (.getfield 35, 3) := by decide +kernel
theorem dX7_solves_116 : decode cX7_solves 116 = .ok (.bipush 121, 2) := by decide +kernel
theorem dX7_solves_118 : decode cX7_solves 118 = .ok (.iload_n 2, 1) := by decide +kernel
theorem dX7_solves_119 : decode cX7_solves 119 = .ok (.imul, 1) := by decide +kernel
theorem dX7_solves_120 : decode cX7_solves 120 = .ok (.iload 5, 2) := by decide +kernel
theorem dX7_solves_122 : decode cX7_solves 122 = .ok (.iadd, 1) := by decide +kernel
theorem dX7_solves_123 : decode cX7_solves 123 = .ok (.iaload, 1) := by decide +kernel
theorem dX7_solves_124 : decode cX7_solves 124 = .ok (.iadd, 1) := by decide +kernel
theorem dX7_solves_125 : decode cX7_solves 125 = .ok (.iastore, 1) := by decide +kernel
theorem dX7_solves_126 : decode cX7_solves 126 = .ok (.iinc 3 1, 3) := by decide +kernel
theorem dX7_solves_129 : decode cX7_solves 129 = .ok (.goto (-86), 3) := by decide +kernel
theorem dX7_solves_132 : decode cX7_solves 132 = .ok (.iinc 2 (-1), 3) := by decide +kernel
theorem dX7_solves_135 : decode cX7_solves 135 = .ok (.goto (-98), 3) := by decide +kernel
theorem dX7_solves_138 : decode cX7_solves 138 = .ok (.aload_n 0, 1) := by decide +kernel
theorem dX7_solves_139 : decode cX7_solves 139 = .ok (.iconst 0, 1) := by decide +kernel
theorem dX7_solves_140 : decode cX7_solves 140 = .ok (.invokevirtual 117, 3) := by decide +kernel
theorem dX7_solves_143 : decode cX7_solves 143 = .ok (.ifCond .eq 14, 3) := by decide +kernel
theorem dX7_solves_146 : decode cX7_solves 146 = .ok (.aload_n 0, 1) := by decide +kernel
theorem dX7_solves_147 : decode cX7_solves 147 = .ok (.getfield 35, 3) := by decide +kernel
theorem dX7_solves_150 : decode cX7_solves 150 = .ok (.sipush 14641, 3) := by decide +kernel
theorem dX7_solves_153 : decode cX7_solves 153 = .ok (.iaload, 1) := by decide +kernel
theorem dX7_solves_154 : decode cX7_solves 154 = .ok (.goto 6, 3) := by decide +kernel
theorem dX7_solves_157 : decode cX7_solves 157 = .ok (.sipush 1000, 3) := by decide +kernel
theorem dX7_solves_160 : decode cX7_solves 160 = .ok (.ireturn, 1) := by decide +kernel
set_option maxRecDepth 20000 in
theorem ggX7_fewestPosts_X7_solves : GoodIn wsX7_fewestPosts wsX7_solves := goodIn_r _ [6, 7, 8, 9, 10, 11, 5, 12, 13, 14, 15, 16, 17, 18, 19, 20, 21, 22, 23, 24, 25, 26, 27, 28, 29, 30, 31, 32, 33, 34, 35, 36, 37, 38, 39, 40, 41, 42, 43, 44, 45, 46, 47, 48, 49, 50, 51, 52, 53, 54, 55, 56, 57, 58, 59, 60, 61, 62, 63, 64, 65, 66, 67, 68, 69] (by decide +kernel) (by decide +kernel)
set_option maxRecDepth 20000 in
theorem gX7_fewestPosts_X7_solves : GoodIn wsX7_fewestPosts (wsV RX7 127 RX7 yX7_solves wsX7_solves) := goodIn_app (goodIn_of _ (by decide +kernel)) ggX7_fewestPosts_X7_solves
theorem dX7_fewestPosts_0 : decode cX7_fewestPosts 0 = .ok (.aload_n 0, 1) := by decide +kernel
theorem dX7_fewestPosts_1 : decode cX7_fewestPosts 1 = .ok (.iconst 0, 1) := by decide +kernel
theorem dX7_fewestPosts_2 : decode cX7_fewestPosts 2 = .ok (.putfield 41, 3) := by decide +kernel
theorem dX7_fewestPosts_5 : decode cX7_fewestPosts 5 = .ok (.aload_n 0, 1) := by decide +kernel
theorem dX7_fewestPosts_6 : decode cX7_fewestPosts 6 = .ok (.invokevirtual 127, 3) := by decide +kernel
theorem dX7_fewestPosts_9 : decode cX7_fewestPosts 9 = .ok (.istore_n 1, 1) := by decide +kernel
theorem dX7_fewestPosts_10 : decode cX7_fewestPosts 10 = .ok (.iload_n 1, 1) := by decide +kernel
theorem dX7_fewestPosts_11 : decode cX7_fewestPosts 11 = .ok (.sipush 1000, 3) := by decide +kernel
theorem dX7_fewestPosts_14 : decode cX7_fewestPosts 14 = .ok (.if_icmp .ge 9, 3) := by decide +kernel
theorem dX7_fewestPosts_17 : decode cX7_fewestPosts 17 = .ok (.iload_n 1, 1) := by decide +kernel
theorem dX7_fewestPosts_18 : decode cX7_fewestPosts 18 = .ok (.iconst 1, 1) := by decide +kernel
theorem dX7_fewestPosts_19 : decode cX7_fewestPosts 19 = .ok (.iadd, 1) := by decide +kernel
theorem dX7_fewestPosts_20 : decode cX7_fewestPosts 20 = .ok (.goto 4, 3) := by decide +kernel
theorem dX7_fewestPosts_23 : decode cX7_fewestPosts 23 = .ok (.iconst (-1), 1) := by decide +kernel
theorem dX7_fewestPosts_24 : decode cX7_fewestPosts 24 = .ok (.ireturn, 1) := by decide +kernel
set_option maxRecDepth 20000 in
theorem ggX7_design_X7_solves : GoodIn wsX7_design wsX7_solves := goodIn_r _ [6, 1, 7, 8, 9, 10, 5, 11, 12, 13, 14, 15, 16, 17, 18, 19, 20, 21, 22, 23, 24, 25, 26, 27, 28, 29, 30, 31, 32, 33, 34, 35, 36, 37, 38, 39, 40, 41, 42, 43, 44, 45, 46, 47, 48, 49, 50, 51, 52, 53, 54, 55, 56, 72, 73, 74, 75, 76, 77, 78, 79, 80, 81, 82, 83] (by decide +kernel) (by decide +kernel)
set_option maxRecDepth 20000 in
theorem gX7_design_X7_solves : GoodIn wsX7_design (wsV RX7 127 RX7 yX7_solves wsX7_solves) := goodIn_app (goodIn_of _ (by decide +kernel)) ggX7_design_X7_solves
set_option maxRecDepth 20000 in
theorem ggX7_design_X7_refuses : GoodIn wsX7_design wsX7_refuses := goodIn_r _ [60, 61, 72, 73, 74, 75, 76, 77, 78, 79, 80, 81, 82, 83] (by decide +kernel) (by decide +kernel)
set_option maxRecDepth 20000 in
theorem gX7_design_X7_refuses : GoodIn wsX7_design (wsV RX7 52 RX7 yX7_refuses wsX7_refuses) := goodIn_app (goodIn_of _ (by decide +kernel)) ggX7_design_X7_refuses
set_option maxRecDepth 20000 in
theorem ggX7_design_X7_keep : GoodIn wsX7_design wsX7_keep := goodIn_r _ [65, 66, 67, 1, 72, 73, 74, 75, 76, 77, 78, 79, 80, 81, 82, 83] (by decide +kernel) (by decide +kernel)
set_option maxRecDepth 20000 in
theorem gX7_design_X7_keep : GoodIn wsX7_design (wsV RX7 56 RX7 yX7_keep wsX7_keep) := goodIn_app (goodIn_of _ (by decide +kernel)) ggX7_design_X7_keep
set_option maxRecDepth 20000 in
theorem ggX7_design_X7_clears : GoodIn wsX7_design wsX7_clears := goodIn_r _ [71, 1, 72, 73, 74, 75, 76, 77, 78, 79, 80, 81, 82, 83] (by decide +kernel) (by decide +kernel)
set_option maxRecDepth 20000 in
theorem gX7_design_X7_clears : GoodIn wsX7_design (wsV RX7 97 RX7 yX7_clears wsX7_clears) := goodIn_app (goodIn_of _ (by decide +kernel)) ggX7_design_X7_clears
set_option maxRecDepth 20000 in
theorem ggX7_design_X7_bestNext : GoodIn wsX7_design wsX7_bestNext := goodIn_r _ [37, 1, 7, 38, 39, 40, 5, 41, 14, 42, 43, 44, 45, 46, 47, 48, 49, 50, 51, 52, 53, 54, 55, 56, 72, 73, 74, 75, 76, 77, 78, 79, 80, 81, 82, 83] (by decide +kernel) (by decide +kernel)
set_option maxRecDepth 20000 in
theorem gX7_design_X7_bestNext : GoodIn wsX7_design (wsV RX7 123 RX7 yX7_bestNext wsX7_bestNext) := goodIn_app (goodIn_of _ (by decide +kernel)) ggX7_design_X7_bestNext
theorem dX7_design_0 : decode cX7_design 0 = .ok (.aload_n 0, 1) := by decide +kernel
theorem dX7_design_1 : decode cX7_design 1 = .ok (.invokevirtual 127, 3) := by decide +kernel
theorem dX7_design_4 : decode cX7_design 4 = .ok (.istore_n 1, 1) := by decide +kernel
theorem dX7_design_5 : decode cX7_design 5 = .ok (.aload_n 0, 1) := by decide +kernel
theorem dX7_design_6 : decode cX7_design 6 = .ok (.iload_n 1, 1) := by decide +kernel
theorem dX7_design_7 : decode cX7_design 7 = .ok (.sipush 1000, 3) := by decide +kernel
theorem dX7_design_10 : decode cX7_design 10 = .ok (.if_icmp .ge 7, 3) := by decide +kernel
theorem dX7_design_13 : decode cX7_design 13 = .ok (.iconst 1, 1) := by decide +kernel
theorem dX7_design_14 : decode cX7_design 14 = .ok (.goto 4, 3) := by decide +kernel
theorem dX7_design_17 : decode cX7_design 17 = .ok (.iconst 0, 1) := by decide +kernel
theorem dX7_design_18 : decode cX7_design 18 = .ok (.invokevirtual 52, 3) := by decide +kernel
theorem dX7_design_21 : decode cX7_design 21 = .ok (.ifCond .eq 5, 3) := by decide +kernel
theorem dX7_design_24 : decode cX7_design 24 = .ok (.iconst 0, 1) := by decide +kernel
theorem dX7_design_25 : decode cX7_design 25 = .ok (.ireturn, 1) := by decide +kernel
theorem dX7_design_26 : decode cX7_design 26 = .ok (.aload_n 0, 1) := by decide +kernel
theorem dX7_design_27 : decode cX7_design 27 = .ok (.invokevirtual 56, 3) := by decide +kernel
theorem dX7_design_30 : decode cX7_design 30 = .ok (.aload_n 0, 1) := by decide +kernel
theorem dX7_design_31 : decode cX7_design 31 = .ok (.invokevirtual 97, 3) := by decide +kernel
theorem dX7_design_34 : decode cX7_design 34 = .ok (.bipush 121, 2) := by decide +kernel
theorem dX7_design_36 : decode cX7_design 36 = .ok (.istore_n 2, 1) := by decide +kernel
theorem dX7_design_37 : decode cX7_design 37 = .ok (.iconst 0, 1) := by decide +kernel
theorem dX7_design_38 : decode cX7_design 38 = .ok (.istore_n 3, 1) := by decide +kernel
theorem dX7_design_39 : decode cX7_design 39 = .ok (.aload_n 0, 1) := by decide +kernel
theorem dX7_design_40 : decode cX7_design 40 = .ok (.getfield 7, 3) := by decide +kernel
theorem dX7_design_43 : decode cX7_design 43 = .ok (.sipush 491, 3) := by decide +kernel
theorem dX7_design_46 : decode cX7_design 46 = .ok (.iconst 1, 1) := by decide +kernel
theorem dX7_design_47 : decode cX7_design 47 = .ok (.iastore, 1) := by decide +kernel
theorem dX7_design_48 : decode cX7_design 48 = .ok (.iconst 0, 1) := by decide +kernel
theorem dX7_design_49 : decode cX7_design 49 = .ok (.istore 4, 2) := by decide +kernel
theorem dX7_design_51 : decode cX7_design 51 = .ok (.iload 4, 2) := by decide +kernel
theorem dX7_design_53 : decode cX7_design 53 = .ok (.iload_n 1, 1) := by decide +kernel
theorem dX7_design_54 : decode cX7_design 54 = .ok (.if_icmp .ge 34, 3) := by decide +kernel
theorem dX7_design_57 : decode cX7_design 57 = .ok (.aload_n 0, 1) := by decide +kernel
theorem dX7_design_58 : decode cX7_design 58 = .ok (.iload_n 2, 1) := by decide +kernel
theorem dX7_design_59 : decode cX7_design 59 = .ok (.iload_n 3, 1) := by decide +kernel
theorem dX7_design_60 : decode cX7_design 60 = .ok (.invokevirtual 123, 3) := by decide +kernel
theorem dX7_design_63 : decode cX7_design 63 = .ok (.istore 5, 2) := by decide +kernel
theorem dX7_design_65 : decode cX7_design 65 = .ok (.aload_n 0, 1) := by decide +kernel
theorem dX7_design_66 : decode cX7_design 66 = .ok (.getfield 7, 3) := by decide +kernel
theorem dX7_design_69 : decode cX7_design 69 = .ok (.sipush 491, 3) := by decide +kernel
theorem dX7_design_72 : decode cX7_design 72 = .ok (.iload 5, 2) := by decide +kernel
theorem dX7_design_74 : decode cX7_design 74 = .ok (.iadd, 1) := by decide +kernel
theorem dX7_design_75 : decode cX7_design 75 = .ok (.iconst 1, 1) := by decide +kernel
theorem dX7_design_76 : decode cX7_design 76 = .ok (.iastore, 1) := by decide +kernel
theorem dX7_design_77 : decode cX7_design 77 = .ok (.iload_n 3, 1) := by decide +kernel
theorem dX7_design_78 : decode cX7_design 78 = .ok (.istore_n 2, 1) := by decide +kernel
theorem dX7_design_79 : decode cX7_design 79 = .ok (.iload 5, 2) := by decide +kernel
theorem dX7_design_81 : decode cX7_design 81 = .ok (.istore_n 3, 1) := by decide +kernel
theorem dX7_design_82 : decode cX7_design 82 = .ok (.iinc 4 1, 3) := by decide +kernel
theorem dX7_design_85 : decode cX7_design 85 = .ok (.goto (-34), 3) := by decide +kernel
theorem dX7_design_88 : decode cX7_design 88 = .ok (.iload_n 1, 1) := by decide +kernel
theorem dX7_design_89 : decode cX7_design 89 = .ok (.iconst 1, 1) := by decide +kernel
theorem dX7_design_90 : decode cX7_design 90 = .ok (.iadd, 1) := by decide +kernel
theorem dX7_design_91 : decode cX7_design 91 = .ok (.ireturn, 1) := by decide +kernel
theorem dX7_blockOf_0 : decode cX7_blockOf 0 = .ok (.iload_n 1, 1) := by decide +kernel
theorem dX7_blockOf_1 : decode cX7_blockOf 1 = .ok (.aload_n 0, 1) := by decide +kernel
theorem dX7_blockOf_2 : decode cX7_blockOf 2 = .ok (.getfield 7, 3) := by decide +kernel
theorem dX7_blockOf_5 : decode cX7_blockOf 5 = .ok (.iconst 4, 1) := by decide +kernel
theorem dX7_blockOf_6 : decode cX7_blockOf 6 = .ok (.iaload, 1) := by decide +kernel
theorem dX7_blockOf_7 : decode cX7_blockOf 7 = .ok (.iadd, 1) := by decide +kernel
theorem dX7_blockOf_8 : decode cX7_blockOf 8 = .ok (.iconst 1, 1) := by decide +kernel
theorem dX7_blockOf_9 : decode cX7_blockOf 9 = .ok (.isub, 1) := by decide +kernel
theorem dX7_blockOf_10 : decode cX7_blockOf 10 = .ok (.istore_n 3, 1) := by decide +kernel
theorem dX7_blockOf_11 : decode cX7_blockOf 11 = .ok (.iload_n 3, 1) := by decide +kernel
theorem dX7_blockOf_12 : decode cX7_blockOf 12 = .ok (.iload_n 2, 1) := by decide +kernel
theorem dX7_blockOf_13 : decode cX7_blockOf 13 = .ok (.if_icmp .lt 5, 3) := by decide +kernel
theorem dX7_blockOf_16 : decode cX7_blockOf 16 = .ok (.iconst (-1), 1) := by decide +kernel
theorem dX7_blockOf_17 : decode cX7_blockOf 17 = .ok (.ireturn, 1) := by decide +kernel
theorem dX7_blockOf_18 : decode cX7_blockOf 18 = .ok (.aload_n 0, 1) := by decide +kernel
theorem dX7_blockOf_19 : decode cX7_blockOf 19 = .ok (.getfield 29, 3) := by decide +kernel
theorem dX7_blockOf_22 : decode cX7_blockOf 22 = .ok (.iload_n 1, 1) := by decide +kernel
theorem dX7_blockOf_23 : decode cX7_blockOf 23 = .ok (.iaload, 1) := by decide +kernel
theorem dX7_blockOf_24 : decode cX7_blockOf 24 = .ok (.aload_n 0, 1) := by decide +kernel
theorem dX7_blockOf_25 : decode cX7_blockOf 25 = .ok (.getfield 7, 3) := by decide +kernel
theorem dX7_blockOf_28 : decode cX7_blockOf 28 = .ok (.bipush 7, 2) := by decide +kernel
theorem dX7_blockOf_30 : decode cX7_blockOf 30 = .ok (.iaload, 1) := by decide +kernel
theorem dX7_blockOf_31 : decode cX7_blockOf 31 = .ok (.if_icmp .ge 7, 3) := by decide +kernel
theorem dX7_blockOf_34 : decode cX7_blockOf 34 = .ok (.iconst 0, 1) := by decide +kernel
theorem dX7_blockOf_35 : decode cX7_blockOf 35 = .ok (.goto 17, 3) := by decide +kernel
theorem dX7_blockOf_38 : decode cX7_blockOf 38 = .ok (.aload_n 0, 1) := by decide +kernel
theorem dX7_blockOf_39 : decode cX7_blockOf 39 = .ok (.getfield 29, 3) := by decide +kernel
theorem dX7_blockOf_42 : decode cX7_blockOf 42 = .ok (.iload_n 1, 1) := by decide +kernel
theorem dX7_blockOf_43 : decode cX7_blockOf 43 = .ok (.iaload, 1) := by decide +kernel
theorem dX7_blockOf_44 : decode cX7_blockOf 44 = .ok (.aload_n 0, 1) := by decide +kernel
theorem dX7_blockOf_45 : decode cX7_blockOf 45 = .ok (.getfield 7, 3) := by decide +kernel
theorem dX7_blockOf_48 : decode cX7_blockOf 48 = .ok (.bipush 7, 2) := by decide +kernel
theorem dX7_blockOf_50 : decode cX7_blockOf 50 = .ok (.iaload, 1) := by decide +kernel
theorem dX7_blockOf_51 : decode cX7_blockOf 51 = .ok (.isub, 1) := by decide +kernel
theorem dX7_blockOf_52 : decode cX7_blockOf 52 = .ok (.istore 4, 2) := by decide +kernel
theorem dX7_blockOf_54 : decode cX7_blockOf 54 = .ok (.aload_n 0, 1) := by decide +kernel
theorem dX7_blockOf_55 : decode cX7_blockOf 55 = .ok (.getfield 29, 3) := by decide +kernel
theorem dX7_blockOf_58 : decode cX7_blockOf 58 = .ok (.iload_n 3, 1) := by decide +kernel
theorem dX7_blockOf_59 : decode cX7_blockOf 59 = .ok (.iaload, 1) := by decide +kernel
theorem dX7_blockOf_60 : decode cX7_blockOf 60 = .ok (.aload_n 0, 1) := by decide +kernel
theorem dX7_blockOf_61 : decode cX7_blockOf 61 = .ok (.getfield 7, 3) := by decide +kernel
theorem dX7_blockOf_64 : decode cX7_blockOf 64 = .ok (.bipush 8, 2) := by decide +kernel
theorem dX7_blockOf_66 : decode cX7_blockOf 66 = .ok (.iaload, 1) := by decide +kernel
theorem dX7_blockOf_67 : decode cX7_blockOf 67 = .ok (.iadd, 1) := by decide +kernel
theorem dX7_blockOf_68 : decode cX7_blockOf 68 = .ok (.aload_n 0, 1) := by decide +kernel
theorem dX7_blockOf_69 : decode cX7_blockOf 69 = .ok (.getfield 7, 3) := by decide +kernel
theorem dX7_blockOf_72 : decode cX7_blockOf 72 = .ok (.iconst 3, 1) := by decide +kernel
theorem dX7_blockOf_73 : decode cX7_blockOf 73 = .ok (.iaload, 1) := by decide +kernel
theorem dX7_blockOf_74 : decode cX7_blockOf 74 = .ok (.iadd, 1) := by decide +kernel
theorem dX7_blockOf_75 : decode cX7_blockOf 75 = .ok (.istore 5, 2) := by decide +kernel
theorem dX7_blockOf_77 : decode cX7_blockOf 77 = .ok (.aload_n 0, 1) := by decide +kernel
theorem dX7_blockOf_78 : decode cX7_blockOf 78 = .ok (.getfield 26, 3) := by decide +kernel
theorem dX7_blockOf_81 : decode cX7_blockOf 81 = .ok (.iload 5, 2) := by decide +kernel
theorem dX7_blockOf_83 : decode cX7_blockOf 83 = .ok (.aload_n 0, 1) := by decide +kernel
theorem dX7_blockOf_84 : decode cX7_blockOf 84 = .ok (.getfield 7, 3) := by decide +kernel
theorem dX7_blockOf_87 : decode cX7_blockOf 87 = .ok (.iconst 0, 1) := by decide +kernel
theorem dX7_blockOf_88 : decode cX7_blockOf 88 = .ok (.iaload, 1) := by decide +kernel
theorem dX7_blockOf_89 : decode cX7_blockOf 89 = .ok (.if_icmp .ge 8, 3) := by decide +kernel
theorem dX7_blockOf_92 : decode cX7_blockOf 92 = .ok (.iload 5, 2) := by decide +kernel
theorem dX7_blockOf_94 : decode cX7_blockOf 94 = .ok (.goto 9, 3) := by decide +kernel
theorem dX7_blockOf_97 : decode cX7_blockOf 97 = .ok (.aload_n 0, 1) := by decide +kernel
theorem dX7_blockOf_98 : decode cX7_blockOf 98 = .ok (.getfield 7, 3) := by decide +kernel
theorem dX7_blockOf_101 : decode cX7_blockOf 101 = .ok (.iconst 0, 1) := by decide +kernel
theorem dX7_blockOf_102 : decode cX7_blockOf 102 = .ok (.iaload, 1) := by decide +kernel
theorem dX7_blockOf_103 : decode cX7_blockOf 103 = .ok (.iaload, 1) := by decide +kernel
theorem dX7_blockOf_104 : decode cX7_blockOf 104 = .ok (.aload_n 0, 1) := by decide +kernel
theorem dX7_blockOf_105 : decode cX7_blockOf 105 = .ok (.getfield 26, 3) := by decide +kernel
theorem dX7_blockOf_108 : decode cX7_blockOf 108 = .ok (.iload 4, 2) := by decide +kernel
theorem dX7_blockOf_110 : decode cX7_blockOf 110 = .ok (.iaload, 1) := by decide +kernel
theorem dX7_blockOf_111 : decode cX7_blockOf 111 = .ok (.isub, 1) := by decide +kernel
theorem dX7_blockOf_112 : decode cX7_blockOf 112 = .ok (.ireturn, 1) := by decide +kernel
