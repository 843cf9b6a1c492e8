set_option maxRecDepth 20000 in
theorem gX1_tollOn_X3_at_n70 : GoodIn wsX1_tollOn (wsX3_at) := ggX1_tollOn_X3_at
set_option maxRecDepth 20000 in
theorem ggX1_tollOn_X1_tracksOn : GoodIn wsX1_tollOn wsX1_tracksOn := goodIn_r _ [10, 11, 3, 4, 5, 12, 13, 14, 15, 16, 17, 18, 19, 20, 21, 22, 23, 24, 25, 26, 27, 28, 29, 30] (by decide +kernel) (by decide +kernel)
set_option maxRecDepth 20000 in
theorem gX1_tollOn_X1_tracksOn : GoodIn wsX1_tollOn (wsV RX1 80 RX1 yX1_tracksOn wsX1_tracksOn) := goodIn_app (goodIn_of _ (by decide +kernel)) ggX1_tollOn_X1_tracksOn
theorem dX1_tollOn_0 : decode cX1_tollOn 0 = .ok (.aload_n 0, 1) := by decide +kernel
theorem dX1_tollOn_1 : decode cX1_tollOn 1 = .ok (.getfield 18, 3) := by decide +kernel
theorem dX1_tollOn_4 : decode cX1_tollOn 4 = .ok (.iload_n 1, 1) := by decide +kernel
theorem dX1_tollOn_5 : decode cX1_tollOn 5 = .ok (.invokestatic 70, 3) := by decide +kernel
theorem dX1_tollOn_8 : decode cX1_tollOn 8 = .ok (.iconst (-1), 1) := by decide +kernel
theorem dX1_tollOn_9 : decode cX1_tollOn 9 = .ok (.if_icmp .ne 5, 3) := by decide +kernel
theorem dX1_tollOn_12 : decode cX1_tollOn 12 = .ok (.iconst 0, 1) := by decide +kernel
theorem dX1_tollOn_13 : decode cX1_tollOn 13 = .ok (.ireturn, 1) := by decide +kernel
theorem dX1_tollOn_14 : decode cX1_tollOn 14 = .ok (.aload_n 0, 1) := by decide +kernel
theorem dX1_tollOn_15 : decode cX1_tollOn 15 = .ok (.getfield 53, 3) := by decide +kernel
theorem dX1_tollOn_18 : decode cX1_tollOn 18 = .ok (.iconst 0, 1) := by decide +kernel
theorem dX1_tollOn_19 : decode cX1_tollOn 19 = .ok (.invokestatic 70, 3) := by decide +kernel
theorem dX1_tollOn_22 : decode cX1_tollOn 22 = .ok (.aload_n 0, 1) := by decide +kernel
theorem dX1_tollOn_23 : decode cX1_tollOn 23 = .ok (.iload_n 1, 1) := by decide +kernel
theorem dX1_tollOn_24 : decode cX1_tollOn 24 = .ok (.invokevirtual 80, 3) := by decide +kernel
theorem dX1_tollOn_27 : decode cX1_tollOn 27 = .ok (.imul, 1) := by decide +kernel
theorem dX1_tollOn_28 : decode cX1_tollOn 28 = .ok (.ireturn, 1) := by decide +kernel
set_option maxRecDepth 20000 in
theorem ggX1_obstacle_X3_at : GoodIn wsX1_obstacle wsX3_at := goodIn_r _ [6] (by decide +kernel) (by decide +kernel)
set_option maxRecDepth 20000 in
theorem gX1_obstacle_X3_at_n70 : GoodIn wsX1_obstacle (wsX3_at) := ggX1_obstacle_X3_at
set_option maxRecDepth 20000 in
theorem ggX1_obstacle_J6_bitCount_0f7a4 : GoodIn wsX1_obstacle wsJ6_bitCount_0f7a4 := goodIn_r _ [10, 11, 12, 13] (by decide +kernel) (by decide +kernel)
set_option maxRecDepth 20000 in
theorem gX1_obstacle_J6_bitCount_0f7a4 : GoodIn wsX1_obstacle (va_wsS RX1 74 yJ6_bitCount_0f7a4 wsJ6_bitCount_0f7a4) := goodIn_app (goodIn_of _ (by decide +kernel)) ggX1_obstacle_J6_bitCount_0f7a4
theorem dX1_obstacle_0 : decode cX1_obstacle 0 = .ok (.aload_n 0, 1) := by decide +kernel
theorem dX1_obstacle_1 : decode cX1_obstacle 1 = .ok (.getfield 15, 3) := by decide +kernel
theorem dX1_obstacle_4 : decode cX1_obstacle 4 = .ok (.iload_n 2, 1) := by decide +kernel
theorem dX1_obstacle_5 : decode cX1_obstacle 5 = .ok (.invokestatic 70, 3) := by decide +kernel
theorem dX1_obstacle_8 : decode cX1_obstacle 8 = .ok (.istore_n 3, 1) := by decide +kernel
theorem dX1_obstacle_9 : decode cX1_obstacle 9 = .ok (.aload_n 0, 1) := by decide +kernel
theorem dX1_obstacle_10 : decode cX1_obstacle 10 = .ok (.getfield 9, 3) := by decide +kernel
theorem dX1_obstacle_13 : decode cX1_obstacle 13 = .ok (.iload_n 2, 1) := by decide +kernel
theorem dX1_obstacle_14 : decode cX1_obstacle 14 = .ok (.invokestatic 70, 3) := by decide +kernel
theorem dX1_obstacle_17 : decode cX1_obstacle 17 = .ok (.ifCond .eq 5, 3) := by decide +kernel
theorem dX1_obstacle_20 : decode cX1_obstacle 20 = .ok (.iconst 3, 1) := by decide +kernel
theorem dX1_obstacle_21 : decode cX1_obstacle 21 = .ok (.ireturn, 1) := by decide +kernel
theorem dX1_obstacle_22 : decode cX1_obstacle 22 = .ok (.iload_n 3, 1) := by decide +kernel
theorem dX1_obstacle_23 : decode cX1_obstacle 23 = .ok (.iconst 1, 1) := by decide +kernel
theorem dX1_obstacle_24 : decode cX1_obstacle 24 = .ok (.iload_n 1, 1) := by decide +kernel
theorem dX1_obstacle_25 : decode cX1_obstacle 25 = .ok (.ishl, 1) := by decide +kernel
theorem dX1_obstacle_26 : decode cX1_obstacle 26 = .ok (.iand, 1) := by decide +kernel
theorem dX1_obstacle_27 : decode cX1_obstacle 27 = .ok (.ifCond .eq 5, 3) := by decide +kernel
theorem dX1_obstacle_30 : decode cX1_obstacle 30 = .ok (.iconst 4, 1) := by decide +kernel
theorem dX1_obstacle_31 : decode cX1_obstacle 31 = .ok (.ireturn, 1) := by decide +kernel
theorem dX1_obstacle_32 : decode cX1_obstacle 32 = .ok (.iload_n 3, 1) := by decide +kernel
theorem dX1_obstacle_33 : decode cX1_obstacle 33 = .ok (.invokestatic 74, 3) := by decide +kernel
theorem dX1_obstacle_36 : decode cX1_obstacle 36 = .ok (.aload_n 0, 1) := by decide +kernel
theorem dX1_obstacle_37 : decode cX1_obstacle 37 = .ok (.getfield 53, 3) := by decide +kernel
theorem dX1_obstacle_40 : decode cX1_obstacle 40 = .ok (.iconst 1, 1) := by decide +kernel
theorem dX1_obstacle_41 : decode cX1_obstacle 41 = .ok (.invokestatic 70, 3) := by decide +kernel
theorem dX1_obstacle_44 : decode cX1_obstacle 44 = .ok (.if_icmp .lt 7, 3) := by decide +kernel
theorem dX1_obstacle_47 : decode cX1_obstacle 47 = .ok (.iconst 5, 1) := by decide +kernel
theorem dX1_obstacle_48 : decode cX1_obstacle 48 = .ok (.goto 4, 3) := by decide +kernel
theorem dX1_obstacle_51 : decode cX1_obstacle 51 = .ok (.iconst 0, 1) := by decide +kernel
theorem dX1_obstacle_52 : decode cX1_obstacle 52 = .ok (.ireturn, 1) := by decide +kernel
set_option maxRecDepth 20000 in
theorem ggX1_reason_X3_neighbour : GoodIn wsX1_reason wsX3_neighbour := goodIn_r _ [5] (by decide +kernel) (by decide +kernel)
set_option maxRecDepth 20000 in
theorem gX1_reason_X3_neighbour_n83 : GoodIn wsX1_reason (wsX3_neighbour) := ggX1_reason_X3_neighbour
set_option maxRecDepth 20000 in
theorem ggX1_reason_X3_at : GoodIn wsX1_reason wsX3_at := goodIn_r _ [7] (by decide +kernel) (by decide +kernel)
set_option maxRecDepth 20000 in
theorem gX1_reason_X3_at_n70 : GoodIn wsX1_reason (wsX3_at) := ggX1_reason_X3_at
set_option maxRecDepth 20000 in
theorem ggX1_reason_X3_dieAllows : GoodIn wsX1_reason wsX3_dieAllows := goodIn_r _ [9] (by decide +kernel) (by decide +kernel)
set_option maxRecDepth 20000 in
theorem gX1_reason_X3_dieAllows_n87 : GoodIn wsX1_reason (wsX3_dieAllows) := ggX1_reason_X3_dieAllows
set_option maxRecDepth 20000 in
theorem ggX1_reason_X1_obstacle : GoodIn wsX1_reason wsX1_obstacle := goodIn_r _ [14, 15, 16, 17, 6, 4, 7, 18, 19, 20, 21, 22, 23, 24, 34, 35, 36, 37, 38, 39, 40, 41, 42, 43, 44, 45] (by decide +kernel) (by decide +kernel)
set_option maxRecDepth 20000 in
theorem gX1_reason_X1_obstacle : GoodIn wsX1_reason (wsV RX1 91 RX1 yX1_obstacle wsX1_obstacle) := goodIn_app (goodIn_of _ (by decide +kernel)) ggX1_reason_X1_obstacle
set_option maxRecDepth 20000 in
theorem ggX1_reason_X1_tollOn : GoodIn wsX1_reason wsX1_tollOn := goodIn_r _ [28, 29, 17, 6, 4, 7, 30, 31, 32, 13, 33, 15, 18, 19, 20, 21, 22, 23, 24, 34, 35, 36, 37, 38, 39, 40, 41, 42, 43, 44, 45] (by decide +kernel) (by decide +kernel)
set_option maxRecDepth 20000 in
theorem gX1_reason_X1_tollOn : GoodIn wsX1_reason (wsV RX1 94 RX1 yX1_tollOn wsX1_tollOn) := goodIn_app (goodIn_of _ (by decide +kernel)) ggX1_reason_X1_tollOn
theorem dX1_reason_0 : decode cX1_reason 0 = .ok (.iload_n 2, 1) := by decide +kernel
theorem dX1_reason_1 : decode cX1_reason 1 = .ok (.iload 4, 2) := by decide +kernel
theorem dX1_reason_3 : decode cX1_reason 3 = .ok (.invokestatic 83, 3) := by decide +kernel
theorem dX1_reason_6 : decode cX1_reason 6 = .ok (.istore 5, 2) := by decide +kernel
theorem dX1_reason_8 : decode cX1_reason 8 = .ok (.iload 5, 2) := by decide +kernel
theorem dX1_reason_10 : decode cX1_reason 10 = .ok (.iconst (-1), 1) := by decide +kernel
theorem dX1_reason_11 : decode cX1_reason 11 = .ok (.if_icmp .ne 5, 3) := by decide +kernel
theorem dX1_reason_14 : decode cX1_reason 14 = .ok (.iconst 1, 1) := by decide +kernel
theorem dX1_reason_15 : decode cX1_reason 15 = .ok (.ireturn, 1) := by decide +kernel
theorem dX1_reason_16 : decode cX1_reason 16 = .ok (.iload_n 3, 1) := by decide +kernel
theorem dX1_reason_17 : decode cX1_reason 17 = .ok (.aload_n 0, 1) := by decide +kernel
theorem dX1_reason_18 : decode cX1_reason 18 = .ok (.getfield 41, 3) := by decide +kernel
theorem dX1_reason_21 : decode cX1_reason 21 = .ok (.iload_n 1, 1) := by decide +kernel
theorem dX1_reason_22 : decode cX1_reason 22 = .ok (.invokestatic 70, 3) := by decide +kernel
theorem dX1_reason_25 : decode cX1_reason 25 = .ok (.iload 4, 2) := by decide +kernel
theorem dX1_reason_27 : decode cX1_reason 27 = .ok (.invokestatic 87, 3) := by decide +kernel
theorem dX1_reason_30 : decode cX1_reason 30 = .ok (.ifCond .ne 5, 3) := by decide +kernel
theorem dX1_reason_33 : decode cX1_reason 33 = .ok (.iconst 2, 1) := by decide +kernel
theorem dX1_reason_34 : decode cX1_reason 34 = .ok (.ireturn, 1) := by decide +kernel
theorem dX1_reason_35 : decode cX1_reason 35 = .ok (.aload_n 0, 1) := by decide +kernel
theorem dX1_reason_36 : decode cX1_reason 36 = .ok (.iload_n 1, 1) := by decide +kernel
theorem dX1_reason_37 : decode cX1_reason 37 = .ok (.iload 5, 2) := by decide +kernel
theorem dX1_reason_39 : decode cX1_reason 39 = .ok (.invokevirtual 91, 3) := by decide +kernel
theorem dX1_reason_42 : decode cX1_reason 42 = .ok (.istore 6, 2) := by decide +kernel
theorem dX1_reason_44 : decode cX1_reason 44 = .ok (.iload 6, 2) := by decide +kernel
theorem dX1_reason_46 : decode cX1_reason 46 = .ok (.ifCond .eq 6, 3) := by decide +kernel
theorem dX1_reason_49 : decode cX1_reason 49 = .ok (.iload 6, 2) := by decide +kernel
theorem dX1_reason_51 : decode cX1_reason 51 = .ok (.ireturn, 1) := by decide +kernel
theorem dX1_reason_52 : decode cX1_reason 52 = .ok (.aload_n 0, 1) := by decide +kernel
theorem dX1_reason_53 : decode cX1_reason 53 = .ok (.iload 5, 2) := by decide +kernel
theorem dX1_reason_55 : decode cX1_reason 55 = .ok (.invokevirtual 94, 3) := by decide +kernel
theorem dX1_reason_58 : decode cX1_reason 58 = .ok (.aload_n 0, 1) := by decide +kernel
theorem dX1_reason_59 : decode cX1_reason 59 = .ok (.getfield 27, 3) := by decide +kernel
theorem dX1_reason_62 : decode cX1_reason 62 = .ok (.iload_n 1, 1) := by decide +kernel
theorem dX1_reason_63 : decode cX1_reason 63 = .ok (.invokestatic 70, 3) := by decide +kernel
theorem dX1_reason_66 : decode cX1_reason 66 = .ok (.if_icmp .le 8, 3) := by decide +kernel
theorem dX1_reason_69 : decode cX1_reason 69 = .ok (.bipush 6, 2) := by decide +kernel
theorem dX1_reason_71 : decode cX1_reason 71 = .ok (.goto 4, 3) := by decide +kernel
theorem dX1_reason_74 : decode cX1_reason 74 = .ok (.iconst 0, 1) := by decide +kernel
theorem dX1_reason_75 : decode cX1_reason 75 = .ok (.ireturn, 1) := by decide +kernel
set_option maxRecDepth 20000 in
theorem ggX1_layPiece_X3_neighbour : GoodIn wsX1_layPiece wsX3_neighbour := goodIn_r _ [12] (by decide +kernel) (by decide +kernel)
set_option maxRecDepth 20000 in
theorem gX1_layPiece_X3_neighbour_n83 : GoodIn wsX1_layPiece (wsX3_neighbour) := ggX1_layPiece_X3_neighbour
set_option maxRecDepth 20000 in
theorem ggX1_layPiece_X1_tollOn : GoodIn wsX1_layPiece wsX1_tollOn := goodIn_r _ [17, 1, 4, 18, 11, 19, 20, 21, 22, 16, 23, 6, 24, 25, 26, 27, 28, 29, 30, 37, 38, 39, 40, 41, 42, 43, 44, 45, 46, 47, 48] (by decide +kernel) (by decide +kernel)
set_option maxRecDepth 20000 in
theorem gX1_layPiece_X1_tollOn : GoodIn wsX1_layPiece (wsV RX1 94 RX1 yX1_tollOn wsX1_tollOn) := goodIn_app (goodIn_of _ (by decide +kernel)) ggX1_layPiece_X1_tollOn
set_option maxRecDepth 20000 in
theorem ggX1_layPiece_X3_at : GoodIn wsX1_layPiece wsX3_at := goodIn_r _ [19] (by decide +kernel) (by decide +kernel)
set_option maxRecDepth 20000 in
theorem gX1_layPiece_X3_at_n70 : GoodIn wsX1_layPiece (wsX3_at) := ggX1_layPiece_X3_at
set_option maxRecDepth 20000 in
theorem ggX1_layPiece_X3_put : GoodIn wsX1_layPiece wsX3_put := goodIn_r _ [32] (by decide +kernel) (by decide +kernel)
set_option maxRecDepth 20000 in
theorem gX1_layPiece_X3_put_n97 : GoodIn wsX1_layPiece (wsX3_put) := ggX1_layPiece_X3_put
set_option maxRecDepth 20000 in
theorem ggX1_layPiece_X3_increase : GoodIn wsX1_layPiece wsX3_increase := goodIn_r _ [34, 35, 18, 11, 19, 36, 31, 32] (by decide +kernel) (by decide +kernel)
set_option maxRecDepth 20000 in
theorem gX1_layPiece_X3_increase_n101 : GoodIn wsX1_layPiece (wsX3_increase) := ggX1_layPiece_X3_increase
theorem dX1_layPiece_0 : decode cX1_layPiece 0 = .ok (.iload_n 2, 1) := by decide +kernel
theorem dX1_layPiece_1 : decode cX1_layPiece 1 = .ok (.iload_n 3, 1) := by decide +kernel
theorem dX1_layPiece_2 : decode cX1_layPiece 2 = .ok (.invokestatic 83, 3) := by decide +kernel
theorem dX1_layPiece_5 : decode cX1_layPiece 5 = .ok (.istore 4, 2) := by decide +kernel
theorem dX1_layPiece_7 : decode cX1_layPiece 7 = .ok (.aload_n 0, 1) := by decide +kernel
theorem dX1_layPiece_8 : decode cX1_layPiece 8 = .ok (.iload 4, 2) := by decide +kernel
theorem dX1_layPiece_10 : decode cX1_layPiece 10 = .ok (.invokevirtual 94, 3) := by decide +kernel
theorem dX1_layPiece_13 : decode cX1_layPiece 13 = .ok (.istore 5, 2) := by decide +kernel
theorem dX1_layPiece_15 : decode cX1_layPiece 15 = .ok (.aload_n 0, 1) := by decide +kernel
theorem dX1_layPiece_16 : decode cX1_layPiece 16 = .ok (.getfield 18, 3) := by decide +kernel
theorem dX1_layPiece_19 : decode cX1_layPiece 19 = .ok (.iload 4, 2) := by decide +kernel
theorem dX1_layPiece_21 : decode cX1_layPiece 21 = .ok (.invokestatic 70, 3) := by decide +kernel
theorem dX1_layPiece_24 : decode cX1_layPiece 24 = .ok (.istore 6, 2) := by decide +kernel
theorem dX1_layPiece_26 : decode cX1_layPiece 26 = .ok (.iload 6, 2) := by decide +kernel
theorem dX1_layPiece_28 : decode cX1_layPiece 28 = .ok (.iconst (-1), 1) := by decide +kernel
theorem dX1_layPiece_29 : decode cX1_layPiece 29 = .ok (.if_icmp .ne 16, 3) := by decide +kernel
theorem dX1_layPiece_32 : decode cX1_layPiece 32 = .ok (.aload_n 0, 1) := by decide +kernel
theorem dX1_layPiece_33 : decode cX1_layPiece 33 = .ok (.getfield 18, 3) := by decide +kernel
theorem dX1_layPiece_36 : decode cX1_layPiece 36 = .ok (.iload 4, 2) := by decide +kernel
theorem dX1_layPiece_38 : decode cX1_layPiece 38 = .ok (.iload_n 1, 1) := by decide +kernel
theorem dX1_layPiece_39 : decode cX1_layPiece 39 = .ok (.invokestatic 97, 3) := by decide +kernel
theorem dX1_layPiece_42 : decode cX1_layPiece 42 = .ok (.goto 25, 3) := by decide +kernel
theorem dX1_layPiece_45 : decode cX1_layPiece 45 = .ok (.aload_n 0, 1) := by decide +kernel
theorem dX1_layPiece_46 : decode cX1_layPiece 46 = .ok (.getfield 27, 3) := by decide +kernel
theorem dX1_layPiece_49 : decode cX1_layPiece 49 = .ok (.iload 6, 2) := by decide +kernel
theorem dX1_layPiece_51 : decode cX1_layPiece 51 = .ok (.iload 5, 2) := by decide +kernel
theorem dX1_layPiece_53 : decode cX1_layPiece 53 = .ok (.invokestatic 101, 3) := by decide +kernel
theorem dX1_layPiece_56 : decode cX1_layPiece 56 = .ok (.aload_n 0, 1) := by decide +kernel
theorem dX1_layPiece_57 : decode cX1_layPiece 57 = .ok (.getfield 47, 3) := by decide +kernel
theorem dX1_layPiece_60 : decode cX1_layPiece 60 = .ok (.iload 6, 2) := by decide +kernel
theorem dX1_layPiece_62 : decode cX1_layPiece 62 = .ok (.iload 5, 2) := by decide +kernel
theorem dX1_layPiece_64 : decode cX1_layPiece 64 = .ok (.invokestatic 101, 3) := by decide +kernel
theorem dX1_layPiece_67 : decode cX1_layPiece 67 = .ok (.aload_n 0, 1) := by decide +kernel
theorem dX1_layPiece_68 : decode cX1_layPiece 68 = .ok (.getfield 27, 3) := by decide +kernel
theorem dX1_layPiece_71 : decode cX1_layPiece 71 = .ok (.iload_n 1, 1) := by decide +kernel
theorem dX1_layPiece_72 : decode cX1_layPiece 72 = .ok (.aload_n 0, 1) := by decide +kernel
theorem dX1_layPiece_73 : decode cX1_layPiece 73 = .ok (.getfield 53, 3) := by decide +kernel
theorem dX1_layPiece_76 : decode cX1_layPiece 76 = .ok (.iconst 2, 1) := by decide +kernel
theorem dX1_layPiece_77 : decode cX1_layPiece 77 = .ok (.invokestatic 70, 3) := by decide +kernel
theorem dX1_layPiece_80 : decode cX1_layPiece 80 = .ok (.iload 5, 2) := by decide +kernel
theorem dX1_layPiece_82 : decode cX1_layPiece 82 = .ok (.isub, 1) := by decide +kernel
theorem dX1_layPiece_83 : decode cX1_layPiece 83 = .ok (.invokestatic 101, 3) := by decide +kernel
theorem dX1_layPiece_86 : decode cX1_layPiece 86 = .ok (.aload_n 0, 1) := by decide +kernel
theorem dX1_layPiece_87 : decode cX1_layPiece 87 = .ok (.getfield 44, 3) := by decide +kernel
theorem dX1_layPiece_90 : decode cX1_layPiece 90 = .ok (.iload_n 1, 1) := by decide +kernel
theorem dX1_layPiece_91 : decode cX1_layPiece 91 = .ok (.iload 5, 2) := by decide +kernel
theorem dX1_layPiece_93 : decode cX1_layPiece 93 = .ok (.invokestatic 101, 3) := by decide +kernel
theorem dX1_layPiece_96 : decode cX1_layPiece 96 = .ok (.aload_n 0, 1) := by decide +kernel
theorem dX1_layPiece_97 : decode cX1_layPiece 97 = .ok (.getfield 15, 3) := by decide +kernel
theorem dX1_layPiece_100 : decode cX1_layPiece 100 = .ok (.iload 4, 2) := by decide +kernel
theorem dX1_layPiece_102 : decode cX1_layPiece 102 = .ok (.aload_n 0, 1) := by decide +kernel
theorem dX1_layPiece_103 : decode cX1_layPiece 103 = .ok (.getfield 15, 3) := by decide +kernel
theorem dX1_layPiece_106 : decode cX1_layPiece 106 = .ok (.iload 4, 2) := by decide +kernel
theorem dX1_layPiece_108 : decode cX1_layPiece 108 = .ok (.invokestatic 70, 3) := by decide +kernel
theorem dX1_layPiece_111 : decode cX1_layPiece 111 = .ok (.iconst 1, 1) := by decide +kernel
theorem dX1_layPiece_112 : decode cX1_layPiece 112 = .ok (.iload_n 1, 1) := by decide +kernel
theorem dX1_layPiece_113 : decode cX1_layPiece 113 = .ok (.ishl, 1) := by decide +kernel
theorem dX1_layPiece_114 : decode cX1_layPiece 114 = .ok (.ior, 1) := by decide +kernel
theorem dX1_layPiece_115 : decode cX1_layPiece 115 = .ok (.invokestatic 97, 3) := by decide +kernel
theorem dX1_layPiece_118 : decode cX1_layPiece 118 = .ok (.aload_n 0, 1) := by decide +kernel
theorem dX1_layPiece_119 : decode cX1_layPiece 119 = .ok (.getfield 38, 3) := by decide +kernel
theorem dX1_layPiece_122 : decode cX1_layPiece 122 = .ok (.iload_n 1, 1) := by decide +kernel
theorem dX1_layPiece_123 : decode cX1_layPiece 123 = .ok (.iload 4, 2) := by decide +kernel
theorem dX1_layPiece_125 : decode cX1_layPiece 125 = .ok (.invokestatic 97, 3) := by decide +kernel
theorem dX1_layPiece_128 : decode cX1_layPiece 128 = .ok (.aload_n 0, 1) := by decide +kernel
theorem dX1_layPiece_129 : decode cX1_layPiece 129 = .ok (.getfield 41, 3) := by decide +kernel
theorem dX1_layPiece_132 : decode cX1_layPiece 132 = .ok (.iload_n 1, 1) := by decide +kernel
theorem dX1_layPiece_133 : decode cX1_layPiece 133 = .ok (.iload_n 3, 1) := by decide +kernel
theorem dX1_layPiece_134 : decode cX1_layPiece 134 = .ok (.invokestatic 97, 3) := by decide +kernel
theorem dX1_layPiece_137 : decode cX1_layPiece 137 = .ok (.aload_n 0, 1) := by decide +kernel
theorem dX1_layPiece_138 : decode cX1_layPiece 138 = .ok (.dup, 1) := by decide +kernel
theorem dX1_layPiece_139 : decode cX1_layPiece 139 = .ok (.getfield 66, 3) := by decide +kernel
theorem dX1_layPiece_142 : decode cX1_layPiece 142 = .ok (.iconst 1, 1) := by decide +kernel
theorem dX1_layPiece_143 : decode cX1_layPiece 143 = .ok (.iadd, 1) := by decide +kernel
theorem dX1_layPiece_144 : decode cX1_layPiece 144 = .ok (.putfield 66, 3) := by decide +kernel
theorem dX1_layPiece_147 : decode cX1_layPiece 147 = .ok (.iload 5, 2) := by decide +kernel
theorem dX1_layPiece_149 : decode cX1_layPiece 149 = .ok (.ireturn, 1) := by decide +kernel
set_option maxRecDepth 20000 in
theorem ggX1_removeLine_X3_at : GoodIn wsX1_removeLine wsX3_at := goodIn_r _ [5] (by decide +kernel) (by decide +kernel)
set_option maxRecDepth 20000 in
theorem gX1_removeLine_X3_at_n70 : GoodIn wsX1_removeLine (wsX3_at) := ggX1_removeLine_X3_at
set_option maxRecDepth 20000 in
theorem ggX1_removeLine_X1_hasTrack : GoodIn wsX1_removeLine wsX1_hasTrack := goodIn_r _ [10, 11, 3, 4, 5, 24, 25, 26, 27, 28, 29, 30, 31, 32, 33, 34, 35] (by decide +kernel) (by decide +kernel)
set_option maxRecDepth 20000 in
theorem gX1_removeLine_X1_hasTrack : GoodIn wsX1_removeLine (wsV RX1 104 RX1 yX1_hasTrack wsX1_hasTrack) := goodIn_app (goodIn_of _ (by decide +kernel)) ggX1_removeLine_X1_hasTrack
set_option maxRecDepth 20000 in
theorem ggX1_removeLine_X1_removeTrack : GoodIn wsX1_removeLine wsX1_removeTrack := goodIn_r _ [15, 11, 16, 3, 4, 5, 17, 18, 19, 20, 21, 22, 23, 24, 25, 26, 27, 28, 29, 30, 31, 32, 33, 34, 35] (by decide +kernel) (by decide +kernel)
set_option maxRecDepth 20000 in
theorem gX1_removeLine_X1_removeTrack : GoodIn wsX1_removeLine (wsV RX1 108 RX1 yX1_removeTrack wsX1_removeTrack) := goodIn_app (goodIn_of _ (by decide +kernel)) ggX1_removeLine_X1_removeTrack
set_option maxRecDepth 20000 in
theorem ggX1_removeLine_X3_put : GoodIn wsX1_removeLine wsX3_put := goodIn_r _ [18] (by decide +kernel) (by decide +kernel)
set_option maxRecDepth 20000 in
theorem gX1_removeLine_X3_put_n97 : GoodIn wsX1_removeLine (wsX3_put) := ggX1_removeLine_X3_put
theorem dX1_removeLine_0 : decode cX1_removeLine 0 = .ok (.getstatic 30, 3) := by decide +kernel
theorem dX1_removeLine_3 : decode cX1_removeLine 3 = .ok (.iload_n 1, 1) := by decide +kernel
theorem dX1_removeLine_4 : decode cX1_removeLine 4 = .ok (.invokestatic 70, 3) := by decide +kernel
theorem dX1_removeLine_7 : decode cX1_removeLine 7 = .ok (.istore_n 2, 1) := by decide +kernel
theorem dX1_removeLine_8 : decode cX1_removeLine 8 = .ok (.iconst 0, 1) := by decide +kernel
theorem dX1_removeLine_9 : decode cX1_removeLine 9 = .ok (.istore_n 3, 1) := by decide +kernel
theorem dX1_removeLine_10 : decode cX1_removeLine 10 = .ok (.iconst 0, 1) := by decide +kernel
theorem dX1_removeLine_11 : decode cX1_removeLine 11 = .ok (.istore 4, 2) := by decide +kernel
theorem dX1_removeLine_13 : decode cX1_removeLine 13 = .ok (.iload 4, 2) := by decide +kernel
theorem dX1_removeLine_15 : decode cX1_removeLine 15 = .ok (.bipush 80, 2) := by decide +kernel
theorem dX1_removeLine_17 : decode cX1_removeLine 17 = .ok (.if_icmp .ge 35, 3) := by decide +kernel
theorem dX1_removeLine_20 : decode cX1_removeLine 20 = .ok (.iload 4, 2) := by decide +kernel
theorem dX1_removeLine_22 : decode cX1_removeLine 22 = .ok (.iload_n 2, 1) := by decide +kernel
theorem dX1_removeLine_23 : decode cX1_removeLine 23 = .ok (.if_icmp .eq 23, 3) := by decide +kernel
theorem dX1_removeLine_26 : decode cX1_removeLine 26 = .ok (.aload_n 0, 1) := by decide +kernel
theorem dX1_removeLine_27 : decode cX1_removeLine 27 = .ok (.iload_n 1, 1) := by decide +kernel
theorem dX1_removeLine_28 : decode cX1_removeLine 28 = .ok (.iload 4, 2) := by decide +kernel
theorem dX1_removeLine_30 : decode cX1_removeLine 30 = .ok (.invokevirtual 104, 3) := by decide +kernel
theorem dX1_removeLine_33 : decode cX1_removeLine 33 = .ok (.ifCond .eq 13, 3) := by decide +kernel
theorem dX1_removeLine_36 : decode cX1_removeLine 36 = .ok (.aload_n 0, 1) := by decide +kernel
theorem dX1_removeLine_37 : decode cX1_removeLine 37 = .ok (.iload_n 1, 1) := by decide +kernel
theorem dX1_removeLine_38 : decode cX1_removeLine 38 = .ok (.iload 4, 2) := by decide +kernel
theorem dX1_removeLine_40 : decode cX1_removeLine 40 = .ok (.invokevirtual 108, 3) := by decide +kernel
theorem dX1_removeLine_43 : decode cX1_removeLine 43 = .ok (.iinc 3 1, 3) := by decide +kernel
theorem dX1_removeLine_46 : decode cX1_removeLine 46 = .ok (.iinc 4 1, 3) := by decide +kernel
theorem dX1_removeLine_49 : decode cX1_removeLine 49 = .ok (.goto (-36), 3) := by decide +kernel
theorem dX1_removeLine_52 : decode cX1_removeLine 52 = .ok (.aload_n 0, 1) := by decide +kernel
theorem dX1_removeLine_53 : decode cX1_removeLine 53 = .ok (.getfield 38, 3) := by decide +kernel
theorem dX1_removeLine_56 : decode cX1_removeLine 56 = .ok (.iload_n 1, 1) := by decide +kernel
theorem dX1_removeLine_57 : decode cX1_removeLine 57 = .ok (.iload_n 2, 1) := by decide +kernel
theorem dX1_removeLine_58 : decode cX1_removeLine 58 = .ok (.invokestatic 97, 3) := by decide +kernel
theorem dX1_removeLine_61 : decode cX1_removeLine 61 = .ok (.aload_n 0, 1) := by decide +kernel
theorem dX1_removeLine_62 : decode cX1_removeLine 62 = .ok (.getfield 41, 3) := by decide +kernel
theorem dX1_removeLine_65 : decode cX1_removeLine 65 = .ok (.iload_n 1, 1) := by decide +kernel
theorem dX1_removeLine_66 : decode cX1_removeLine 66 = .ok (.iconst (-1), 1) := by decide +kernel
theorem dX1_removeLine_67 : decode cX1_removeLine 67 = .ok (.invokestatic 97, 3) := by decide +kernel
theorem dX1_removeLine_70 : decode cX1_removeLine 70 = .ok (.iload_n 3, 1) := by decide +kernel
theorem dX1_removeLine_71 : decode cX1_removeLine 71 = .ok (.ireturn, 1) := by decide +kernel
set_option maxRecDepth 20000 in
theorem ggX1_removeTrack_X3_at : GoodIn wsX1_removeTrack wsX3_at := goodIn_r _ [5] (by decide +kernel) (by decide +kernel)
set_option maxRecDepth 20000 in
theorem gX1_removeTrack_X3_at_n70 : GoodIn wsX1_removeTrack (wsX3_at) := ggX1_removeTrack_X3_at
set_option maxRecDepth 20000 in
theorem ggX1_removeTrack_X3_put : GoodIn wsX1_removeTrack wsX3_put := goodIn_r _ [7] (by decide +kernel) (by decide +kernel)
set_option maxRecDepth 20000 in
theorem gX1_removeTrack_X3_put_n97 : GoodIn wsX1_removeTrack (wsX3_put) := ggX1_removeTrack_X3_put
set_option maxRecDepth 20000 in
theorem ggX1_removeTrack_J6_numberOfTrailingZeros_0f7a4 : GoodIn wsX1_removeTrack wsJ6_numberOfTrailingZeros_0f7a4 := goodIn_r _ [11, 12] (by decide +kernel) (by decide +kernel)
set_option maxRecDepth 20000 in
theorem gX1_removeTrack_J6_numberOfTrailingZeros_0f7a4 : GoodIn wsX1_removeTrack (va_wsS RX1 112 yJ6_numberOfTrailingZeros_0f7a4 wsJ6_numberOfTrailingZeros_0f7a4) := goodIn_app (goodIn_of _ (by decide +kernel)) ggX1_removeTrack_J6_numberOfTrailingZeros_0f7a4
theorem dX1_removeTrack_0 : decode cX1_removeTrack 0 = .ok (.aload_n 0, 1) := by decide +kernel
theorem dX1_removeTrack_1 : decode cX1_removeTrack 1 = .ok (.getfield 15, 3) := by decide +kernel
theorem dX1_removeTrack_4 : decode cX1_removeTrack 4 = .ok (.iload_n 2, 1) := by decide +kernel
theorem dX1_removeTrack_5 : decode cX1_removeTrack 5 = .ok (.invokestatic 70, 3) := by decide +kernel
theorem dX1_removeTrack_8 : decode cX1_removeTrack 8 = .ok (.iconst 1, 1) := by decide +kernel
theorem dX1_removeTrack_9 : decode cX1_removeTrack 9 = .ok (.iload_n 1, 1) := by decide +kernel
theorem dX1_removeTrack_10 : decode cX1_removeTrack 10 = .ok (.ishl, 1) := by decide +kernel
theorem dX1_removeTrack_11 : decode cX1_removeTrack 11 = .ok (.iconst (-1), 1) := by decide +kernel
theorem dX1_removeTrack_12 : decode cX1_removeTrack 12 = .ok (.ixor, 1) := by decide +kernel
theorem dX1_removeTrack_13 : decode cX1_removeTrack 13 = .ok (.iand, 1) := by decide +kernel
theorem dX1_removeTrack_14 : decode cX1_removeTrack 14 = .ok (.istore_n 3, 1) := by decide +kernel
theorem dX1_removeTrack_15 : decode cX1_removeTrack 15 = .ok (.aload_n 0, 1) := by decide +kernel
theorem dX1_removeTrack_16 : decode cX1_removeTrack 16 = .ok (.getfield 15, 3) := by decide +kernel
theorem dX1_removeTrack_19 : decode cX1_removeTrack 19 = .ok (.iload_n 2, 1) := by decide +kernel
theorem dX1_removeTrack_20 : decode cX1_removeTrack 20 = .ok (.iload_n 3, 1) := by decide +kernel
theorem dX1_removeTrack_21 : decode cX1_removeTrack 21 = .ok (.invokestatic 97, 3) := by decide +kernel
theorem dX1_removeTrack_24 : decode cX1_removeTrack 24 = .ok (.aload_n 0, 1) := by decide +kernel
theorem dX1_removeTrack_25 : decode cX1_removeTrack 25 = .ok (.getfield 18, 3) := by decide +kernel
theorem dX1_removeTrack_28 : decode cX1_removeTrack 28 = .ok (.iload_n 2, 1) := by decide +kernel
theorem dX1_removeTrack_29 : decode cX1_removeTrack 29 = .ok (.invokestatic 70, 3) := by decide +kernel
theorem dX1_removeTrack_32 : decode cX1_removeTrack 32 = .ok (.iload_n 1, 1) := by decide +kernel
theorem dX1_removeTrack_33 : decode cX1_removeTrack 33 = .ok (.if_icmp .ne 23, 3) := by decide +kernel
theorem dX1_removeTrack_36 : decode cX1_removeTrack 36 = .ok (.aload_n 0, 1) := by decide +kernel
theorem dX1_removeTrack_37 : decode cX1_removeTrack 37 = .ok (.getfield 18, 3) := by decide +kernel
theorem dX1_removeTrack_40 : decode cX1_removeTrack 40 = .ok (.iload_n 2, 1) := by decide +kernel
theorem dX1_removeTrack_41 : decode cX1_removeTrack 41 = .ok (.iload_n 3, 1) := by decide +kernel
theorem dX1_removeTrack_42 : decode cX1_removeTrack 42 = .ok (.ifCond .ne 7, 3) := by decide +kernel
theorem dX1_removeTrack_45 : decode cX1_removeTrack 45 = .ok (.iconst (-1), 1) := by decide +kernel
theorem dX1_removeTrack_46 : decode cX1_removeTrack 46 = .ok (.goto 7, 3) := by decide +kernel
theorem dX1_removeTrack_49 : decode cX1_removeTrack 49 = .ok (.iload_n 3, 1) := by decide +kernel
theorem dX1_removeTrack_50 : decode cX1_removeTrack 50 = .ok (.invokestatic 112, 3) := by decide +kernel
theorem dX1_removeTrack_53 : decode cX1_removeTrack 53 = .ok (.invokestatic 97, 3) := by decide +kernel
theorem dX1_removeTrack_56 : decode cX1_removeTrack 56 = .ok (.return_, 1) := by decide +kernel
set_option maxRecDepth 20000 in
theorem ggX1_lowestStopOn_X3_at : GoodIn wsX1_lowestStopOn wsX3_at := goodIn_r _ [4] (by decide +kernel) (by decide +kernel)
set_option maxRecDepth 20000 in
theorem gX1_lowestStopOn_X3_at_n70 : GoodIn wsX1_lowestStopOn (wsX3_at) := ggX1_lowestStopOn_X3_at
theorem dX1_lowestStopOn_0 : decode cX1_lowestStopOn 0 = .ok (.iconst 0, 1) := by decide +kernel
theorem dX1_lowestStopOn_1 : decode cX1_lowestStopOn 1 = .ok (.istore_n 2, 1) := by decide +kernel
theorem dX1_lowestStopOn_2 : decode cX1_lowestStopOn 2 = .ok (.iload_n 2, 1) := by decide +kernel
theorem dX1_lowestStopOn_3 : decode cX1_lowestStopOn 3 = .ok (.bipush 12, 2) := by decide +kernel
theorem dX1_lowestStopOn_5 : decode cX1_lowestStopOn 5 = .ok (.if_icmp .ge 23, 3) := by decide +kernel
theorem dX1_lowestStopOn_8 : decode cX1_lowestStopOn 8 = .ok (.aload_n 0, 1) := by decide +kernel
theorem dX1_lowestStopOn_9 : decode cX1_lowestStopOn 9 = .ok (.getfield 21, 3) := by decide +kernel
theorem dX1_lowestStopOn_12 : decode cX1_lowestStopOn 12 = .ok (.iload_n 2, 1) := by decide +kernel
theorem dX1_lowestStopOn_13 : decode cX1_lowestStopOn 13 = .ok (.invokestatic 70, 3) := by decide +kernel
theorem dX1_lowestStopOn_16 : decode cX1_lowestStopOn 16 = .ok (.iload_n 1, 1) := by decide +kernel
theorem dX1_lowestStopOn_17 : decode cX1_lowestStopOn 17 = .ok (.if_icmp .ne 5, 3) := by decide +kernel
theorem dX1_lowestStopOn_20 : decode cX1_lowestStopOn 20 = .ok (.iload_n 2, 1) := by decide +kernel
theorem dX1_lowestStopOn_21 : decode cX1_lowestStopOn 21 = .ok (.ireturn, 1) := by decide +kernel
theorem dX1_lowestStopOn_22 : decode cX1_lowestStopOn 22 = .ok (.iinc 2 1, 3) := by decide +kernel
theorem dX1_lowestStopOn_25 : decode cX1_lowestStopOn 25 = .ok (.goto (-23), 3) := by decide +kernel
theorem dX1_lowestStopOn_28 : decode cX1_lowestStopOn 28 = .ok (.iconst (-1), 1) := by decide +kernel
theorem dX1_lowestStopOn_29 : decode cX1_lowestStopOn 29 = .ok (.ireturn, 1) := by decide +kernel
set_option maxRecDepth 20000 in
theorem ggX1_lowestFreeStop_X1_lowestStopOn : GoodIn wsX1_lowestFreeStop wsX1_lowestStopOn := goodIn_r _ [5, 6, 7, 8, 9, 10, 11, 12, 13, 14, 15, 16, 17, 18, 19, 20, 21] (by decide +kernel) (by decide +kernel)
set_option maxRecDepth 20000 in
theorem gX1_lowestFreeStop_X1_lowestStopOn : GoodIn wsX1_lowestFreeStop (wsV RX1 115 RX1 yX1_lowestStopOn wsX1_lowestStopOn) := goodIn_app (goodIn_of _ (by decide +kernel)) ggX1_lowestFreeStop_X1_lowestStopOn
theorem dX1_lowestFreeStop_0 : decode cX1_lowestFreeStop 0 = .ok (.aload_n 0, 1) := by decide +kernel
theorem dX1_lowestFreeStop_1 : decode cX1_lowestFreeStop 1 = .ok (.iconst (-1), 1) := by decide +kernel
theorem dX1_lowestFreeStop_2 : decode cX1_lowestFreeStop 2 = .ok (.invokevirtual 115, 3) := by decide +kernel
theorem dX1_lowestFreeStop_5 : decode cX1_lowestFreeStop 5 = .ok (.ireturn, 1) := by decide +kernel
set_option maxRecDepth 20000 in
theorem ggX1_hasStopOn_X3_at : GoodIn wsX1_hasStopOn wsX3_at := goodIn_r _ [5] (by decide +kernel) (by decide +kernel)
set_option maxRecDepth 20000 in
theorem gX1_hasStopOn_X3_at_n70 : GoodIn wsX1_hasStopOn (wsX3_at) := ggX1_hasStopOn_X3_at
theorem dX1_hasStopOn_0 : decode cX1_hasStopOn 0 = .ok (.iconst 0, 1) := by decide +kernel
theorem dX1_hasStopOn_1 : decode cX1_hasStopOn 1 = .ok (.istore_n 3, 1) := by decide +kernel
theorem dX1_hasStopOn_2 : decode cX1_hasStopOn 2 = .ok (.iload_n 3, 1) := by decide +kernel
theorem dX1_hasStopOn_3 : decode cX1_hasStopOn 3 = .ok (.bipush 12, 2) := by decide +kernel
theorem dX1_hasStopOn_5 : decode cX1_hasStopOn 5 = .ok (.if_icmp .ge 35, 3) := by decide +kernel
theorem dX1_hasStopOn_8 : decode cX1_hasStopOn 8 = .ok (.aload_n 0, 1) := by decide +kernel
theorem dX1_hasStopOn_9 : decode cX1_hasStopOn 9 = .ok (.getfield 21, 3) := by decide +kernel
theorem dX1_hasStopOn_12 : decode cX1_hasStopOn 12 = .ok (.iload_n 3, 1) := by decide +kernel
theorem dX1_hasStopOn_13 : decode cX1_hasStopOn 13 = .ok (.invokestatic 70, 3) := by decide +kernel
theorem dX1_hasStopOn_16 : decode cX1_hasStopOn 16 = .ok (.iload_n 1, 1) := by decide +kernel
theorem dX1_hasStopOn_17 : decode cX1_hasStopOn 17 = .ok (.if_icmp .ne 17, 3) := by decide +kernel
theorem dX1_hasStopOn_20 : decode cX1_hasStopOn 20 = .ok (.aload_n 0, 1) := by decide +kernel
theorem dX1_hasStopOn_21 : decode cX1_hasStopOn 21 = .ok (.getfield 24, 3) := by decide +kernel
theorem dX1_hasStopOn_24 : decode cX1_hasStopOn 24 = .ok (.iload_n 3, 1) := by decide +kernel
theorem dX1_hasStopOn_25 : decode cX1_hasStopOn 25 = .ok (.invokestatic 70, 3) := by decide +kernel
theorem dX1_hasStopOn_28 : decode cX1_hasStopOn 28 = .ok (.iload_n 2, 1) := by decide +kernel
theorem dX1_hasStopOn_29 : decode cX1_hasStopOn 29 = .ok (.if_icmp .ne 5, 3) := by decide +kernel
theorem dX1_hasStopOn_32 : decode cX1_hasStopOn 32 = .ok (.iconst 1, 1) := by decide +kernel
theorem dX1_hasStopOn_33 : decode cX1_hasStopOn 33 = .ok (.ireturn, 1) := by decide +kernel
theorem dX1_hasStopOn_34 : decode cX1_hasStopOn 34 = .ok (.iinc 3 1, 3) := by decide +kernel
theorem dX1_hasStopOn_37 : decode cX1_hasStopOn 37 = .ok (.goto (-35), 3) := by decide +kernel
theorem dX1_hasStopOn_40 : decode cX1_hasStopOn 40 = .ok (.iconst 0, 1) := by decide +kernel
theorem dX1_hasStopOn_41 : decode cX1_hasStopOn 41 = .ok (.ireturn, 1) := by decide +kernel
set_option maxRecDepth 20000 in
theorem ggX1_isThere_X3_at : GoodIn wsX1_isThere wsX3_at := goodIn_r _ [4] (by decide +kernel) (by decide +kernel)
set_option maxRecDepth 20000 in
theorem gX1_isThere_X3_at_n70 : GoodIn wsX1_isThere (wsX3_at) := ggX1_isThere_X3_at
theorem dX1_isThere_0 : decode cX1_isThere 0 = .ok (.aload_n 0, 1) := by decide +kernel
theorem dX1_isThere_1 : decode cX1_isThere 1 = .ok (.getfield 21, 3) := by decide +kernel
theorem dX1_isThere_4 : decode cX1_isThere 4 = .ok (.iload_n 1, 1) := by decide +kernel
theorem dX1_isThere_5 : decode cX1_isThere 5 = .ok (.invokestatic 70, 3) := by decide +kernel
theorem dX1_isThere_8 : decode cX1_isThere 8 = .ok (.iconst (-1), 1) := by decide +kernel
theorem dX1_isThere_9 : decode cX1_isThere 9 = .ok (.if_icmp .eq 7, 3) := by decide +kernel
theorem dX1_isThere_12 : decode cX1_isThere 12 = .ok (.iconst 1, 1) := by decide +kernel
theorem dX1_isThere_13 : decode cX1_isThere 13 = .ok (.goto 4, 3) := by decide +kernel
theorem dX1_isThere_16 : decode cX1_isThere 16 = .ok (.iconst 0, 1) := by decide +kernel
theorem dX1_isThere_17 : decode cX1_isThere 17 = .ok (.ireturn, 1) := by decide +kernel
set_option maxRecDepth 20000 in
theorem ggX1_isReached_X3_at : GoodIn wsX1_isReached wsX3_at := goodIn_r _ [5] (by decide +kernel) (by decide +kernel)
set_option maxRecDepth 20000 in
theorem gX1_isReached_X3_at_n70 : GoodIn wsX1_isReached (wsX3_at) := ggX1_isReached_X3_at
set_option maxRecDepth 20000 in
theorem ggX1_isReached_X1_hasTrack : GoodIn wsX1_isReached wsX1_hasTrack := goodIn_r _ [10, 11, 3, 4, 5, 12, 13, 14, 15, 16, 17, 18, 19, 20, 21, 22, 23] (by decide +kernel) (by decide +kernel)
set_option maxRecDepth 20000 in
theorem gX1_isReached_X1_hasTrack : GoodIn wsX1_isReached (wsV RX1 104 RX1 yX1_hasTrack wsX1_hasTrack) := goodIn_app (goodIn_of _ (by decide +kernel)) ggX1_isReached_X1_hasTrack
theorem dX1_isReached_0 : decode cX1_isReached 0 = .ok (.aload_n 0, 1) := by decide +kernel
theorem dX1_isReached_1 : decode cX1_isReached 1 = .ok (.aload_n 0, 1) := by decide +kernel
theorem dX1_isReached_2 : decode cX1_isReached 2 = .ok (.getfield 24, 3) := by decide +kernel
theorem dX1_isReached_5 : decode cX1_isReached 5 = .ok (.iload_n 1, 1) := by decide +kernel
theorem dX1_isReached_6 : decode cX1_isReached 6 = .ok (.invokestatic 70, 3) := by decide +kernel
theorem dX1_isReached_9 : decode cX1_isReached 9 = .ok (.aload_n 0, 1) := by decide +kernel
theorem dX1_isReached_10 : decode cX1_isReached 10 = .ok (.getfield 21, 3) := by decide +kernel
theorem dX1_isReached_13 : decode cX1_isReached 13 = .ok (.iload_n 1, 1) := by decide +kernel
theorem dX1_isReached_14 : decode cX1_isReached 14 = .ok (.invokestatic 70, 3) := by decide +kernel
theorem dX1_isReached_17 : decode cX1_isReached 17 = .ok (.invokevirtual 104, 3) := by decide +kernel
theorem dX1_isReached_20 : decode cX1_isReached 20 = .ok (.ireturn, 1) := by decide +kernel
set_option maxRecDepth 20000 in
theorem ggX1_isMissing_X3_at : GoodIn wsX1_isMissing wsX3_at := goodIn_r _ [5] (by decide +kernel) (by decide +kernel)
set_option maxRecDepth 20000 in
theorem gX1_isMissing_X3_at_n70 : GoodIn wsX1_isMissing (wsX3_at) := ggX1_isMissing_X3_at
set_option maxRecDepth 20000 in
theorem ggX1_isMissing_X1_hasTrack : GoodIn wsX1_isMissing wsX1_hasTrack := goodIn_r _ [10, 11, 3, 4, 5, 12, 13, 14, 15, 16, 17, 18, 19, 20, 21, 22, 23] (by decide +kernel) (by decide +kernel)
set_option maxRecDepth 20000 in
theorem gX1_isMissing_X1_hasTrack : GoodIn wsX1_isMissing (wsV RX1 104 RX1 yX1_hasTrack wsX1_hasTrack) := goodIn_app (goodIn_of _ (by decide +kernel)) ggX1_isMissing_X1_hasTrack
theorem dX1_isMissing_0 : decode cX1_isMissing 0 = .ok (.aload_n 0, 1) := by decide +kernel
theorem dX1_isMissing_1 : decode cX1_isMissing 1 = .ok (.getfield 24, 3) := by decide +kernel
theorem dX1_isMissing_4 : decode cX1_isMissing 4 = .ok (.iload_n 1, 1) := by decide +kernel
theorem dX1_isMissing_5 : decode cX1_isMissing 5 = .ok (.invokestatic 70, 3) := by decide +kernel
theorem dX1_isMissing_8 : decode cX1_isMissing 8 = .ok (.iload_n 2, 1) := by decide +kernel
theorem dX1_isMissing_9 : decode cX1_isMissing 9 = .ok (.if_icmp .ne 23, 3) := by decide +kernel
theorem dX1_isMissing_12 : decode cX1_isMissing 12 = .ok (.aload_n 0, 1) := by decide +kernel
theorem dX1_isMissing_13 : decode cX1_isMissing 13 = .ok (.iload_n 2, 1) := by decide +kernel
theorem dX1_isMissing_14 : decode cX1_isMissing 14 = .ok (.aload_n 0, 1) := by decide +kernel
theorem dX1_isMissing_15 : decode cX1_isMissing 15 = .ok (.getfield 21, 3) := by decide +kernel
theorem dX1_isMissing_18 : decode cX1_isMissing 18 = .ok (.iload_n 1, 1) := by decide +kernel
theorem dX1_isMissing_19 : decode cX1_isMissing 19 = .ok (.invokestatic 70, 3) := by decide +kernel
theorem dX1_isMissing_22 : decode cX1_isMissing 22 = .ok (.invokevirtual 104, 3) := by decide +kernel
theorem dX1_isMissing_25 : decode cX1_isMissing 25 = .ok (.ifCond .ne 7, 3) := by decide +kernel
theorem dX1_isMissing_28 : decode cX1_isMissing 28 = .ok (.iconst 1, 1) := by decide +kernel
theorem dX1_isMissing_29 : decode cX1_isMissing 29 = .ok (.goto 4, 3) := by decide +kernel
theorem dX1_isMissing_32 : decode cX1_isMissing 32 = .ok (.iconst 0, 1) := by decide +kernel
theorem dX1_isMissing_33 : decode cX1_isMissing 33 = .ok (.ireturn, 1) := by decide +kernel
set_option maxRecDepth 20000 in
theorem ggX1_stopsOfLine_X3_at : GoodIn wsX1_stopsOfLine wsX3_at := goodIn_r _ [4] (by decide +kernel) (by decide +kernel)
set_option maxRecDepth 20000 in
theorem gX1_stopsOfLine_X3_at_n70 : GoodIn wsX1_stopsOfLine (wsX3_at) := ggX1_stopsOfLine_X3_at
theorem dX1_stopsOfLine_0 : decode cX1_stopsOfLine 0 = .ok (.iconst 0, 1) := by decide +kernel
theorem dX1_stopsOfLine_1 : decode cX1_stopsOfLine 1 = .ok (.istore_n 2, 1) := by decide +kernel
theorem dX1_stopsOfLine_2 : decode cX1_stopsOfLine 2 = .ok (.iconst 0, 1) := by decide +kernel
theorem dX1_stopsOfLine_3 : decode cX1_stopsOfLine 3 = .ok (.istore_n 3, 1) := by decide +kernel
theorem dX1_stopsOfLine_4 : decode cX1_stopsOfLine 4 = .ok (.iload_n 3, 1) := by decide +kernel
theorem dX1_stopsOfLine_5 : decode cX1_stopsOfLine 5 = .ok (.bipush 12, 2) := by decide +kernel
theorem dX1_stopsOfLine_7 : decode cX1_stopsOfLine 7 = .ok (.if_icmp .ge 24, 3) := by decide +kernel
theorem dX1_stopsOfLine_10 : decode cX1_stopsOfLine 10 = .ok (.aload_n 0, 1) := by decide +kernel
theorem dX1_stopsOfLine_11 : decode cX1_stopsOfLine 11 = .ok (.getfield 24, 3) := by decide +kernel
theorem dX1_stopsOfLine_14 : decode cX1_stopsOfLine 14 = .ok (.iload_n 3, 1) := by decide +kernel
theorem dX1_stopsOfLine_15 : decode cX1_stopsOfLine 15 = .ok (.invokestatic 70, 3) := by decide +kernel
theorem dX1_stopsOfLine_18 : decode cX1_stopsOfLine 18 = .ok (.iload_n 1, 1) := by decide +kernel
theorem dX1_stopsOfLine_19 : decode cX1_stopsOfLine 19 = .ok (.if_icmp .ne 6, 3) := by decide +kernel
theorem dX1_stopsOfLine_22 : decode cX1_stopsOfLine 22 = .ok (.iinc 2 1, 3) := by decide +kernel
theorem dX1_stopsOfLine_25 : decode cX1_stopsOfLine 25 = .ok (.iinc 3 1, 3) := by decide +kernel
theorem dX1_stopsOfLine_28 : decode cX1_stopsOfLine 28 = .ok (.goto (-24), 3) := by decide +kernel
theorem dX1_stopsOfLine_31 : decode cX1_stopsOfLine 31 = .ok (.iload_n 2, 1) := by decide +kernel
theorem dX1_stopsOfLine_32 : decode cX1_stopsOfLine 32 = .ok (.ireturn, 1) := by decide +kernel
set_option maxRecDepth 20000 in
theorem ggX1_stopsReached_X3_at : GoodIn wsX1_stopsReached wsX3_at := goodIn_r _ [5] (by decide +kernel) (by decide +kernel)
set_option maxRecDepth 20000 in
theorem gX1_stopsReached_X3_at_n70 : GoodIn wsX1_stopsReached (wsX3_at) := ggX1_stopsReached_X3_at
set_option maxRecDepth 20000 in
theorem ggX1_stopsReached_X1_hasTrack : GoodIn wsX1_stopsReached wsX1_hasTrack := goodIn_r _ [10, 11, 3, 4, 5, 12, 13, 14, 15, 16, 17, 18, 19, 20, 21, 22, 23] (by decide +kernel) (by decide +kernel)
set_option maxRecDepth 20000 in
theorem gX1_stopsReached_X1_hasTrack : GoodIn wsX1_stopsReached (wsV RX1 104 RX1 yX1_hasTrack wsX1_hasTrack) := goodIn_app (goodIn_of _ (by decide +kernel)) ggX1_stopsReached_X1_hasTrack
theorem dX1_stopsReached_0 : decode cX1_stopsReached 0 = .ok (.iconst 0, 1) := by decide +kernel
theorem dX1_stopsReached_1 : decode cX1_stopsReached 1 = .ok (.istore_n 2, 1) := by decide +kernel
theorem dX1_stopsReached_2 : decode cX1_stopsReached 2 = .ok (.iconst 0, 1) := by decide +kernel
theorem dX1_stopsReached_3 : decode cX1_stopsReached 3 = .ok (.istore_n 3, 1) := by decide +kernel
theorem dX1_stopsReached_4 : decode cX1_stopsReached 4 = .ok (.iload_n 3, 1) := by decide +kernel
theorem dX1_stopsReached_5 : decode cX1_stopsReached 5 = .ok (.bipush 12, 2) := by decide +kernel
theorem dX1_stopsReached_7 : decode cX1_stopsReached 7 = .ok (.if_icmp .ge 40, 3) := by decide +kernel
theorem dX1_stopsReached_10 : decode cX1_stopsReached 10 = .ok (.aload_n 0, 1) := by decide +kernel
theorem dX1_stopsReached_11 : decode cX1_stopsReached 11 = .ok (.getfield 24, 3) := by decide +kernel
theorem dX1_stopsReached_14 : decode cX1_stopsReached 14 = .ok (.iload_n 3, 1) := by decide +kernel
theorem dX1_stopsReached_15 : decode cX1_stopsReached 15 = .ok (.invokestatic 70, 3) := by decide +kernel
theorem dX1_stopsReached_18 : decode cX1_stopsReached 18 = .ok (.iload_n 1, 1) := by decide +kernel
theorem dX1_stopsReached_19 : decode cX1_stopsReached 19 = .ok (.if_icmp .ne 22, 3) := by decide +kernel
theorem dX1_stopsReached_22 : decode cX1_stopsReached 22 = .ok (.aload_n 0, 1) := by decide +kernel
theorem dX1_stopsReached_23 : decode cX1_stopsReached 23 = .ok (.iload_n 1, 1) := by decide +kernel
theorem dX1_stopsReached_24 : decode cX1_stopsReached 24 = .ok (.aload_n 0, 1) := by decide +kernel
theorem dX1_stopsReached_25 : decode cX1_stopsReached 25 = .ok (.getfield 21, 3) := by decide +kernel
theorem dX1_stopsReached_28 : decode cX1_stopsReached 28 = .ok (.iload_n 3, 1) := by decide +kernel
theorem dX1_stopsReached_29 : decode cX1_stopsReached 29 = .ok (.invokestatic 70, 3) := by decide +kernel
theorem dX1_stopsReached_32 : decode cX1_stopsReached 32 = .ok (.invokevirtual 104, 3) := by decide +kernel
theorem dX1_stopsReached_35 : decode cX1_stopsReached 35 = .ok (.ifCond .eq 6, 3) := by decide +kernel
theorem dX1_stopsReached_38 : decode cX1_stopsReached 38 = .ok (.iinc 2 1, 3) := by decide +kernel
theorem dX1_stopsReached_41 : decode cX1_stopsReached 41 = .ok (.iinc 3 1, 3) := by decide +kernel
theorem dX1_stopsReached_44 : decode cX1_stopsReached 44 = .ok (.goto (-40), 3) := by decide +kernel
theorem dX1_stopsReached_47 : decode cX1_stopsReached 47 = .ok (.iload_n 2, 1) := by decide +kernel
theorem dX1_stopsReached_48 : decode cX1_stopsReached 48 = .ok (.ireturn, 1) := by decide +kernel
set_option maxRecDepth 20000 in
theorem ggX1_joinsStops_X1_stopsReached : GoodIn wsX1_joinsStops wsX1_stopsReached := goodIn_r _ [5, 6, 7, 8, 9, 10, 11, 12, 13, 4, 14, 15, 20, 21, 22, 23, 24, 25, 26, 27, 28, 29, 30, 31] (by decide +kernel) (by decide +kernel)
set_option maxRecDepth 20000 in
theorem gX1_joinsStops_X1_stopsReached : GoodIn wsX1_joinsStops (wsV RX1 118 RX1 yX1_stopsReached wsX1_stopsReached) := goodIn_app (goodIn_of _ (by decide +kernel)) ggX1_joinsStops_X1_stopsReached
set_option maxRecDepth 20000 in
theorem ggX1_joinsStops_X1_stopsOfLine : GoodIn wsX1_joinsStops wsX1_stopsOfLine := goodIn_r _ [19, 6, 8, 9, 10, 20, 21, 22, 23, 24, 25, 26, 27, 28, 29, 30, 31] (by decide +kernel) (by decide +kernel)
set_option maxRecDepth 20000 in
theorem gX1_joinsStops_X1_stopsOfLine : GoodIn wsX1_joinsStops (wsV RX1 121 RX1 yX1_stopsOfLine wsX1_stopsOfLine) := goodIn_app (goodIn_of _ (by decide +kernel)) ggX1_joinsStops_X1_stopsOfLine
theorem dX1_joinsStops_0 : decode cX1_joinsStops 0 = .ok (.aload_n 0, 1) := by decide +kernel
theorem dX1_joinsStops_1 : decode cX1_joinsStops 1 = .ok (.iload_n 1, 1) := by decide +kernel
theorem dX1_joinsStops_2 : decode cX1_joinsStops 2 = .ok (.invokevirtual 118, 3) := by decide +kernel
theorem dX1_joinsStops_5 : decode cX1_joinsStops 5 = .ok (.aload_n 0, 1) := by decide +kernel
theorem dX1_joinsStops_6 : decode cX1_joinsStops 6 = .ok (.iload_n 1, 1) := by decide +kernel
theorem dX1_joinsStops_7 : decode cX1_joinsStops 7 = .ok (.invokevirtual 121, 3) := by decide +kernel
theorem dX1_joinsStops_10 : decode cX1_joinsStops 10 = .ok (.if_icmp .ne 7, 3) := by decide +kernel
theorem dX1_joinsStops_13 : decode cX1_joinsStops 13 = .ok (.iconst 1, 1) := by decide +kernel
theorem dX1_joinsStops_14 : decode cX1_joinsStops 14 = .ok (.goto 4, 3) := by decide +kernel
theorem dX1_joinsStops_17 : decode cX1_joinsStops 17 = .ok (.iconst 0, 1) := by decide +kernel
theorem dX1_joinsStops_18 : decode cX1_joinsStops 18 = .ok (.ireturn, 1) := by decide +kernel
set_option maxRecDepth 20000 in
theorem ggX1_lineLength_X1_hasTrack : GoodIn wsX1_lineLength wsX1_hasTrack := goodIn_r _ [5, 6, 7, 8, 9, 10, 11, 12, 13, 14, 15, 16, 17, 18, 19, 20, 21] (by decide +kernel) (by decide +kernel)
set_option maxRecDepth 20000 in
theorem gX1_lineLength_X1_hasTrack : GoodIn wsX1_lineLength (wsV RX1 104 RX1 yX1_hasTrack wsX1_hasTrack) := goodIn_app (goodIn_of _ (by decide +kernel)) ggX1_lineLength_X1_hasTrack
theorem dX1_lineLength_0 : decode cX1_lineLength 0 = .ok (.iconst 0, 1) := by decide +kernel
theorem dX1_lineLength_1 : decode cX1_lineLength 1 = .ok (.istore_n 2, 1) := by decide +kernel
theorem dX1_lineLength_2 : decode cX1_lineLength 2 = .ok (.iconst 0, 1) := by decide +kernel
theorem dX1_lineLength_3 : decode cX1_lineLength 3 = .ok (.istore_n 3, 1) := by decide +kernel
theorem dX1_lineLength_4 : decode cX1_lineLength 4 = .ok (.iload_n 3, 1) := by decide +kernel
theorem dX1_lineLength_5 : decode cX1_lineLength 5 = .ok (.bipush 80, 2) := by decide +kernel
theorem dX1_lineLength_7 : decode cX1_lineLength 7 = .ok (.if_icmp .ge 21, 3) := by decide +kernel
theorem dX1_lineLength_10 : decode cX1_lineLength 10 = .ok (.aload_n 0, 1) := by decide +kernel
theorem dX1_lineLength_11 : decode cX1_lineLength 11 = .ok (.iload_n 1, 1) := by decide +kernel
theorem dX1_lineLength_12 : decode cX1_lineLength 12 = .ok (.iload_n 3, 1) := by decide +kernel
theorem dX1_lineLength_13 : decode cX1_lineLength 13 = .ok (.invokevirtual 104, 3) := by decide +kernel
theorem dX1_lineLength_16 : decode cX1_lineLength 16 = .ok (.ifCond .eq 6, 3) := by decide +kernel
theorem dX1_lineLength_19 : decode cX1_lineLength 19 = .ok (.iinc 2 1, 3) := by decide +kernel
theorem dX1_lineLength_22 : decode cX1_lineLength 22 = .ok (.iinc 3 1, 3) := by decide +kernel
theorem dX1_lineLength_25 : decode cX1_lineLength 25 = .ok (.goto (-21), 3) := by decide +kernel
theorem dX1_lineLength_28 : decode cX1_lineLength 28 = .ok (.iload_n 2, 1) := by decide +kernel
theorem dX1_lineLength_29 : decode cX1_lineLength 29 = .ok (.ireturn, 1) := by decide +kernel
set_option maxRecDepth 20000 in
theorem ggX1_squaresOwned_X3_at : GoodIn wsX1_squaresOwned wsX3_at := goodIn_r _ [4] (by decide +kernel) (by decide +kernel)
set_option maxRecDepth 20000 in
theorem gX1_squaresOwned_X3_at_n70 : GoodIn wsX1_squaresOwned (wsX3_at) := ggX1_squaresOwned_X3_at
theorem dX1_squaresOwned_0 : decode cX1_squaresOwned 0 = .ok (.iconst 0, 1) := by decide +kernel
theorem dX1_squaresOwned_1 : decode cX1_squaresOwned 1 = .ok (.istore_n 2, 1) := by decide +kernel
theorem dX1_squaresOwned_2 : decode cX1_squaresOwned 2 = .ok (.iconst 0, 1) := by decide +kernel
theorem dX1_squaresOwned_3 : decode cX1_squaresOwned 3 = .ok (.istore_n 3, 1) := by decide +kernel
theorem dX1_squaresOwned_4 : decode cX1_squaresOwned 4 = .ok (.iload_n 3, 1) := by decide +kernel
theorem dX1_squaresOwned_5 : decode cX1_squaresOwned 5 = .ok (.bipush 80, 2) := by decide +kernel
theorem dX1_squaresOwned_7 : decode cX1_squaresOwned 7 = .ok (.if_icmp .ge 24, 3) := by decide +kernel
theorem dX1_squaresOwned_10 : decode cX1_squaresOwned 10 = .ok (.aload_n 0, 1) := by decide +kernel
theorem dX1_squaresOwned_11 : decode cX1_squaresOwned 11 = .ok (.getfield 18, 3) := by decide +kernel
theorem dX1_squaresOwned_14 : decode cX1_squaresOwned 14 = .ok (.iload_n 3, 1) := by decide +kernel
theorem dX1_squaresOwned_15 : decode cX1_squaresOwned 15 = .ok (.invokestatic 70, 3) := by decide +kernel
theorem dX1_squaresOwned_18 : decode cX1_squaresOwned 18 = .ok (.iload_n 1, 1) := by decide +kernel
theorem dX1_squaresOwned_19 : decode cX1_squaresOwned 19 = .ok (.if_icmp .ne 6, 3) := by decide +kernel
theorem dX1_squaresOwned_22 : decode cX1_squaresOwned 22 = .ok (.iinc 2 1, 3) := by decide +kernel
theorem dX1_squaresOwned_25 : decode cX1_squaresOwned 25 = .ok (.iinc 3 1, 3) := by decide +kernel
theorem dX1_squaresOwned_28 : decode cX1_squaresOwned 28 = .ok (.goto (-24), 3) := by decide +kernel
theorem dX1_squaresOwned_31 : decode cX1_squaresOwned 31 = .ok (.iload_n 2, 1) := by decide +kernel
theorem dX1_squaresOwned_32 : decode cX1_squaresOwned 32 = .ok (.ireturn, 1) := by decide +kernel
set_option maxRecDepth 20000 in
theorem ggX1_squaresWithTracks_X1_tracksOn : GoodIn wsX1_squaresWithTracks wsX1_tracksOn := goodIn_r _ [5, 6, 7, 8, 9, 10, 11, 12, 13, 14, 15, 16, 17, 18, 19, 20, 21, 22, 23, 24, 25, 26, 27, 28] (by decide +kernel) (by decide +kernel)
set_option maxRecDepth 20000 in
theorem gX1_squaresWithTracks_X1_tracksOn : GoodIn wsX1_squaresWithTracks (wsV RX1 80 RX1 yX1_tracksOn wsX1_tracksOn) := goodIn_app (goodIn_of _ (by decide +kernel)) ggX1_squaresWithTracks_X1_tracksOn
theorem dX1_squaresWithTracks_0 : decode cX1_squaresWithTracks 0 = .ok (.iconst 0, 1) := by decide +kernel
theorem dX1_squaresWithTracks_1 : decode cX1_squaresWithTracks 1 = .ok (.istore_n 2, 1) := by decide +kernel
theorem dX1_squaresWithTracks_2 : decode cX1_squaresWithTracks 2 = .ok (.iconst 0, 1) := by decide +kernel
theorem dX1_squaresWithTracks_3 : decode cX1_squaresWithTracks 3 = .ok (.istore_n 3, 1) := by decide +kernel
theorem dX1_squaresWithTracks_4 : decode cX1_squaresWithTracks 4 = .ok (.iload_n 3, 1) := by decide +kernel
theorem dX1_squaresWithTracks_5 : decode cX1_squaresWithTracks 5 = .ok (.bipush 80, 2) := by decide +kernel
theorem dX1_squaresWithTracks_7 : decode cX1_squaresWithTracks 7 = .ok (.if_icmp .ge 21, 3) := by decide +kernel
theorem dX1_squaresWithTracks_10 : decode cX1_squaresWithTracks 10 = .ok (.aload_n 0, 1) := by decide +kernel
theorem dX1_squaresWithTracks_11 : decode cX1_squaresWithTracks 11 = .ok (.iload_n 3, 1) := by decide +kernel
theorem dX1_squaresWithTracks_12 : decode cX1_squaresWithTracks 12 = .ok (.invokevirtual 80, 3) := by decide +kernel
theorem dX1_squaresWithTracks_15 : decode cX1_squaresWithTracks 15 = .ok (.iload_n 1, 1) := by decide +kernel
theorem dX1_squaresWithTracks_16 : decode cX1_squaresWithTracks 16 = .ok (.if_icmp .lt 6, 3) := by decide +kernel
theorem dX1_squaresWithTracks_19 : decode cX1_squaresWithTracks 19 = .ok (.iinc 2 1, 3) := by decide +kernel
theorem dX1_squaresWithTracks_22 : decode cX1_squaresWithTracks 22 = .ok (.iinc 3 1, 3) := by decide +kernel
theorem dX1_squaresWithTracks_25 : decode cX1_squaresWithTracks 25 = .ok (.goto (-21), 3) := by decide +kernel
theorem dX1_squaresWithTracks_28 : decode cX1_squaresWithTracks 28 = .ok (.iload_n 2, 1) := by decide +kernel
theorem dX1_squaresWithTracks_29 : decode cX1_squaresWithTracks 29 = .ok (.ireturn, 1) := by decide +kernel
set_option maxRecDepth 20000 in
theorem ggX1_stopsThere_X1_isThere : GoodIn wsX1_stopsThere wsX1_isThere := goodIn_r _ [5, 6, 7, 8, 9, 10, 11, 12, 13, 14, 15, 16, 17, 18, 19, 20, 21] (by decide +kernel) (by decide +kernel)
set_option maxRecDepth 20000 in
theorem gX1_stopsThere_X1_isThere : GoodIn wsX1_stopsThere (wsV RX1 124 RX1 yX1_isThere wsX1_isThere) := goodIn_app (goodIn_of _ (by decide +kernel)) ggX1_stopsThere_X1_isThere
theorem dX1_stopsThere_0 : decode cX1_stopsThere 0 = .ok (.iconst 0, 1) := by decide +kernel
theorem dX1_stopsThere_1 : decode cX1_stopsThere 1 = .ok (.istore_n 1, 1) := by decide +kernel
theorem dX1_stopsThere_2 : decode cX1_stopsThere 2 = .ok (.iconst 0, 1) := by decide +kernel
theorem dX1_stopsThere_3 : decode cX1_stopsThere 3 = .ok (.istore_n 2, 1) := by decide +kernel
theorem dX1_stopsThere_4 : decode cX1_stopsThere 4 = .ok (.iload_n 2, 1) := by decide +kernel
theorem dX1_stopsThere_5 : decode cX1_stopsThere 5 = .ok (.bipush 12, 2) := by decide +kernel
theorem dX1_stopsThere_7 : decode cX1_stopsThere 7 = .ok (.if_icmp .ge 20, 3) := by decide +kernel
theorem dX1_stopsThere_10 : decode cX1_stopsThere 10 = .ok (.aload_n 0, 1) := by decide +kernel
theorem dX1_stopsThere_11 : decode cX1_stopsThere 11 = .ok (.iload_n 2, 1) := by decide +kernel
theorem dX1_stopsThere_12 : decode cX1_stopsThere 12 = .ok (.invokevirtual 124, 3) := by decide +kernel
theorem dX1_stopsThere_15 : decode cX1_stopsThere 15 = .ok (.ifCond .eq 6, 3) := by decide +kernel
theorem dX1_stopsThere_18 : decode cX1_stopsThere 18 = .ok (.iinc 1 1, 3) := by decide +kernel
theorem dX1_stopsThere_21 : decode cX1_stopsThere 21 = .ok (.iinc 2 1, 3) := by decide +kernel
theorem dX1_stopsThere_24 : decode cX1_stopsThere 24 = .ok (.goto (-20), 3) := by decide +kernel
theorem dX1_stopsThere_27 : decode cX1_stopsThere 27 = .ok (.iload_n 1, 1) := by decide +kernel
theorem dX1_stopsThere_28 : decode cX1_stopsThere 28 = .ok (.ireturn, 1) := by decide +kernel
set_option maxRecDepth 20000 in
theorem ggX1_linesThatJoin_X1_joinsStops : GoodIn wsX1_linesThatJoin wsX1_joinsStops := goodIn_r _ [5, 6, 7, 8, 4, 9, 10, 11, 12, 13, 14, 15, 16, 17, 18, 19, 20, 21, 22, 23, 24, 25, 26, 27, 28, 29, 30, 31, 32, 33, 34, 35] (by decide +kernel) (by decide +kernel)
set_option maxRecDepth 20000 in
theorem gX1_linesThatJoin_X1_joinsStops : GoodIn wsX1_linesThatJoin (wsV RX1 128 RX1 yX1_joinsStops wsX1_joinsStops) := goodIn_app (goodIn_of _ (by decide +kernel)) ggX1_linesThatJoin_X1_joinsStops
theorem dX1_linesThatJoin_0 : decode cX1_linesThatJoin 0 = .ok (.iconst 0, 1) := by decide +kernel
theorem dX1_linesThatJoin_1 : decode cX1_linesThatJoin 1 = .ok (.istore_n 1, 1) := by decide +kernel
theorem dX1_linesThatJoin_2 : decode cX1_linesThatJoin 2 = .ok (.iconst 0, 1) := by decide +kernel
theorem dX1_linesThatJoin_3 : decode cX1_linesThatJoin 3 = .ok (.istore_n 2, 1) := by decide +kernel
theorem dX1_linesThatJoin_4 : decode cX1_linesThatJoin 4 = .ok (.iload_n 2, 1) := by decide +kernel
theorem dX1_linesThatJoin_5 : decode cX1_linesThatJoin 5 = .ok (.iconst 4, 1) := by decide +kernel
theorem dX1_linesThatJoin_6 : decode cX1_linesThatJoin 6 = .ok (.if_icmp .ge 20, 3) := by decide +kernel
theorem dX1_linesThatJoin_9 : decode cX1_linesThatJoin 9 = .ok (.aload_n 0, 1) := by decide +kernel
theorem dX1_linesThatJoin_10 : decode cX1_linesThatJoin 10 = .ok (.iload_n 2, 1) := by decide +kernel
theorem dX1_linesThatJoin_11 : decode cX1_linesThatJoin 11 = .ok (.invokevirtual 128, 3) := by decide +kernel
theorem dX1_linesThatJoin_14 : decode cX1_linesThatJoin 14 = .ok (.ifCond .eq 6, 3) := by decide +kernel
theorem dX1_linesThatJoin_17 : decode cX1_linesThatJoin 17 = .ok (.iinc 1 1, 3) := by decide +kernel
theorem dX1_linesThatJoin_20 : decode cX1_linesThatJoin 20 = .ok (.iinc 2 1, 3) := by decide +kernel
theorem dX1_linesThatJoin_23 : decode cX1_linesThatJoin 23 = .ok (.goto (-19), 3) := by decide +kernel
theorem dX1_linesThatJoin_26 : decode cX1_linesThatJoin 26 = .ok (.iload_n 1, 1) := by decide +kernel
theorem dX1_linesThatJoin_27 : decode cX1_linesThatJoin 27 = .ok (.ireturn, 1) := by decide +kernel
set_option maxRecDepth 20000 in
theorem ggX1_leader_X1_stopsReached : GoodIn wsX1_leader wsX1_stopsReached := goodIn_r _ [6, 7, 8, 9, 10, 11, 12, 13, 14, 5, 15, 16, 17, 18, 19, 20, 21, 22, 23, 24, 25, 26, 27, 28] (by decide +kernel) (by decide +kernel)
set_option maxRecDepth 20000 in
theorem gX1_leader_X1_stopsReached : GoodIn wsX1_leader (wsV RX1 118 RX1 yX1_stopsReached wsX1_stopsReached) := goodIn_app (goodIn_of _ (by decide +kernel)) ggX1_leader_X1_stopsReached
set_option maxRecDepth 20000 in
theorem ggX1_leader_X3_at : GoodIn wsX1_leader wsX3_at := goodIn_r _ [11] (by decide +kernel) (by decide +kernel)
set_option maxRecDepth 20000 in
theorem gX1_leader_X3_at_n70 : GoodIn wsX1_leader (wsX3_at) := ggX1_leader_X3_at
theorem dX1_leader_0 : decode cX1_leader 0 = .ok (.iconst 0, 1) := by decide +kernel
theorem dX1_leader_1 : decode cX1_leader 1 = .ok (.istore_n 1, 1) := by decide +kernel
theorem dX1_leader_2 : decode cX1_leader 2 = .ok (.iconst 1, 1) := by decide +kernel
theorem dX1_leader_3 : decode cX1_leader 3 = .ok (.istore_n 2, 1) := by decide +kernel
theorem dX1_leader_4 : decode cX1_leader 4 = .ok (.iload_n 2, 1) := by decide +kernel
theorem dX1_leader_5 : decode cX1_leader 5 = .ok (.iconst 4, 1) := by decide +kernel
theorem dX1_leader_6 : decode cX1_leader 6 = .ok (.if_icmp .ge 50, 3) := by decide +kernel
theorem dX1_leader_9 : decode cX1_leader 9 = .ok (.aload_n 0, 1) := by decide +kernel
theorem dX1_leader_10 : decode cX1_leader 10 = .ok (.iload_n 2, 1) := by decide +kernel
theorem dX1_leader_11 : decode cX1_leader 11 = .ok (.invokevirtual 118, 3) := by decide +kernel
theorem dX1_leader_14 : decode cX1_leader 14 = .ok (.aload_n 0, 1) := by decide +kernel
theorem dX1_leader_15 : decode cX1_leader 15 = .ok (.iload_n 1, 1) := by decide +kernel
theorem dX1_leader_16 : decode cX1_leader 16 = .ok (.invokevirtual 118, 3) := by decide +kernel
theorem dX1_leader_19 : decode cX1_leader 19 = .ok (.isub, 1) := by decide +kernel
theorem dX1_leader_20 : decode cX1_leader 20 = .ok (.istore_n 3, 1) := by decide +kernel
theorem dX1_leader_21 : decode cX1_leader 21 = .ok (.iload_n 3, 1) := by decide +kernel
theorem dX1_leader_22 : decode cX1_leader 22 = .ok (.ifCond .gt 26, 3) := by decide +kernel
theorem dX1_leader_25 : decode cX1_leader 25 = .ok (.iload_n 3, 1) := by decide +kernel
theorem dX1_leader_26 : decode cX1_leader 26 = .ok (.ifCond .ne 24, 3) := by decide +kernel
theorem dX1_leader_29 : decode cX1_leader 29 = .ok (.aload_n 0, 1) := by decide +kernel
theorem dX1_leader_30 : decode cX1_leader 30 = .ok (.getfield 27, 3) := by decide +kernel
theorem dX1_leader_33 : decode cX1_leader 33 = .ok (.iload_n 2, 1) := by decide +kernel
theorem dX1_leader_34 : decode cX1_leader 34 = .ok (.invokestatic 70, 3) := by decide +kernel
theorem dX1_leader_37 : decode cX1_leader 37 = .ok (.aload_n 0, 1) := by decide +kernel
theorem dX1_leader_38 : decode cX1_leader 38 = .ok (.getfield 27, 3) := by decide +kernel
theorem dX1_leader_41 : decode cX1_leader 41 = .ok (.iload_n 1, 1) := by decide +kernel
theorem dX1_leader_42 : decode cX1_leader 42 = .ok (.invokestatic 70, 3) := by decide +kernel
theorem dX1_leader_45 : decode cX1_leader 45 = .ok (.if_icmp .le 5, 3) := by decide +kernel
theorem dX1_leader_48 : decode cX1_leader 48 = .ok (.iload_n 2, 1) := by decide +kernel
theorem dX1_leader_49 : decode cX1_leader 49 = .ok (.istore_n 1, 1) := by decide +kernel
theorem dX1_leader_50 : decode cX1_leader 50 = .ok (.iinc 2 1, 3) := by decide +kernel
theorem dX1_leader_53 : decode cX1_leader 53 = .ok (.goto (-49), 3) := by decide +kernel
theorem dX1_leader_56 : decode cX1_leader 56 = .ok (.iload_n 1, 1) := by decide +kernel
theorem dX1_leader_57 : decode cX1_leader 57 = .ok (.ireturn, 1) := by decide +kernel
set_option maxRecDepth 20000 in
theorem ggX1_share_X1_squaresWithTracks : GoodIn wsX1_share wsX1_squaresWithTracks := goodIn_r _ [5, 6, 7, 8, 4, 9, 10, 11, 12, 13, 14, 15, 16, 17, 18, 19, 20, 21, 22, 23, 24, 25, 26, 27, 28, 29, 30, 31, 32] (by decide +kernel) (by decide +kernel)
set_option maxRecDepth 20000 in
theorem gX1_share_X1_squaresWithTracks : GoodIn wsX1_share (wsV RX1 131 RX1 yX1_squaresWithTracks wsX1_squaresWithTracks) := goodIn_app (goodIn_of _ (by decide +kernel)) ggX1_share_X1_squaresWithTracks
theorem dX1_share_0 : decode cX1_share 0 = .ok (.aload_n 0, 1) := by decide +kernel
theorem dX1_share_1 : decode cX1_share 1 = .ok (.iconst 1, 1) := by decide +kernel
theorem dX1_share_2 : decode cX1_share 2 = .ok (.invokevirtual 131, 3) := by decide +kernel
theorem dX1_share_5 : decode cX1_share 5 = .ok (.istore_n 1, 1) := by decide +kernel
theorem dX1_share_6 : decode cX1_share 6 = .ok (.iload_n 1, 1) := by decide +kernel
theorem dX1_share_7 : decode cX1_share 7 = .ok (.ifCond .ne 7, 3) := by decide +kernel
theorem dX1_share_10 : decode cX1_share 10 = .ok (.dconst 0, 1) := by decide +kernel
theorem dX1_share_11 : decode cX1_share 11 = .ok (.goto 12, 3) := by decide +kernel
theorem dX1_share_14 : decode cX1_share 14 = .ok (.aload_n 0, 1) := by decide +kernel
theorem dX1_share_15 : decode cX1_share 15 = .ok (.iconst 2, 1) := by decide +kernel
theorem dX1_share_16 : decode cX1_share 16 = .ok (.invokevirtual 131, 3) := by decide +kernel
theorem dX1_share_19 : decode cX1_share 19 = .ok (.i2d, 1) := by decide +kernel
theorem dX1_share_20 : decode cX1_share 20 = .ok (.iload_n 1, 1) := by decide +kernel
theorem dX1_share_21 : decode cX1_share 21 = .ok (.i2d, 1) := by decide +kernel
theorem dX1_share_22 : decode cX1_share 22 = .ok (.ddiv, 1) := by decide +kernel
theorem dX1_share_23 : decode cX1_share 23 = .ok (.dreturn, 1) := by decide +kernel
theorem dX2_init_0 : decode cX2_init 0 = .ok (.aload_n 0, 1) := by decide +kernel
theorem dX2_init_1 : decode cX2_init 1 = .ok (.invokespecial 3, 3) := by decide +kernel
theorem dX2_init_4 : decode cX2_init 4 = .ok (.aload_n 0, 1) := by decide +kernel
theorem dX2_init_5 : decode cX2_init 5 = .ok (.bipush 80, 2) := by decide +kernel
theorem dX2_init_7 : decode cX2_init 7 = .ok (.newarray .int, 2) := by decide +kernel
theorem dX2_init_9 : decode cX2_init 9 = .ok (.putfield 9, 3) := by decide +kernel
theorem dX2_init_12 : decode cX2_init 12 = .ok (.aload_n 0, 1) := by decide +kernel
theorem dX2_init_13 : decode cX2_init 13 = .ok (.bipush 80, 2) := by decide +kernel
theorem dX2_init_15 : decode cX2_init 15 = .ok (.newarray .int, 2) := by decide +kernel
theorem dX2_init_17 : decode cX2_init 17 = .ok (.putfield 15, 3) := by decide +kernel
theorem dX2_init_20 : decode cX2_init 20 = .ok (.return_, 1) := by decide +kernel
set_option maxRecDepth 20000 in
theorem ggX2_fewestPieces_X2_clearLengths : GoodIn wsX2_fewestPieces wsX2_clearLengths := goodIn_r _ [6, 1, 7, 8, 9, 10, 11, 47, 48, 49] (by decide +kernel) (by decide +kernel)
set_option maxRecDepth 20000 in
theorem gX2_fewestPieces_X2_clearLengths : GoodIn wsX2_fewestPieces (wsV RX2 18 RX2 yX2_clearLengths wsX2_clearLengths) := goodIn_app (goodIn_of _ (by decide +kernel)) ggX2_fewestPieces_X2_clearLengths
set_option maxRecDepth 20000 in
theorem ggX2_fewestPieces_X1_hasTrack : GoodIn wsX2_fewestPieces wsX1_hasTrack := goodIn_r _ [16, 17, 18, 19, 20, 50, 51, 52, 53, 54, 55, 56, 57, 58, 59, 60, 61] (by decide +kernel) (by decide +kernel)
set_option maxRecDepth 20000 in
theorem gX2_fewestPieces_X1_hasTrack : GoodIn wsX2_fewestPieces (wsV RX2 21 RX1 yX1_hasTrack wsX1_hasTrack) := goodIn_app (goodIn_of _ (by decide +kernel)) ggX2_fewestPieces_X1_hasTrack
set_option maxRecDepth 20000 in
theorem ggX2_fewestPieces_X2_enqueue : GoodIn wsX2_fewestPieces wsX2_enqueue := goodIn_r _ [24, 1, 25, 7, 26, 19, 27, 47, 48, 49] (by decide +kernel) (by decide +kernel)
set_option maxRecDepth 20000 in
theorem gX2_fewestPieces_X2_enqueue : GoodIn wsX2_fewestPieces (wsV RX2 27 RX2 yX2_enqueue wsX2_enqueue) := goodIn_app (goodIn_of _ (by decide +kernel)) ggX2_fewestPieces_X2_enqueue
set_option maxRecDepth 20000 in
theorem ggX2_fewestPieces_X2_flood : GoodIn wsX2_fewestPieces wsX2_flood := goodIn_r _ [31, 7, 25, 1, 18, 19, 20, 32, 33, 34, 35, 36, 15, 37, 17, 38, 39, 40, 41, 42, 43, 44, 45, 46, 21, 22, 23, 5, 24, 26, 27, 47, 48, 49, 50, 51, 52, 53, 54, 55, 56, 57, 58, 59, 60, 61] (by decide +kernel) (by decide +kernel)
set_option maxRecDepth 20000 in
theorem gX2_fewestPieces_X2_flood : GoodIn wsX2_fewestPieces (wsV RX2 31 RX2 yX2_flood wsX2_flood) := goodIn_app (goodIn_of _ (by decide +kernel)) ggX2_fewestPieces_X2_flood
set_option maxRecDepth 20000 in
theorem ggX2_fewestPieces_X3_at : GoodIn wsX2_fewestPieces wsX3_at := goodIn_r _ [20] (by decide +kernel) (by decide +kernel)
set_option maxRecDepth 20000 in
theorem gX2_fewestPieces_X3_at_n35 : GoodIn wsX2_fewestPieces (wsX3_at) := ggX2_fewestPieces_X3_at
theorem dX2_fewestPieces_0 : decode cX2_fewestPieces 0 = .ok (.aload_n 0, 1) := by decide +kernel
theorem dX2_fewestPieces_1 : decode cX2_fewestPieces 1 = .ok (.invokevirtual 18, 3) := by decide +kernel
theorem dX2_fewestPieces_4 : decode cX2_fewestPieces 4 = .ok (.iconst 0, 1) := by decide +kernel
theorem dX2_fewestPieces_5 : decode cX2_fewestPieces 5 = .ok (.istore 4, 2) := by decide +kernel
theorem dX2_fewestPieces_7 : decode cX2_fewestPieces 7 = .ok (.iload 4, 2) := by decide +kernel
theorem dX2_fewestPieces_9 : decode cX2_fewestPieces 9 = .ok (.bipush 80, 2) := by decide +kernel
theorem dX2_fewestPieces_11 : decode cX2_fewestPieces 11 = .ok (.if_icmp .ge 26, 3) := by decide +kernel
theorem dX2_fewestPieces_14 : decode cX2_fewestPieces 14 = .ok (.aload_n 1, 1) := by decide +kernel
theorem dX2_fewestPieces_15 : decode cX2_fewestPieces 15 = .ok (.iload_n 2, 1) := by decide +kernel
theorem dX2_fewestPieces_16 : decode cX2_fewestPieces 16 = .ok (.iload 4, 2) := by decide +kernel
theorem dX2_fewestPieces_18 : decode cX2_fewestPieces 18 = .ok (.invokevirtual 21, 3) := by decide +kernel
theorem dX2_fewestPieces_21 : decode cX2_fewestPieces 21 = .ok (.ifCond .eq 10, 3) := by decide +kernel
theorem dX2_fewestPieces_24 : decode cX2_fewestPieces 24 = .ok (.aload_n 0, 1) := by decide +kernel
theorem dX2_fewestPieces_25 : decode cX2_fewestPieces 25 = .ok (.iload 4, 2) := by decide +kernel
theorem dX2_fewestPieces_27 : decode cX2_fewestPieces 27 = .ok (.iconst 0, 1) := by decide +kernel
theorem dX2_fewestPieces_28 : decode cX2_fewestPieces 28 = .ok (.invokevirtual 27, 3) := by decide +kernel
theorem dX2_fewestPieces_31 : decode cX2_fewestPieces 31 = .ok (.iinc 4 1, 3) := by decide +kernel
theorem dX2_fewestPieces_34 : decode cX2_fewestPieces 34 = .ok (.goto (-27), 3) := by decide +kernel
theorem dX2_fewestPieces_37 : decode cX2_fewestPieces 37 = .ok (.aload_n 0, 1) := by decide +kernel
theorem dX2_fewestPieces_38 : decode cX2_fewestPieces 38 = .ok (.aload_n 1, 1) := by decide +kernel
theorem dX2_fewestPieces_39 : decode cX2_fewestPieces 39 = .ok (.iload_n 2, 1) := by decide +kernel
theorem dX2_fewestPieces_40 : decode cX2_fewestPieces 40 = .ok (.invokevirtual 31, 3) := by decide +kernel
theorem dX2_fewestPieces_43 : decode cX2_fewestPieces 43 = .ok (.aload_n 0, 1) := by decide +kernel
theorem dX2_fewestPieces_44 : decode cX2_fewestPieces 44 = .ok (.getfield 9, 3) := by decide +kernel
theorem dX2_fewestPieces_47 : decode cX2_fewestPieces 47 = .ok (.iload_n 3, 1) := by decide +kernel
theorem dX2_fewestPieces_48 : decode cX2_fewestPieces 48 = .ok (.invokestatic 35, 3) := by decide +kernel
theorem dX2_fewestPieces_51 : decode cX2_fewestPieces 51 = .ok (.ireturn, 1) := by decide +kernel
set_option maxRecDepth 20000 in
theorem ggX2_leastTolls_X1_hasTrack : GoodIn wsX2_leastTolls wsX1_hasTrack := goodIn_r _ [6, 7, 8, 9, 10, 51, 52, 53, 54, 55, 56, 57, 58, 59, 60, 61, 62] (by decide +kernel) (by decide +kernel)
set_option maxRecDepth 20000 in
theorem gX2_leastTolls_X1_hasTrack : GoodIn wsX2_leastTolls (wsV RX2 21 RX1 yX1_hasTrack wsX1_hasTrack) := goodIn_app (goodIn_of _ (by decide +kernel)) ggX2_leastTolls_X1_hasTrack
set_option maxRecDepth 20000 in
theorem ggX2_leastTolls_X3_put : GoodIn wsX2_leastTolls wsX3_put := goodIn_r _ [12] (by decide +kernel) (by decide +kernel)
set_option maxRecDepth 20000 in
theorem gX2_leastTolls_X3_put_n39 : GoodIn wsX2_leastTolls (wsX3_put) := ggX2_leastTolls_X3_put
set_option maxRecDepth 20000 in
theorem ggX2_leastTolls_X2_improveCost : GoodIn wsX2_leastTolls wsX2_improveCost := goodIn_r _ [17, 1, 18, 19, 20, 5, 21, 7, 22, 23, 8, 9, 10, 24, 25, 26, 27, 28, 29, 30, 31, 32, 33, 34, 35, 36, 37, 38, 39, 40, 41, 42, 43, 44, 45, 46, 47, 11, 12, 48, 49, 50, 51, 52, 53, 54, 55, 56, 57, 58, 59, 60, 61, 62] (by decide +kernel) (by decide +kernel)
set_option maxRecDepth 20000 in
theorem gX2_leastTolls_X2_improveCost : GoodIn wsX2_leastTolls (wsV RX2 43 RX2 yX2_improveCost wsX2_improveCost) := goodIn_app (goodIn_of _ (by decide +kernel)) ggX2_leastTolls_X2_improveCost
set_option maxRecDepth 20000 in
theorem ggX2_leastTolls_X3_at : GoodIn wsX2_leastTolls wsX3_at := goodIn_r _ [10] (by decide +kernel) (by decide +kernel)
set_option maxRecDepth 20000 in
theorem gX2_leastTolls_X3_at_n35 : GoodIn wsX2_leastTolls (wsX3_at) := ggX2_leastTolls_X3_at
theorem dX2_leastTolls_0 : decode cX2_leastTolls 0 = .ok (.iconst 0, 1) := by decide +kernel
theorem dX2_leastTolls_1 : decode cX2_leastTolls 1 = .ok (.istore 4, 2) := by decide +kernel
theorem dX2_leastTolls_3 : decode cX2_leastTolls 3 = .ok (.iload 4, 2) := by decide +kernel
theorem dX2_leastTolls_5 : decode cX2_leastTolls 5 = .ok (.bipush 80, 2) := by decide +kernel
theorem dX2_leastTolls_7 : decode cX2_leastTolls 7 = .ok (.if_icmp .ge 33, 3) := by decide +kernel
theorem dX2_leastTolls_10 : decode cX2_leastTolls 10 = .ok (.aload_n 0, 1) := by decide +kernel
theorem dX2_leastTolls_11 : decode cX2_leastTolls 11 = .ok (.getfield 9, 3) := by decide +kernel
theorem dX2_leastTolls_14 : decode cX2_leastTolls 14 = .ok (.iload 4, 2) := by decide +kernel
theorem dX2_leastTolls_16 : decode cX2_leastTolls 16 = .ok (.aload_n 1, 1) := by decide +kernel
theorem dX2_leastTolls_17 : decode cX2_leastTolls 17 = .ok (.iload_n 2, 1) := by decide +kernel
theorem dX2_leastTolls_18 : decode cX2_leastTolls 18 = .ok (.iload 4, 2) := by decide +kernel
theorem dX2_leastTolls_20 : decode cX2_leastTolls 20 = .ok (.invokevirtual 21, 3) := by decide +kernel
theorem dX2_leastTolls_23 : decode cX2_leastTolls 23 = .ok (.ifCond .eq 7, 3) := by decide +kernel
theorem dX2_leastTolls_26 : decode cX2_leastTolls 26 = .ok (.iconst 0, 1) := by decide +kernel
theorem dX2_leastTolls_27 : decode cX2_leastTolls 27 = .ok (.goto 4, 3) := by decide +kernel
theorem dX2_leastTolls_30 : decode cX2_leastTolls 30 = .ok (.iconst (-1), 1) := by decide +kernel
theorem dX2_leastTolls_31 : decode cX2_leastTolls 31 = .ok (.invokestatic 39, 3) := by decide +kernel
theorem dX2_leastTolls_34 : decode cX2_leastTolls 34 = .ok (.iinc 4 1, 3) := by decide +kernel
theorem dX2_leastTolls_37 : decode cX2_leastTolls 37 = .ok (.goto (-34), 3) := by decide +kernel
theorem dX2_leastTolls_40 : decode cX2_leastTolls 40 = .ok (.iconst 1, 1) := by decide +kernel
theorem dX2_leastTolls_41 : decode cX2_leastTolls 41 = .ok (.istore 4, 2) := by decide +kernel
theorem dX2_leastTolls_43 : decode cX2_leastTolls 43 = .ok (.iconst 0, 1) := by decide +kernel
theorem dX2_leastTolls_44 : decode cX2_leastTolls 44 = .ok (.istore 5, 2) := by decide +kernel
theorem dX2_leastTolls_46 : decode cX2_leastTolls 46 = .ok (.iload 5, 2) := by decide +kernel
theorem dX2_leastTolls_48 : decode cX2_leastTolls 48 = .ok (.bipush 80, 2) := by decide +kernel
theorem dX2_leastTolls_50 : decode cX2_leastTolls 50 = .ok (.if_icmp .ge 66, 3) := by decide +kernel
theorem dX2_leastTolls_53 : decode cX2_leastTolls 53 = .ok (.iload 4, 2) := by decide +kernel
theorem dX2_leastTolls_55 : decode cX2_leastTolls 55 = .ok (.ifCond .eq 61, 3) := by decide +kernel
theorem dX2_leastTolls_58 : decode cX2_leastTolls 58 = .ok (.iconst 0, 1) := by decide +kernel
theorem dX2_leastTolls_59 : decode cX2_leastTolls 59 = .ok (.istore 4, 2) := by decide +kernel
theorem dX2_leastTolls_61 : decode cX2_leastTolls 61 = .ok (.iconst 0, 1) := by decide +kernel
theorem dX2_leastTolls_62 : decode cX2_leastTolls 62 = .ok (.istore 6, 2) := by decide +kernel
theorem dX2_leastTolls_64 : decode cX2_leastTolls 64 = .ok (.iload 6, 2) := by decide +kernel
theorem dX2_leastTolls_66 : decode cX2_leastTolls 66 = .ok (.bipush 80, 2) := by decide +kernel
theorem dX2_leastTolls_68 : decode cX2_leastTolls 68 = .ok (.if_icmp .ge 42, 3) := by decide +kernel
theorem dX2_leastTolls_71 : decode cX2_leastTolls 71 = .ok (.iload 5, 2) := by decide +kernel
theorem dX2_leastTolls_73 : decode cX2_leastTolls 73 = .ok (.iconst 2, 1) := by decide +kernel
theorem dX2_leastTolls_74 : decode cX2_leastTolls 74 = .ok (.irem, 1) := by decide +kernel
theorem dX2_leastTolls_75 : decode cX2_leastTolls 75 = .ok (.ifCond .ne 8, 3) := by decide +kernel
theorem dX2_leastTolls_78 : decode cX2_leastTolls 78 = .ok (.iload 6, 2) := by decide +kernel
theorem dX2_leastTolls_80 : decode cX2_leastTolls 80 = .ok (.goto 8, 3) := by decide +kernel
theorem dX2_leastTolls_83 : decode cX2_leastTolls 83 = .ok (.bipush 79, 2) := by decide +kernel
theorem dX2_leastTolls_85 : decode cX2_leastTolls 85 = .ok (.iload 6, 2) := by decide +kernel
theorem dX2_leastTolls_87 : decode cX2_leastTolls 87 = .ok (.isub, 1) := by decide +kernel
theorem dX2_leastTolls_88 : decode cX2_leastTolls 88 = .ok (.istore 7, 2) := by decide +kernel
theorem dX2_leastTolls_90 : decode cX2_leastTolls 90 = .ok (.aload_n 0, 1) := by decide +kernel
theorem dX2_leastTolls_91 : decode cX2_leastTolls 91 = .ok (.aload_n 1, 1) := by decide +kernel
theorem dX2_leastTolls_92 : decode cX2_leastTolls 92 = .ok (.iload_n 2, 1) := by decide +kernel
theorem dX2_leastTolls_93 : decode cX2_leastTolls 93 = .ok (.iload 7, 2) := by decide +kernel
theorem dX2_leastTolls_95 : decode cX2_leastTolls 95 = .ok (.invokevirtual 43, 3) := by decide +kernel
theorem dX2_leastTolls_98 : decode cX2_leastTolls 98 = .ok (.ifCond .eq 6, 3) := by decide +kernel
theorem dX2_leastTolls_101 : decode cX2_leastTolls 101 = .ok (.iconst 1, 1) := by decide +kernel
theorem dX2_leastTolls_102 : decode cX2_leastTolls 102 = .ok (.istore 4, 2) := by decide +kernel
theorem dX2_leastTolls_104 : decode cX2_leastTolls 104 = .ok (.iinc 6 1, 3) := by decide +kernel
theorem dX2_leastTolls_107 : decode cX2_leastTolls 107 = .ok (.goto (-43), 3) := by decide +kernel
theorem dX2_leastTolls_110 : decode cX2_leastTolls 110 = .ok (.iinc 5 1, 3) := by decide +kernel
theorem dX2_leastTolls_113 : decode cX2_leastTolls 113 = .ok (.goto (-67), 3) := by decide +kernel
theorem dX2_leastTolls_116 : decode cX2_leastTolls 116 = .ok (.aload_n 0, 1) := by decide +kernel
theorem dX2_leastTolls_117 : decode cX2_leastTolls 117 = .ok (.getfield 9, 3) := by decide +kernel
theorem dX2_leastTolls_120 : decode cX2_leastTolls 120 = .ok (.iload_n 3, 1) := by decide +kernel
theorem dX2_leastTolls_121 : decode cX2_leastTolls 121 = .ok (.invokestatic 35, 3) := by decide +kernel
theorem dX2_leastTolls_124 : decode cX2_leastTolls 124 = .ok (.ireturn, 1) := by decide +kernel
set_option maxRecDepth 20000 in
theorem ggX2_improveCost_X1_obstacle : GoodIn wsX2_improveCost wsX1_obstacle := goodIn_r _ [6, 7, 8, 9, 10, 11, 12, 13, 14, 15, 16, 17, 18, 19, 42, 43, 44, 45, 46, 47, 48, 49, 50, 51, 52, 53] (by decide +kernel) (by decide +kernel)
set_option maxRecDepth 20000 in
theorem gX2_improveCost_X1_obstacle : GoodIn wsX2_improveCost (wsV RX2 47 RX1 yX1_obstacle wsX1_obstacle) := goodIn_app (goodIn_of _ (by decide +kernel)) ggX2_improveCost_X1_obstacle
set_option maxRecDepth 20000 in
theorem ggX2_improveCost_X3_neighbour : GoodIn wsX2_improveCost wsX3_neighbour := goodIn_r _ [21] (by decide +kernel) (by decide +kernel)
set_option maxRecDepth 20000 in
theorem gX2_improveCost_X3_neighbour_n51 : GoodIn wsX2_improveCost (wsX3_neighbour) := ggX2_improveCost_X3_neighbour
set_option maxRecDepth 20000 in
theorem ggX2_improveCost_X3_at : GoodIn wsX2_improveCost wsX3_at := goodIn_r _ [12] (by decide +kernel) (by decide +kernel)
set_option maxRecDepth 20000 in
theorem gX2_improveCost_X3_at_n35 : GoodIn wsX2_improveCost (wsX3_at) := ggX2_improveCost_X3_at
set_option maxRecDepth 20000 in
theorem ggX2_improveCost_X3_lesser : GoodIn wsX2_improveCost wsX3_lesser := goodIn_r _ [23, 24, 25, 26, 27] (by decide +kernel) (by decide +kernel)
set_option maxRecDepth 20000 in
theorem gX2_improveCost_X3_lesser_n54 : GoodIn wsX2_improveCost (wsX3_lesser) := ggX2_improveCost_X3_lesser
set_option maxRecDepth 20000 in
theorem ggX2_improveCost_X1_tollOn : GoodIn wsX2_improveCost wsX1_tollOn := goodIn_r _ [31, 32, 9, 10, 11, 12, 33, 34, 35, 5, 36, 7, 13, 14, 15, 16, 17, 18, 19, 42, 43, 44, 45, 46, 47, 48, 49, 50, 51, 52, 53] (by decide +kernel) (by decide +kernel)
set_option maxRecDepth 20000 in
theorem gX2_improveCost_X1_tollOn : GoodIn wsX2_improveCost (wsV RX2 57 RX1 yX1_tollOn wsX1_tollOn) := goodIn_app (goodIn_of _ (by decide +kernel)) ggX2_improveCost_X1_tollOn
set_option maxRecDepth 20000 in
theorem ggX2_improveCost_X3_put : GoodIn wsX2_improveCost wsX3_put := goodIn_r _ [38] (by decide +kernel) (by decide +kernel)
set_option maxRecDepth 20000 in
theorem gX2_improveCost_X3_put_n39 : GoodIn wsX2_improveCost (wsX3_put) := ggX2_improveCost_X3_put
theorem dX2_improveCost_0 : decode cX2_improveCost 0 = .ok (.aload_n 1, 1) := by decide +kernel
theorem dX2_improveCost_1 : decode cX2_improveCost 1 = .ok (.iload_n 2, 1) := by decide +kernel
theorem dX2_improveCost_2 : decode cX2_improveCost 2 = .ok (.iload_n 3, 1) := by decide +kernel
theorem dX2_improveCost_3 : decode cX2_improveCost 3 = .ok (.invokevirtual 47, 3) := by decide +kernel
theorem dX2_improveCost_6 : decode cX2_improveCost 6 = .ok (.ifCond .eq 5, 3) := by decide +kernel
theorem dX2_improveCost_9 : decode cX2_improveCost 9 = .ok (.iconst 0, 1) := by decide +kernel
theorem dX2_improveCost_10 : decode cX2_improveCost 10 = .ok (.ireturn, 1) := by decide +kernel
theorem dX2_improveCost_11 : decode cX2_improveCost 11 = .ok (.iconst (-1), 1) := by decide +kernel
theorem dX2_improveCost_12 : decode cX2_improveCost 12 = .ok (.istore 4, 2) := by decide +kernel
theorem dX2_improveCost_14 : decode cX2_improveCost 14 = .ok (.iconst 0, 1) := by decide +kernel
theorem dX2_improveCost_15 : decode cX2_improveCost 15 = .ok (.istore 5, 2) := by decide +kernel
theorem dX2_improveCost_17 : decode cX2_improveCost 17 = .ok (.iload 5, 2) := by decide +kernel
theorem dX2_improveCost_19 : decode cX2_improveCost 19 = .ok (.iconst 4, 1) := by decide +kernel
theorem dX2_improveCost_20 : decode cX2_improveCost 20 = .ok (.if_icmp .ge 39, 3) := by decide +kernel
theorem dX2_improveCost_23 : decode cX2_improveCost 23 = .ok (.iload_n 3, 1) := by decide +kernel
theorem dX2_improveCost_24 : decode cX2_improveCost 24 = .ok (.iload 5, 2) := by decide +kernel
theorem dX2_improveCost_26 : decode cX2_improveCost 26 = .ok (.invokestatic 51, 3) := by decide +kernel
theorem dX2_improveCost_29 : decode cX2_improveCost 29 = .ok (.istore 6, 2) := by decide +kernel
theorem dX2_improveCost_31 : decode cX2_improveCost 31 = .ok (.iload 6, 2) := by decide +kernel
theorem dX2_improveCost_33 : decode cX2_improveCost 33 = .ok (.iconst (-1), 1) := by decide +kernel
theorem dX2_improveCost_34 : decode cX2_improveCost 34 = .ok (.if_icmp .eq 19, 3) := by decide +kernel
theorem dX2_improveCost_37 : decode cX2_improveCost 37 = .ok (.iload 4, 2) := by decide +kernel
theorem dX2_improveCost_39 : decode cX2_improveCost 39 = .ok (.aload_n 0, 1) := by decide +kernel
theorem dX2_improveCost_40 : decode cX2_improveCost 40 = .ok (.getfield 9, 3) := by decide +kernel
theorem dX2_improveCost_43 : decode cX2_improveCost 43 = .ok (.iload 6, 2) := by decide +kernel
theorem dX2_improveCost_45 : decode cX2_improveCost 45 = .ok (.invokestatic 35, 3) := by decide +kernel
theorem dX2_improveCost_48 : decode cX2_improveCost 48 = .ok (.invokestatic 54, 3) := by decide +kernel
theorem dX2_improveCost_51 : decode cX2_improveCost 51 = .ok (.istore 4, 2) := by decide +kernel
theorem dX2_improveCost_53 : decode cX2_improveCost 53 = .ok (.iinc 5 1, 3) := by decide +kernel
theorem dX2_improveCost_56 : decode cX2_improveCost 56 = .ok (.goto (-39), 3) := by decide +kernel
theorem dX2_improveCost_59 : decode cX2_improveCost 59 = .ok (.iload 4, 2) := by decide +kernel
theorem dX2_improveCost_61 : decode cX2_improveCost 61 = .ok (.iconst (-1), 1) := by decide +kernel
theorem dX2_improveCost_62 : decode cX2_improveCost 62 = .ok (.if_icmp .ne 5, 3) := by decide +kernel
theorem dX2_improveCost_65 : decode cX2_improveCost 65 = .ok (.iconst 0, 1) := by decide +kernel
theorem dX2_improveCost_66 : decode cX2_improveCost 66 = .ok (.ireturn, 1) := by decide +kernel
theorem dX2_improveCost_67 : decode cX2_improveCost 67 = .ok (.iload 4, 2) := by decide +kernel
theorem dX2_improveCost_69 : decode cX2_improveCost 69 = .ok (.aload_n 1, 1) := by decide +kernel
theorem dX2_improveCost_70 : decode cX2_improveCost 70 = .ok (.iload_n 3, 1) := by decide +kernel
theorem dX2_improveCost_71 : decode cX2_improveCost 71 = .ok (.invokevirtual 57, 3) := by decide +kernel
theorem dX2_improveCost_74 : decode cX2_improveCost 74 = .ok (.iadd, 1) := by decide +kernel
theorem dX2_improveCost_75 : decode cX2_improveCost 75 = .ok (.istore 5, 2) := by decide +kernel
theorem dX2_improveCost_77 : decode cX2_improveCost 77 = .ok (.aload_n 0, 1) := by decide +kernel
theorem dX2_improveCost_78 : decode cX2_improveCost 78 = .ok (.getfield 9, 3) := by decide +kernel
theorem dX2_improveCost_81 : decode cX2_improveCost 81 = .ok (.iload_n 3, 1) := by decide +kernel
theorem dX2_improveCost_82 : decode cX2_improveCost 82 = .ok (.invokestatic 35, 3) := by decide +kernel
theorem dX2_improveCost_85 : decode cX2_improveCost 85 = .ok (.istore 6, 2) := by decide +kernel
theorem dX2_improveCost_87 : decode cX2_improveCost 87 = .ok (.iload 6, 2) := by decide +kernel
theorem dX2_improveCost_89 : decode cX2_improveCost 89 = .ok (.iconst (-1), 1) := by decide +kernel
theorem dX2_improveCost_90 : decode cX2_improveCost 90 = .ok (.if_icmp .eq 12, 3) := by decide +kernel
theorem dX2_improveCost_93 : decode cX2_improveCost 93 = .ok (.iload 6, 2) := by decide +kernel
theorem dX2_improveCost_95 : decode cX2_improveCost 95 = .ok (.iload 5, 2) := by decide +kernel
theorem dX2_improveCost_97 : decode cX2_improveCost 97 = .ok (.if_icmp .gt 5, 3) := by decide +kernel
theorem dX2_improveCost_100 : decode cX2_improveCost 100 = .ok (.iconst 0, 1) := by decide +kernel
theorem dX2_improveCost_101 : decode cX2_improveCost 101 = .ok (.ireturn, 1) := by decide +kernel
theorem dX2_improveCost_102 : decode cX2_improveCost 102 = .ok (.aload_n 0, 1) := by decide +kernel
theorem dX2_improveCost_103 : decode cX2_improveCost 103 = .ok (.getfield 9, 3) := by decide +kernel
theorem dX2_improveCost_106 : decode cX2_improveCost 106 = .ok (.iload_n 3, 1) := by decide +kernel
theorem dX2_improveCost_107 : decode cX2_improveCost 107 = .ok (.iload 5, 2) := by decide +kernel
theorem dX2_improveCost_109 : decode cX2_improveCost 109 = .ok (.invokestatic 39, 3) := by decide +kernel
theorem dX2_improveCost_112 : decode cX2_improveCost 112 = .ok (.iconst 1, 1) := by decide +kernel
theorem dX2_improveCost_113 : decode cX2_improveCost 113 = .ok (.ireturn, 1) := by decide +kernel
set_option maxRecDepth 20000 in
theorem ggX2_bestDirection_X2_floodFromMissingStops : GoodIn wsX2_bestDirection wsX2_floodFromMissingStops := goodIn_r _ [7, 8, 9, 10, 11, 6, 12, 2, 13, 14, 15, 16, 17, 18, 19, 20, 21, 22, 23, 24, 25, 26, 27, 28, 29, 30, 31, 32, 33, 34, 35, 36, 37, 38, 39, 40, 41, 42, 43, 44, 45, 46, 47, 48, 49, 50, 51, 52, 53, 54, 55, 56, 57, 58, 89, 90, 91, 92, 93, 94, 95, 96, 97, 98, 99, 100, 101, 102, 103] (by decide +kernel) (by decide +kernel)
set_option maxRecDepth 20000 in
theorem gX2_bestDirection_X2_floodFromMissingStops : GoodIn wsX2_bestDirection (wsV RX2 61 RX2 yX2_floodFromMissingStops wsX2_floodFromMissingStops) := goodIn_app (goodIn_of _ (by decide +kernel)) ggX2_bestDirection_X2_floodFromMissingStops
set_option maxRecDepth 20000 in
theorem ggX2_bestDirection_X2_nearestOfLine : GoodIn wsX2_bestDirection wsX2_nearestOfLine := goodIn_r _ [62, 2, 63, 29, 30, 24, 31, 32, 18, 19, 20, 64, 65, 66, 67, 68, 69, 101, 102, 103, 89, 90, 91, 92, 93, 94, 95, 96, 97, 98, 99, 100] (by decide +kernel) (by decide +kernel)
set_option maxRecDepth 20000 in
theorem gX2_bestDirection_X2_nearestOfLine : GoodIn wsX2_bestDirection (wsV RX2 64 RX2 yX2_nearestOfLine wsX2_nearestOfLine) := goodIn_app (goodIn_of _ (by decide +kernel)) ggX2_bestDirection_X2_nearestOfLine
set_option maxRecDepth 20000 in
theorem ggX2_bestDirection_X3_at : GoodIn wsX2_bestDirection wsX3_at := goodIn_r _ [20] (by decide +kernel) (by decide +kernel)
set_option maxRecDepth 20000 in
theorem gX2_bestDirection_X3_at_n35 : GoodIn wsX2_bestDirection (wsX3_at) := ggX2_bestDirection_X3_at
set_option maxRecDepth 20000 in
theorem ggX2_bestDirection_X1_reason : GoodIn wsX2_bestDirection wsX1_reason := goodIn_r _ [73, 74, 75, 57, 19, 58, 18, 20, 76, 77, 78, 34, 35, 24, 36, 32, 37, 38, 39, 40, 41, 42, 43, 44, 45, 79, 80, 81, 82, 83, 84, 85, 86, 87, 89, 90, 91, 92, 93, 94, 95, 96, 97, 98, 99, 100] (by decide +kernel) (by decide +kernel)
set_option maxRecDepth 20000 in
theorem gX2_bestDirection_X1_reason : GoodIn wsX2_bestDirection (wsV RX2 71 RX1 yX1_reason wsX1_reason) := goodIn_app (goodIn_of _ (by decide +kernel)) ggX2_bestDirection_X1_reason
set_option maxRecDepth 20000 in
theorem ggX2_bestDirection_X3_neighbour : GoodIn wsX2_bestDirection wsX3_neighbour := goodIn_r _ [58] (by decide +kernel) (by decide +kernel)
set_option maxRecDepth 20000 in
theorem gX2_bestDirection_X3_neighbour_n51 : GoodIn wsX2_bestDirection (wsX3_neighbour) := ggX2_bestDirection_X3_neighbour
set_option maxRecDepth 20000 in
theorem ggX2_bestDirection_X3_lesser : GoodIn wsX2_bestDirection wsX3_lesser := goodIn_r _ [65, 66, 67, 68, 69] (by decide +kernel) (by decide +kernel)
set_option maxRecDepth 20000 in
theorem gX2_bestDirection_X3_lesser_n54 : GoodIn wsX2_bestDirection (wsX3_lesser) := ggX2_bestDirection_X3_lesser
set_option maxRecDepth 20000 in
theorem ggX2_bestDirection_X1_tollOn : GoodIn wsX2_bestDirection wsX1_tollOn := goodIn_r _ [82, 83, 38, 18, 19, 20, 84, 85, 86, 24, 87, 32, 39, 40, 41, 42, 43, 44, 45, 89, 90, 91, 92, 93, 94, 95, 96, 97, 98, 99, 100] (by decide +kernel) (by decide +kernel)
set_option maxRecDepth 20000 in
theorem gX2_bestDirection_X1_tollOn : GoodIn wsX2_bestDirection (wsV RX2 57 RX1 yX1_tollOn wsX1_tollOn) := goodIn_app (goodIn_of _ (by decide +kernel)) ggX2_bestDirection_X1_tollOn
theorem dX2_bestDirection_0 : decode cX2_bestDirection 0 = .ok (.aload_n 0, 1) := by decide +kernel
theorem dX2_bestDirection_1 : decode cX2_bestDirection 1 = .ok (.aload_n 1, 1) := by decide +kernel
theorem dX2_bestDirection_2 : decode cX2_bestDirection 2 = .ok (.iload_n 2, 1) := by decide +kernel
theorem dX2_bestDirection_3 : decode cX2_bestDirection 3 = .ok (.invokevirtual 61, 3) := by decide +kernel
theorem dX2_bestDirection_6 : decode cX2_bestDirection 6 = .ok (.aload_n 0, 1) := by decide +kernel
theorem dX2_bestDirection_7 : decode cX2_bestDirection 7 = .ok (.aload_n 1, 1) := by decide +kernel
theorem dX2_bestDirection_8 : decode cX2_bestDirection 8 = .ok (.iload_n 2, 1) := by decide +kernel
theorem dX2_bestDirection_9 : decode cX2_bestDirection 9 = .ok (.invokevirtual 64, 3) := by decide +kernel
theorem dX2_bestDirection_12 : decode cX2_bestDirection 12 = .ok (.istore 4, 2) := by decide +kernel
theorem dX2_bestDirection_14 : decode cX2_bestDirection 14 = .ok (.aload_n 1, 1) := by decide +kernel
theorem dX2_bestDirection_15 : decode cX2_bestDirection 15 = .ok (.getfield 68, 3) := by decide +kernel
theorem dX2_bestDirection_18 : decode cX2_bestDirection 18 = .ok (.iload_n 2, 1) := by decide +kernel
theorem dX2_bestDirection_19 : decode cX2_bestDirection 19 = .ok (.invokestatic 35, 3) := by decide +kernel
theorem dX2_bestDirection_22 : decode cX2_bestDirection 22 = .ok (.istore 5, 2) := by decide +kernel
theorem dX2_bestDirection_24 : decode cX2_bestDirection 24 = .ok (.iconst (-1), 1) := by decide +kernel
theorem dX2_bestDirection_25 : decode cX2_bestDirection 25 = .ok (.istore 6, 2) := by decide +kernel
theorem dX2_bestDirection_27 : decode cX2_bestDirection 27 = .ok (.iconst 0, 1) := by decide +kernel
theorem dX2_bestDirection_28 : decode cX2_bestDirection 28 = .ok (.istore 7, 2) := by decide +kernel
theorem dX2_bestDirection_30 : decode cX2_bestDirection 30 = .ok (.iconst 0, 1) := by decide +kernel
theorem dX2_bestDirection_31 : decode cX2_bestDirection 31 = .ok (.istore 8, 2) := by decide +kernel
theorem dX2_bestDirection_33 : decode cX2_bestDirection 33 = .ok (.iconst 0, 1) := by decide +kernel
theorem dX2_bestDirection_34 : decode cX2_bestDirection 34 = .ok (.istore 9, 2) := by decide +kernel
theorem dX2_bestDirection_36 : decode cX2_bestDirection 36 = .ok (.iload 9, 2) := by decide +kernel
theorem dX2_bestDirection_38 : decode cX2_bestDirection 38 = .ok (.iconst 4, 1) := by decide +kernel
theorem dX2_bestDirection_39 : decode cX2_bestDirection 39 = .ok (.if_icmp .ge 106, 3) := by decide +kernel
theorem dX2_bestDirection_42 : decode cX2_bestDirection 42 = .ok (.aload_n 1, 1) := by decide +kernel
theorem dX2_bestDirection_43 : decode cX2_bestDirection 43 = .ok (.iload_n 2, 1) := by decide +kernel
theorem dX2_bestDirection_44 : decode cX2_bestDirection 44 = .ok (.iload 5, 2) := by decide +kernel
theorem dX2_bestDirection_46 : decode cX2_bestDirection 46 = .ok (.iload_n 3, 1) := by decide +kernel
theorem dX2_bestDirection_47 : decode cX2_bestDirection 47 = .ok (.iload 9, 2) := by decide +kernel
theorem dX2_bestDirection_49 : decode cX2_bestDirection 49 = .ok (.invokevirtual 71, 3) := by decide +kernel
theorem dX2_bestDirection_52 : decode cX2_bestDirection 52 = .ok (.ifCond .eq 6, 3) := by decide +kernel
theorem dX2_bestDirection_55 : decode cX2_bestDirection 55 = .ok (.goto 84, 3) := by decide +kernel
theorem dX2_bestDirection_58 : decode cX2_bestDirection 58 = .ok (.iload 5, 2) := by decide +kernel
theorem dX2_bestDirection_60 : decode cX2_bestDirection 60 = .ok (.iload 9, 2) := by decide +kernel
theorem dX2_bestDirection_62 : decode cX2_bestDirection 62 = .ok (.invokestatic 51, 3) := by decide +kernel
theorem dX2_bestDirection_65 : decode cX2_bestDirection 65 = .ok (.istore 10, 2) := by decide +kernel
theorem dX2_bestDirection_67 : decode cX2_bestDirection 67 = .ok (.iload 4, 2) := by decide +kernel
theorem dX2_bestDirection_69 : decode cX2_bestDirection 69 = .ok (.aload_n 0, 1) := by decide +kernel
theorem dX2_bestDirection_70 : decode cX2_bestDirection 70 = .ok (.getfield 9, 3) := by decide +kernel
theorem dX2_bestDirection_73 : decode cX2_bestDirection 73 = .ok (.iload 10, 2) := by decide +kernel
theorem dX2_bestDirection_75 : decode cX2_bestDirection 75 = .ok (.invokestatic 35, 3) := by decide +kernel
theorem dX2_bestDirection_78 : decode cX2_bestDirection 78 = .ok (.invokestatic 54, 3) := by decide +kernel
theorem dX2_bestDirection_81 : decode cX2_bestDirection 81 = .ok (.istore 11, 2) := by decide +kernel
theorem dX2_bestDirection_83 : decode cX2_bestDirection 83 = .ok (.aload_n 1, 1) := by decide +kernel
theorem dX2_bestDirection_84 : decode cX2_bestDirection 84 = .ok (.iload 10, 2) := by decide +kernel
theorem dX2_bestDirection_86 : decode cX2_bestDirection 86 = .ok (.invokevirtual 57, 3) := by decide +kernel
theorem dX2_bestDirection_89 : decode cX2_bestDirection 89 = .ok (.istore 12, 2) := by decide +kernel
theorem dX2_bestDirection_91 : decode cX2_bestDirection 91 = .ok (.iload 11, 2) := by decide +kernel
theorem dX2_bestDirection_93 : decode cX2_bestDirection 93 = .ok (.iconst (-1), 1) := by decide +kernel
theorem dX2_bestDirection_94 : decode cX2_bestDirection 94 = .ok (.if_icmp .ne 6, 3) := by decide +kernel
theorem dX2_bestDirection_97 : decode cX2_bestDirection 97 = .ok (.goto 42, 3) := by decide +kernel
theorem dX2_bestDirection_100 : decode cX2_bestDirection 100 = .ok (.iload 6, 2) := by decide +kernel
theorem dX2_bestDirection_102 : decode cX2_bestDirection 102 = .ok (.iconst (-1), 1) := by decide +kernel
theorem dX2_bestDirection_103 : decode cX2_bestDirection 103 = .ok (.if_icmp .eq 24, 3) := by decide +kernel
theorem dX2_bestDirection_106 : decode cX2_bestDirection 106 = .ok (.iload 11, 2) := by decide +kernel
theorem dX2_bestDirection_108 : decode cX2_bestDirection 108 = .ok (.iload 7, 2) := by decide +kernel
theorem dX2_bestDirection_110 : decode cX2_bestDirection 110 = .ok (.if_icmp .lt 17, 3) := by decide +kernel
theorem dX2_bestDirection_113 : decode cX2_bestDirection 113 = .ok (.iload 11, 2) := by decide +kernel
theorem dX2_bestDirection_115 : decode cX2_bestDirection 115 = .ok (.iload 7, 2) := by decide +kernel
theorem dX2_bestDirection_117 : decode cX2_bestDirection 117 = .ok (.if_icmp .ne 22, 3) := by decide +kernel
theorem dX2_bestDirection_120 : decode cX2_bestDirection 120 = .ok (.iload 12, 2) := by decide +kernel
theorem dX2_bestDirection_122 : decode cX2_bestDirection 122 = .ok (.iload 8, 2) := by decide +kernel
theorem dX2_bestDirection_124 : decode cX2_bestDirection 124 = .ok (.if_icmp .ge 15, 3) := by decide +kernel
theorem dX2_bestDirection_127 : decode cX2_bestDirection 127 = .ok (.iload 9, 2) := by decide +kernel
theorem dX2_bestDirection_129 : decode cX2_bestDirection 129 = .ok (.istore 6, 2) := by decide +kernel
theorem dX2_bestDirection_131 : decode cX2_bestDirection 131 = .ok (.iload 11, 2) := by decide +kernel
theorem dX2_bestDirection_133 : decode cX2_bestDirection 133 = .ok (.istore 7, 2) := by decide +kernel
theorem dX2_bestDirection_135 : decode cX2_bestDirection 135 = .ok (.iload 12, 2) := by decide +kernel
theorem dX2_bestDirection_137 : decode cX2_bestDirection 137 = .ok (.istore 8, 2) := by decide +kernel
theorem dX2_bestDirection_139 : decode cX2_bestDirection 139 = .ok (.iinc 9 1, 3) := by decide +kernel
theorem dX2_bestDirection_142 : decode cX2_bestDirection 142 = .ok (.goto (-106), 3) := by decide +kernel
theorem dX2_bestDirection_145 : decode cX2_bestDirection 145 = .ok (.iload 6, 2) := by decide +kernel
theorem dX2_bestDirection_147 : decode cX2_bestDirection 147 = .ok (.ireturn, 1) := by decide +kernel
set_option maxRecDepth 20000 in
theorem ggX2_floodFromMissingStops_X2_clearLengths : GoodIn wsX2_floodFromMissingStops wsX2_clearLengths := goodIn_r _ [6, 7, 8, 9, 10, 11, 12, 66, 67, 68] (by decide +kernel) (by decide +kernel)
set_option maxRecDepth 20000 in
theorem gX2_floodFromMissingStops_X2_clearLengths : GoodIn wsX2_floodFromMissingStops (wsV RX2 18 RX2 yX2_clearLengths wsX2_clearLengths) := goodIn_app (goodIn_of _ (by decide +kernel)) ggX2_floodFromMissingStops_X2_clearLengths
set_option maxRecDepth 20000 in
theorem ggX2_floodFromMissingStops_X3_at : GoodIn wsX2_floodFromMissingStops wsX3_at := goodIn_r _ [15] (by decide +kernel) (by decide +kernel)
set_option maxRecDepth 20000 in
theorem gX2_floodFromMissingStops_X3_at_n35 : GoodIn wsX2_floodFromMissingStops (wsX3_at) := ggX2_floodFromMissingStops_X3_at
set_option maxRecDepth 20000 in
theorem ggX2_floodFromMissingStops_X1_isMissing : GoodIn wsX2_floodFromMissingStops wsX1_isMissing := goodIn_r _ [20, 21, 22, 13, 14, 15, 23, 24, 25, 19, 26, 27, 54, 55, 56, 57, 58, 59, 60, 61, 62, 63, 64, 65] (by decide +kernel) (by decide +kernel)
set_option maxRecDepth 20000 in
theorem gX2_floodFromMissingStops_X1_isMissing : GoodIn wsX2_floodFromMissingStops (wsV RX2 78 RX1 yX1_isMissing wsX1_isMissing) := goodIn_app (goodIn_of _ (by decide +kernel)) ggX2_floodFromMissingStops_X1_isMissing
set_option maxRecDepth 20000 in
theorem ggX2_floodFromMissingStops_X1_obstacle : GoodIn wsX2_floodFromMissingStops wsX1_obstacle := goodIn_r _ [31, 27, 32, 33, 13, 14, 15, 34, 35, 36, 37, 38, 39, 40, 54, 55, 56, 57, 58, 59, 60, 61, 62, 63, 64, 65] (by decide +kernel) (by decide +kernel)
set_option maxRecDepth 20000 in
theorem gX2_floodFromMissingStops_X1_obstacle : GoodIn wsX2_floodFromMissingStops (wsV RX2 47 RX1 yX1_obstacle wsX1_obstacle) := goodIn_app (goodIn_of _ (by decide +kernel)) ggX2_floodFromMissingStops_X1_obstacle
set_option maxRecDepth 20000 in
theorem ggX2_floodFromMissingStops_X2_enqueue : GoodIn wsX2_floodFromMissingStops wsX2_enqueue := goodIn_r _ [44, 7, 45, 8, 46, 14, 47, 66, 67, 68] (by decide +kernel) (by decide +kernel)
set_option maxRecDepth 20000 in
theorem gX2_floodFromMissingStops_X2_enqueue : GoodIn wsX2_floodFromMissingStops (wsV RX2 27 RX2 yX2_enqueue wsX2_enqueue) := goodIn_app (goodIn_of _ (by decide +kernel)) ggX2_floodFromMissingStops_X2_enqueue
set_option maxRecDepth 20000 in
theorem ggX2_floodFromMissingStops_X2_flood : GoodIn wsX2_floodFromMissingStops wsX2_flood := goodIn_r _ [51, 8, 45, 7, 13, 14, 15, 52, 53, 28, 29, 30, 19, 31, 27, 32, 33, 34, 35, 36, 37, 38, 39, 40, 41, 42, 43, 5, 44, 46, 47, 66, 67, 68, 54, 55, 56, 57, 58, 59, 60, 61, 62, 63, 64, 65] (by decide +kernel) (by decide +kernel)
set_option maxRecDepth 20000 in
theorem gX2_floodFromMissingStops_X2_flood : GoodIn wsX2_floodFromMissingStops (wsV RX2 31 RX2 yX2_flood wsX2_flood) := goodIn_app (goodIn_of _ (by decide +kernel)) ggX2_floodFromMissingStops_X2_flood
theorem dX2_floodFromMissingStops_0 : decode cX2_floodFromMissingStops 0 = .ok (.aload_n 0, 1) := by decide +kernel
theorem dX2_floodFromMissingStops_1 : decode cX2_floodFromMissingStops 1 = .ok (.invokevirtual 18, 3) := by decide +kernel
theorem dX2_floodFromMissingStops_4 : decode cX2_floodFromMissingStops 4 = .ok (.iconst 0, 1) := by decide +kernel
theorem dX2_floodFromMissingStops_5 : decode cX2_floodFromMissingStops 5 = .ok (.istore_n 3, 1) := by decide +kernel
theorem dX2_floodFromMissingStops_6 : decode cX2_floodFromMissingStops 6 = .ok (.iload_n 3, 1) := by decide +kernel
theorem dX2_floodFromMissingStops_7 : decode cX2_floodFromMissingStops 7 = .ok (.bipush 12, 2) := by decide +kernel
theorem dX2_floodFromMissingStops_9 : decode cX2_floodFromMissingStops 9 = .ok (.if_icmp .ge 45, 3) := by decide +kernel
theorem dX2_floodFromMissingStops_12 : decode cX2_floodFromMissingStops 12 = .ok (.aload_n 1, 1) := by decide +kernel
theorem dX2_floodFromMissingStops_13 : decode cX2_floodFromMissingStops 13 = .ok (.getfield 75, 3) := by decide +kernel
theorem dX2_floodFromMissingStops_16 : decode cX2_floodFromMissingStops 16 = .ok (.iload_n 3, 1) := by decide +kernel
theorem dX2_floodFromMissingStops_17 : decode cX2_floodFromMissingStops 17 = .ok (.invokestatic 35, 3) := by decide +kernel
theorem dX2_floodFromMissingStops_20 : decode cX2_floodFromMissingStops 20 = .ok (.istore 4, 2) := by decide +kernel
theorem dX2_floodFromMissingStops_22 : decode cX2_floodFromMissingStops 22 = .ok (.aload_n 1, 1) := by decide +kernel
theorem dX2_floodFromMissingStops_23 : decode cX2_floodFromMissingStops 23 = .ok (.iload_n 3, 1) := by decide +kernel
theorem dX2_floodFromMissingStops_24 : decode cX2_floodFromMissingStops 24 = .ok (.iload_n 2, 1) := by decide +kernel
theorem dX2_floodFromMissingStops_25 : decode cX2_floodFromMissingStops 25 = .ok (.invokevirtual 78, 3) := by decide +kernel
theorem dX2_floodFromMissingStops_28 : decode cX2_floodFromMissingStops 28 = .ok (.ifCond .eq 20, 3) := by decide +kernel
theorem dX2_floodFromMissingStops_31 : decode cX2_floodFromMissingStops 31 = .ok (.aload_n 1, 1) := by decide +kernel
theorem dX2_floodFromMissingStops_32 : decode cX2_floodFromMissingStops 32 = .ok (.iload_n 2, 1) := by decide +kernel
theorem dX2_floodFromMissingStops_33 : decode cX2_floodFromMissingStops 33 = .ok (.iload 4, 2) := by decide +kernel
theorem dX2_floodFromMissingStops_35 : decode cX2_floodFromMissingStops 35 = .ok (.invokevirtual 47, 3) := by decide +kernel
theorem dX2_floodFromMissingStops_38 : decode cX2_floodFromMissingStops 38 = .ok (.ifCond .ne 10, 3) := by decide +kernel
theorem dX2_floodFromMissingStops_41 : decode cX2_floodFromMissingStops 41 = .ok (.aload_n 0, 1) := by decide +kernel
theorem dX2_floodFromMissingStops_42 : decode cX2_floodFromMissingStops 42 = .ok (.iload 4, 2) := by decide +kernel
theorem dX2_floodFromMissingStops_44 : decode cX2_floodFromMissingStops 44 = .ok (.iconst 0, 1) := by decide +kernel
theorem dX2_floodFromMissingStops_45 : decode cX2_floodFromMissingStops 45 = .ok (.invokevirtual 27, 3) := by decide +kernel
theorem dX2_floodFromMissingStops_48 : decode cX2_floodFromMissingStops 48 = .ok (.iinc 3 1, 3) := by decide +kernel
theorem dX2_floodFromMissingStops_51 : decode cX2_floodFromMissingStops 51 = .ok (.goto (-45), 3) := by decide +kernel
theorem dX2_floodFromMissingStops_54 : decode cX2_floodFromMissingStops 54 = .ok (.aload_n 0, 1) := by decide +kernel
theorem dX2_floodFromMissingStops_55 : decode cX2_floodFromMissingStops 55 = .ok (.aload_n 1, 1) := by decide +kernel
theorem dX2_floodFromMissingStops_56 : decode cX2_floodFromMissingStops 56 = .ok (.iload_n 2, 1) := by decide +kernel
theorem dX2_floodFromMissingStops_57 : decode cX2_floodFromMissingStops 57 = .ok (.invokevirtual 31, 3) := by decide +kernel
theorem dX2_floodFromMissingStops_60 : decode cX2_floodFromMissingStops 60 = .ok (.return_, 1) := by decide +kernel
set_option maxRecDepth 20000 in
theorem ggX2_nearestOfLine_X1_hasTrack : GoodIn wsX2_nearestOfLine wsX1_hasTrack := goodIn_r _ [6, 7, 8, 9, 10, 20, 21, 22, 23, 24, 25, 26, 27, 28, 29, 30, 31] (by decide +kernel) (by decide +kernel)
set_option maxRecDepth 20000 in
theorem gX2_nearestOfLine_X1_hasTrack : GoodIn wsX2_nearestOfLine (wsV RX2 21 RX1 yX1_hasTrack wsX1_hasTrack) := goodIn_app (goodIn_of _ (by decide +kernel)) ggX2_nearestOfLine_X1_hasTrack
set_option maxRecDepth 20000 in
theorem ggX2_nearestOfLine_X3_at : GoodIn wsX2_nearestOfLine wsX3_at := goodIn_r _ [10] (by decide +kernel) (by decide +kernel)
set_option maxRecDepth 20000 in
theorem gX2_nearestOfLine_X3_at_n35 : GoodIn wsX2_nearestOfLine (wsX3_at) := ggX2_nearestOfLine_X3_at
set_option maxRecDepth 20000 in
theorem ggX2_nearestOfLine_X3_lesser : GoodIn wsX2_nearestOfLine wsX3_lesser := goodIn_r _ [12, 13, 14, 15, 16] (by decide +kernel) (by decide +kernel)
set_option maxRecDepth 20000 in
theorem gX2_nearestOfLine_X3_lesser_n54 : GoodIn wsX2_nearestOfLine (wsX3_lesser) := ggX2_nearestOfLine_X3_lesser
theorem dX2_nearestOfLine_0 : decode cX2_nearestOfLine 0 = .ok (.iconst (-1), 1) := by decide +kernel
theorem dX2_nearestOfLine_1 : decode cX2_nearestOfLine 1 = .ok (.istore_n 3, 1) := by decide +kernel
theorem dX2_nearestOfLine_2 : decode cX2_nearestOfLine 2 = .ok (.iconst 0, 1) := by decide +kernel
theorem dX2_nearestOfLine_3 : decode cX2_nearestOfLine 3 = .ok (.istore 4, 2) := by decide +kernel
theorem dX2_nearestOfLine_5 : decode cX2_nearestOfLine 5 = .ok (.iload 4, 2) := by decide +kernel
theorem dX2_nearestOfLine_7 : decode cX2_nearestOfLine 7 = .ok (.bipush 80, 2) := by decide +kernel
theorem dX2_nearestOfLine_9 : decode cX2_nearestOfLine 9 = .ok (.if_icmp .ge 33, 3) := by decide +kernel
theorem dX2_nearestOfLine_12 : decode cX2_nearestOfLine 12 = .ok (.aload_n 1, 1) := by decide +kernel
theorem dX2_nearestOfLine_13 : decode cX2_nearestOfLine 13 = .ok (.iload_n 2, 1) := by decide +kernel
theorem dX2_nearestOfLine_14 : decode cX2_nearestOfLine 14 = .ok (.iload 4, 2) := by decide +kernel
theorem dX2_nearestOfLine_16 : decode cX2_nearestOfLine 16 = .ok (.invokevirtual 21, 3) := by decide +kernel
theorem dX2_nearestOfLine_19 : decode cX2_nearestOfLine 19 = .ok (.ifCond .eq 17, 3) := by decide +kernel
theorem dX2_nearestOfLine_22 : decode cX2_nearestOfLine 22 = .ok (.iload_n 3, 1) := by decide +kernel
theorem dX2_nearestOfLine_23 : decode cX2_nearestOfLine 23 = .ok (.aload_n 0, 1) := by decide +kernel
theorem dX2_nearestOfLine_24 : decode cX2_nearestOfLine 24 = .ok (.getfield 9, 3) := by decide +kernel
theorem dX2_nearestOfLine_27 : decode cX2_nearestOfLine 27 = .ok (.iload 4, 2) := by decide +kernel
theorem dX2_nearestOfLine_29 : decode cX2_nearestOfLine 29 = .ok (.invokestatic 35, 3) := by decide +kernel
theorem dX2_nearestOfLine_32 : decode cX2_nearestOfLine 32 = .ok (.invokestatic 54, 3) := by decide +kernel
theorem dX2_nearestOfLine_35 : decode cX2_nearestOfLine 35 = .ok (.istore_n 3, 1) := by decide +kernel
theorem dX2_nearestOfLine_36 : decode cX2_nearestOfLine 36 = .ok (.iinc 4 1, 3) := by decide +kernel
theorem dX2_nearestOfLine_39 : decode cX2_nearestOfLine 39 = .ok (.goto (-34), 3) := by decide +kernel
theorem dX2_nearestOfLine_42 : decode cX2_nearestOfLine 42 = .ok (.iload_n 3, 1) := by decide +kernel
theorem dX2_nearestOfLine_43 : decode cX2_nearestOfLine 43 = .ok (.ireturn, 1) := by decide +kernel
set_option maxRecDepth 20000 in
theorem ggX2_clearLengths_J7_fill_53178 : GoodIn wsX2_clearLengths wsJ7_fill_53178 := goodIn_r _ [6] (by decide +kernel) (by decide +kernel)
set_option maxRecDepth 20000 in
theorem gX2_clearLengths_J7_fill_53178 : GoodIn wsX2_clearLengths (va_wsS RX2 81 yJ7_fill_53178 wsJ7_fill_53178) := goodIn_app (goodIn_of _ (by decide +kernel)) ggX2_clearLengths_J7_fill_53178
theorem dX2_clearLengths_0 : decode cX2_clearLengths 0 = .ok (.aload_n 0, 1) := by decide +kernel
theorem dX2_clearLengths_1 : decode cX2_clearLengths 1 = .ok (.getfield 9, 3) := by decide +kernel
theorem dX2_clearLengths_4 : decode cX2_clearLengths 4 = .ok (.iconst (-1), 1) := by decide +kernel
theorem dX2_clearLengths_5 : decode cX2_clearLengths 5 = .ok (.invokestatic 81, 3) := by decide +kernel
theorem dX2_clearLengths_8 : decode cX2_clearLengths 8 = .ok (.aload_n 0, 1) := by decide +kernel
theorem dX2_clearLengths_9 : decode cX2_clearLengths 9 = .ok (.iconst 0, 1) := by decide +kernel
theorem dX2_clearLengths_10 : decode cX2_clearLengths 10 = .ok (.putfield 87, 3) := by decide +kernel
theorem dX2_clearLengths_13 : decode cX2_clearLengths 13 = .ok (.return_, 1) := by decide +kernel
set_option maxRecDepth 20000 in
theorem ggX2_enqueue_X3_put : GoodIn wsX2_enqueue wsX3_put := goodIn_r _ [6] (by decide +kernel) (by decide +kernel)
set_option maxRecDepth 20000 in
theorem gX2_enqueue_X3_put_n39 : GoodIn wsX2_enqueue (wsX3_put) := ggX2_enqueue_X3_put
theorem dX2_enqueue_0 : decode cX2_enqueue 0 = .ok (.aload_n 0, 1) := by decide +kernel
theorem dX2_enqueue_1 : decode cX2_enqueue 1 = .ok (.getfield 9, 3) := by decide +kernel
theorem dX2_enqueue_4 : decode cX2_enqueue 4 = .ok (.iload_n 1, 1) := by decide +kernel
theorem dX2_enqueue_5 : decode cX2_enqueue 5 = .ok (.iload_n 2, 1) := by decide +kernel
theorem dX2_enqueue_6 : decode cX2_enqueue 6 = .ok (.invokestatic 39, 3) := by decide +kernel
theorem dX2_enqueue_9 : decode cX2_enqueue 9 = .ok (.aload_n 0, 1) := by decide +kernel
theorem dX2_enqueue_10 : decode cX2_enqueue 10 = .ok (.getfield 15, 3) := by decide +kernel
theorem dX2_enqueue_13 : decode cX2_enqueue 13 = .ok (.aload_n 0, 1) := by decide +kernel
theorem dX2_enqueue_14 : decode cX2_enqueue 14 = .ok (.getfield 87, 3) := by decide +kernel
theorem dX2_enqueue_17 : decode cX2_enqueue 17 = .ok (.iload_n 1, 1) := by decide +kernel
theorem dX2_enqueue_18 : decode cX2_enqueue 18 = .ok (.invokestatic 39, 3) := by decide +kernel
theorem dX2_enqueue_21 : decode cX2_enqueue 21 = .ok (.aload_n 0, 1) := by decide +kernel
theorem dX2_enqueue_22 : decode cX2_enqueue 22 = .ok (.dup, 1) := by decide +kernel
theorem dX2_enqueue_23 : decode cX2_enqueue 23 = .ok (.getfield 87, 3) := by decide +kernel
theorem dX2_enqueue_26 : decode cX2_enqueue 26 = .ok (.iconst 1, 1) := by decide +kernel
theorem dX2_enqueue_27 : decode cX2_enqueue 27 = .ok (.iadd, 1) := by decide +kernel
theorem dX2_enqueue_28 : decode cX2_enqueue 28 = .ok (.putfield 87, 3) := by decide +kernel
theorem dX2_enqueue_31 : decode cX2_enqueue 31 = .ok (.return_, 1) := by decide +kernel
set_option maxRecDepth 20000 in
theorem ggX2_flood_X3_at : GoodIn wsX2_flood wsX3_at := goodIn_r _ [6] (by decide +kernel) (by decide +kernel)
set_option maxRecDepth 20000 in
theorem gX2_flood_X3_at_n35 : GoodIn wsX2_flood (wsX3_at) := ggX2_flood_X3_at
set_option maxRecDepth 20000 in
theorem ggX2_flood_X3_neighbour : GoodIn wsX2_flood wsX3_neighbour := goodIn_r _ [8] (by decide +kernel) (by decide +kernel)
set_option maxRecDepth 20000 in
theorem gX2_flood_X3_neighbour_n51 : GoodIn wsX2_flood (wsX3_neighbour) := ggX2_flood_X3_neighbour
set_option maxRecDepth 20000 in
theorem ggX2_flood_X1_obstacle : GoodIn wsX2_flood wsX1_obstacle := goodIn_r _ [13, 14, 15, 16, 4, 5, 6, 17, 18, 19, 20, 21, 22, 23, 34, 35, 36, 37, 38, 39, 40, 41, 42, 43, 44, 45] (by decide +kernel) (by decide +kernel)
set_option maxRecDepth 20000 in
theorem gX2_flood_X1_obstacle : GoodIn wsX2_flood (wsV RX2 47 RX1 yX1_obstacle wsX1_obstacle) := goodIn_app (goodIn_of _ (by decide +kernel)) ggX2_flood_X1_obstacle
set_option maxRecDepth 20000 in
theorem ggX2_flood_X2_enqueue : GoodIn wsX2_flood wsX2_enqueue := goodIn_r _ [28, 3, 2, 1, 29, 5, 30, 31, 32, 33] (by decide +kernel) (by decide +kernel)
set_option maxRecDepth 20000 in
theorem gX2_flood_X2_enqueue : GoodIn wsX2_flood (wsV RX2 27 RX2 yX2_enqueue wsX2_enqueue) := goodIn_app (goodIn_of _ (by decide +kernel)) ggX2_flood_X2_enqueue
set_option maxRecDepth 20000 in
theorem ggX2_flood_X3_put : GoodIn wsX2_flood wsX3_put := goodIn_r _ [30] (by decide +kernel) (by decide +kernel)
set_option maxRecDepth 20000 in
theorem gX2_flood_X3_put_n39 : GoodIn wsX2_flood (wsX3_put) := ggX2_flood_X3_put
theorem dX2_flood_0 : decode cX2_flood 0 = .ok (.iconst 0, 1) := by decide +kernel
theorem dX2_flood_1 : decode cX2_flood 1 = .ok (.istore_n 3, 1) := by decide +kernel
theorem dX2_flood_2 : decode cX2_flood 2 = .ok (.iload_n 3, 1) := by decide +kernel
theorem dX2_flood_3 : decode cX2_flood 3 = .ok (.aload_n 0, 1) := by decide +kernel
theorem dX2_flood_4 : decode cX2_flood 4 = .ok (.getfield 87, 3) := by decide +kernel
theorem dX2_flood_7 : decode cX2_flood 7 = .ok (.if_icmp .ge 126, 3) := by decide +kernel
theorem dX2_flood_10 : decode cX2_flood 10 = .ok (.iload_n 3, 1) := by decide +kernel
theorem dX2_flood_11 : decode cX2_flood 11 = .ok (.bipush 80, 2) := by decide +kernel
theorem dX2_flood_13 : decode cX2_flood 13 = .ok (.if_icmp .ge 120, 3) := by decide +kernel
theorem dX2_flood_16 : decode cX2_flood 16 = .ok (.aload_n 0, 1) := by decide +kernel
theorem dX2_flood_17 : decode cX2_flood 17 = .ok (.getfield 15, 3) := by decide +kernel
theorem dX2_flood_20 : decode cX2_flood 20 = .ok (.iload_n 3, 1) := by decide +kernel
theorem dX2_flood_21 : decode cX2_flood 21 = .ok (.invokestatic 35, 3) := by decide +kernel
theorem dX2_flood_24 : decode cX2_flood 24 = .ok (.istore 4, 2) := by decide +kernel
theorem dX2_flood_26 : decode cX2_flood 26 = .ok (.aload_n 0, 1) := by decide +kernel
theorem dX2_flood_27 : decode cX2_flood 27 = .ok (.getfield 9, 3) := by decide +kernel
theorem dX2_flood_30 : decode cX2_flood 30 = .ok (.iload 4, 2) := by decide +kernel
theorem dX2_flood_32 : decode cX2_flood 32 = .ok (.invokestatic 35, 3) := by decide +kernel
theorem dX2_flood_35 : decode cX2_flood 35 = .ok (.iconst 1, 1) := by decide +kernel
theorem dX2_flood_36 : decode cX2_flood 36 = .ok (.iadd, 1) := by decide +kernel
theorem dX2_flood_37 : decode cX2_flood 37 = .ok (.istore 5, 2) := by decide +kernel
theorem dX2_flood_39 : decode cX2_flood 39 = .ok (.iconst 0, 1) := by decide +kernel
theorem dX2_flood_40 : decode cX2_flood 40 = .ok (.istore 6, 2) := by decide +kernel
theorem dX2_flood_42 : decode cX2_flood 42 = .ok (.iload 6, 2) := by decide +kernel
theorem dX2_flood_44 : decode cX2_flood 44 = .ok (.iconst 4, 1) := by decide +kernel
theorem dX2_flood_45 : decode cX2_flood 45 = .ok (.if_icmp .ge 82, 3) := by decide +kernel
theorem dX2_flood_48 : decode cX2_flood 48 = .ok (.iload 4, 2) := by decide +kernel
theorem dX2_flood_50 : decode cX2_flood 50 = .ok (.iload 6, 2) := by decide +kernel
theorem dX2_flood_52 : decode cX2_flood 52 = .ok (.invokestatic 51, 3) := by decide +kernel
theorem dX2_flood_55 : decode cX2_flood 55 = .ok (.istore 7, 2) := by decide +kernel
theorem dX2_flood_57 : decode cX2_flood 57 = .ok (.iload 7, 2) := by decide +kernel
theorem dX2_flood_59 : decode cX2_flood 59 = .ok (.iconst (-1), 1) := by decide +kernel
theorem dX2_flood_60 : decode cX2_flood 60 = .ok (.if_icmp .eq 61, 3) := by decide +kernel
theorem dX2_flood_63 : decode cX2_flood 63 = .ok (.aload_n 0, 1) := by decide +kernel
theorem dX2_flood_64 : decode cX2_flood 64 = .ok (.getfield 9, 3) := by decide +kernel
theorem dX2_flood_67 : decode cX2_flood 67 = .ok (.iload 7, 2) := by decide +kernel
theorem dX2_flood_69 : decode cX2_flood 69 = .ok (.invokestatic 35, 3) := by decide +kernel
theorem dX2_flood_72 : decode cX2_flood 72 = .ok (.iconst (-1), 1) := by decide +kernel
theorem dX2_flood_73 : decode cX2_flood 73 = .ok (.if_icmp .eq 6, 3) := by decide +kernel
theorem dX2_flood_76 : decode cX2_flood 76 = .ok (.goto 45, 3) := by decide +kernel
theorem dX2_flood_79 : decode cX2_flood 79 = .ok (.aload_n 1, 1) := by decide +kernel
theorem dX2_flood_80 : decode cX2_flood 80 = .ok (.iload_n 2, 1) := by decide +kernel
theorem dX2_flood_81 : decode cX2_flood 81 = .ok (.iload 7, 2) := by decide +kernel
theorem dX2_flood_83 : decode cX2_flood 83 = .ok (.invokevirtual 47, 3) := by decide +kernel
theorem dX2_flood_86 : decode cX2_flood 86 = .ok (.istore 8, 2) := by decide +kernel
theorem dX2_flood_88 : decode cX2_flood 88 = .ok (.iload 8, 2) := by decide +kernel
theorem dX2_flood_90 : decode cX2_flood 90 = .ok (.ifCond .ne 14, 3) := by decide +kernel
theorem dX2_flood_93 : decode cX2_flood 93 = .ok (.aload_n 0, 1) := by decide +kernel
theorem dX2_flood_94 : decode cX2_flood 94 = .ok (.iload 7, 2) := by decide +kernel
theorem dX2_flood_96 : decode cX2_flood 96 = .ok (.iload 5, 2) := by decide +kernel
theorem dX2_flood_98 : decode cX2_flood 98 = .ok (.invokevirtual 27, 3) := by decide +kernel
theorem dX2_flood_101 : decode cX2_flood 101 = .ok (.goto 20, 3) := by decide +kernel
theorem dX2_flood_104 : decode cX2_flood 104 = .ok (.iload 8, 2) := by decide +kernel
theorem dX2_flood_106 : decode cX2_flood 106 = .ok (.iconst 4, 1) := by decide +kernel
theorem dX2_flood_107 : decode cX2_flood 107 = .ok (.if_icmp .ne 14, 3) := by decide +kernel
theorem dX2_flood_110 : decode cX2_flood 110 = .ok (.aload_n 0, 1) := by decide +kernel
theorem dX2_flood_111 : decode cX2_flood 111 = .ok (.getfield 9, 3) := by decide +kernel
theorem dX2_flood_114 : decode cX2_flood 114 = .ok (.iload 7, 2) := by decide +kernel
theorem dX2_flood_116 : decode cX2_flood 116 = .ok (.iload 5, 2) := by decide +kernel
theorem dX2_flood_118 : decode cX2_flood 118 = .ok (.invokestatic 39, 3) := by decide +kernel
theorem dX2_flood_121 : decode cX2_flood 121 = .ok (.iinc 6 1, 3) := by decide +kernel
theorem dX2_flood_124 : decode cX2_flood 124 = .ok (.goto (-82), 3) := by decide +kernel
theorem dX2_flood_127 : decode cX2_flood 127 = .ok (.iinc 3 1, 3) := by decide +kernel
theorem dX2_flood_130 : decode cX2_flood 130 = .ok (.goto (-128), 3) := by decide +kernel
theorem dX2_flood_133 : decode cX2_flood 133 = .ok (.return_, 1) := by decide +kernel
set_option maxRecDepth 20000 in
theorem ggX3_init_X1_init : GoodIn wsX3_init wsX1_init := goodIn_r _ [19, 20, 2, 3, 21, 22, 23, 24, 25, 26, 27, 28, 29, 30, 31, 32, 33, 34, 35, 36, 37, 38, 39, 40, 41, 42, 52, 53, 54, 55, 56, 57, 58, 59, 60, 61, 62, 63] (by decide +kernel) (by decide +kernel)
set_option maxRecDepth 20000 in
theorem gX3_init_X1_init : GoodIn wsX3_init (wsX1_init) := ggX3_init_X1_init
set_option maxRecDepth 20000 in
theorem ggX3_init_X0_init : GoodIn wsX3_init wsX0_init := goodIn_r _ [44, 45, 2, 3, 21, 46, 69, 70] (by decide +kernel) (by decide +kernel)
set_option maxRecDepth 20000 in
theorem gX3_init_X0_init_n22 : GoodIn wsX3_init (wsX0_init) := ggX3_init_X0_init
set_option maxRecDepth 20000 in
theorem ggX3_init_X2_init : GoodIn wsX3_init wsX2_init := goodIn_r _ [48, 49, 2, 3, 21, 50, 51, 71, 72, 73] (by decide +kernel) (by decide +kernel)
set_option maxRecDepth 20000 in
theorem gX3_init_X2_init_n29 : GoodIn wsX3_init (wsX2_init) := ggX3_init_X2_init
theorem dX3_init_0 : decode cX3_init 0 = .ok (.aload_n 0, 1) := by decide +kernel
theorem dX3_init_1 : decode cX3_init 1 = .ok (.invokespecial 3, 3) := by decide +kernel
theorem dX3_init_4 : decode cX3_init 4 = .ok (.aload_n 0, 1) := by decide +kernel
theorem dX3_init_5 : decode cX3_init 5 = .ok (.new 9, 3) := by decide +kernel
theorem dX3_init_8 : decode cX3_init 8 = .ok (.dup, 1) := by decide +kernel
theorem dX3_init_9 : decode cX3_init 9 = .ok (.invokespecial 11, 3) := by decide +kernel
theorem dX3_init_12 : decode cX3_init 12 = .ok (.putfield 12, 3) := by decide +kernel
theorem dX3_init_15 : decode cX3_init 15 = .ok (.aload_n 0, 1) := by decide +kernel
theorem dX3_init_16 : decode cX3_init 16 = .ok (.bipush 6, 2) := by decide +kernel
theorem dX3_init_18 : decode cX3_init 18 = .ok (.anewarray 9, 3) := by decide +kernel
theorem dX3_init_21 : decode cX3_init 21 = .ok (.putfield 16, 3) := by decide +kernel
theorem dX3_init_24 : decode cX3_init 24 = .ok (.aload_n 0, 1) := by decide +kernel
theorem dX3_init_25 : decode cX3_init 25 = .ok (.new 20, 3) := by decide +kernel
theorem dX3_init_28 : decode cX3_init 28 = .ok (.dup, 1) := by decide +kernel
theorem dX3_init_29 : decode cX3_init 29 = .ok (.invokespecial 22, 3) := by decide +kernel
theorem dX3_init_32 : decode cX3_init 32 = .ok (.putfield 23, 3) := by decide +kernel
theorem dX3_init_35 : decode cX3_init 35 = .ok (.aload_n 0, 1) := by decide +kernel
theorem dX3_init_36 : decode cX3_init 36 = .ok (.new 27, 3) := by decide +kernel
theorem dX3_init_39 : decode cX3_init 39 = .ok (.dup, 1) := by decide +kernel
theorem dX3_init_40 : decode cX3_init 40 = .ok (.invokespecial 29, 3) := by decide +kernel
theorem dX3_init_43 : decode cX3_init 43 = .ok (.putfield 30, 3) := by decide +kernel
theorem dX3_init_46 : decode cX3_init 46 = .ok (.iconst 0, 1) := by decide +kernel
theorem dX3_init_47 : decode cX3_init 47 = .ok (.istore_n 1, 1) := by decide +kernel
theorem dX3_init_48 : decode cX3_init 48 = .ok (.iload_n 1, 1) := by decide +kernel
theorem dX3_init_49 : decode cX3_init 49 = .ok (.bipush 6, 2) := by decide +kernel
theorem dX3_init_51 : decode cX3_init 51 = .ok (.if_icmp .ge 22, 3) := by decide +kernel
theorem dX3_init_54 : decode cX3_init 54 = .ok (.aload_n 0, 1) := by decide +kernel
theorem dX3_init_55 : decode cX3_init 55 = .ok (.getfield 16, 3) := by decide +kernel
theorem dX3_init_58 : decode cX3_init 58 = .ok (.iload_n 1, 1) := by decide +kernel
theorem dX3_init_59 : decode cX3_init 59 = .ok (.new 9, 3) := by decide +kernel
theorem dX3_init_62 : decode cX3_init 62 = .ok (.dup, 1) := by decide +kernel
theorem dX3_init_63 : decode cX3_init 63 = .ok (.invokespecial 11, 3) := by decide +kernel
theorem dX3_init_66 : decode cX3_init 66 = .ok (.aastore, 1) := by decide +kernel
theorem dX3_init_67 : decode cX3_init 67 = .ok (.iinc 1 1, 3) := by decide +kernel
theorem dX3_init_70 : decode cX3_init 70 = .ok (.goto (-22), 3) := by decide +kernel
theorem dX3_init_73 : decode cX3_init 73 = .ok (.return_, 1) := by decide +kernel
set_option maxRecDepth 20000 in
theorem ggX3_house_X3_isSquare : GoodIn wsX3_house wsX3_isSquare := goodIn_r _ [10] (by decide +kernel) (by decide +kernel)
set_option maxRecDepth 20000 in
theorem gX3_house_X3_isSquare : GoodIn wsX3_house (va_wsS RX3 34 yX3_isSquare wsX3_isSquare) := goodIn_app (goodIn_of _ (by decide +kernel)) ggX3_house_X3_isSquare
set_option maxRecDepth 20000 in
theorem ggX3_house_X1_tracksOn : GoodIn wsX3_house wsX1_tracksOn := goodIn_r _ [15, 16, 17, 9, 18, 19, 20, 21, 22, 23, 24, 25, 74, 75, 76, 77, 78, 79, 80, 81, 82, 83, 84, 85] (by decide +kernel) (by decide +kernel)
set_option maxRecDepth 20000 in
theorem gX3_house_X1_tracksOn : GoodIn wsX3_house (wsV RX3 45 RX1 yX1_tracksOn wsX1_tracksOn) := goodIn_app (goodIn_of _ (by decide +kernel)) ggX3_house_X1_tracksOn
set_option maxRecDepth 20000 in
theorem ggX3_house_X1_lowestStopOn : GoodIn wsX3_house wsX1_lowestStopOn := goodIn_r _ [29, 30, 17, 9, 18, 74, 75, 76, 77, 78, 79, 80, 81, 82, 83, 84, 85] (by decide +kernel) (by decide +kernel)
set_option maxRecDepth 20000 in
theorem gX3_house_X1_lowestStopOn : GoodIn wsX3_house (wsV RX3 49 RX1 yX1_lowestStopOn wsX1_lowestStopOn) := goodIn_app (goodIn_of _ (by decide +kernel)) ggX3_house_X1_lowestStopOn
set_option maxRecDepth 20000 in
theorem ggX3_house_X3_saveState : GoodIn wsX3_house wsX3_saveState := goodIn_r _ [34, 35, 36, 5, 37, 38, 39, 9, 40, 41, 42, 43, 14, 44, 45, 16, 46, 30, 47, 48, 49, 50, 51, 52, 53, 54, 55, 56, 57, 58, 59, 60, 61, 62, 63, 64, 69, 70, 71, 72, 73, 74, 75, 76, 77, 78, 79, 80, 81, 82, 83, 84, 85] (by decide +kernel) (by decide +kernel)
set_option maxRecDepth 20000 in
theorem gX3_house_X3_saveState : GoodIn wsX3_house (wsV RX3 57 RX3 yX3_saveState wsX3_saveState) := goodIn_app (goodIn_of _ (by decide +kernel)) ggX3_house_X3_saveState
set_option maxRecDepth 20000 in
theorem ggX3_house_X3_at : GoodIn wsX3_house wsX3_at := goodIn_r _ [18] (by decide +kernel) (by decide +kernel)
set_option maxRecDepth 20000 in
theorem gX3_house_X3_at : GoodIn wsX3_house (va_wsS RX3 64 yX3_at wsX3_at) := goodIn_app (goodIn_of _ (by decide +kernel)) ggX3_house_X3_at
set_option maxRecDepth 20000 in
theorem ggX3_house_X3_put : GoodIn wsX3_house wsX3_put := goodIn_r _ [68] (by decide +kernel) (by decide +kernel)
set_option maxRecDepth 20000 in
theorem gX3_house_X3_put : GoodIn wsX3_house (va_wsS RX3 68 yX3_put wsX3_put) := goodIn_app (goodIn_of _ (by decide +kernel)) ggX3_house_X3_put
theorem dX3_house_0 : decode cX3_house 0 = .ok (.iload_n 1, 1) := by decide +kernel
theorem dX3_house_1 : decode cX3_house 1 = .ok (.invokestatic 34, 3) := by decide +kernel
theorem dX3_house_4 : decode cX3_house 4 = .ok (.ifCond .ne 13, 3) := by decide +kernel
theorem dX3_house_7 : decode cX3_house 7 = .ok (.new 38, 3) := by decide +kernel
theorem dX3_house_10 : decode cX3_house 10 = .ok (.dup, 1) := by decide +kernel
theorem dX3_house_11 : decode cX3_house 11 = .ok (.ldc 40, 2) := by decide +kernel
theorem dX3_house_13 : decode cX3_house 13 = .ok (.invokespecial 42, 3) := by decide +kernel
theorem dX3_house_16 : decode cX3_house 16 = .ok (.athrow, 1) := by decide +kernel
theorem dX3_house_17 : decode cX3_house 17 = .ok (.aload_n 0, 1) := by decide +kernel
theorem dX3_house_18 : decode cX3_house 18 = .ok (.getfield 12, 3) := by decide +kernel
theorem dX3_house_21 : decode cX3_house 21 = .ok (.iload_n 1, 1) := by decide +kernel
theorem dX3_house_22 : decode cX3_house 22 = .ok (.invokevirtual 45, 3) := by decide +kernel
theorem dX3_house_25 : decode cX3_house 25 = .ok (.ifCond .gt 15, 3) := by decide +kernel
theorem dX3_house_28 : decode cX3_house 28 = .ok (.aload_n 0, 1) := by decide +kernel
theorem dX3_house_29 : decode cX3_house 29 = .ok (.getfield 12, 3) := by decide +kernel
theorem dX3_house_32 : decode cX3_house 32 = .ok (.iload_n 1, 1) := by decide +kernel
theorem dX3_house_33 : decode cX3_house 33 = .ok (.invokevirtual 49, 3) := by decide +kernel
theorem dX3_house_36 : decode cX3_house 36 = .ok (.iconst (-1), 1) := by decide +kernel
theorem dX3_house_37 : decode cX3_house 37 = .ok (.if_icmp .eq 13, 3) := by decide +kernel
theorem dX3_house_40 : decode cX3_house 40 = .ok (.new 52, 3) := by decide +kernel
theorem dX3_house_43 : decode cX3_house 43 = .ok (.dup, 1) := by decide +kernel
theorem dX3_house_44 : decode cX3_house 44 = .ok (.ldc 54, 2) := by decide +kernel
theorem dX3_house_46 : decode cX3_house 46 = .ok (.invokespecial 56, 3) := by decide +kernel
theorem dX3_house_49 : decode cX3_house 49 = .ok (.athrow, 1) := by decide +kernel
theorem dX3_house_50 : decode cX3_house 50 = .ok (.aload_n 0, 1) := by decide +kernel
theorem dX3_house_51 : decode cX3_house 51 = .ok (.invokevirtual 57, 3) := by decide +kernel
theorem dX3_house_54 : decode cX3_house 54 = .ok (.aload_n 0, 1) := by decide +kernel
theorem dX3_house_55 : decode cX3_house 55 = .ok (.getfield 12, 3) := by decide +kernel
theorem dX3_house_58 : decode cX3_house 58 = .ok (.getfield 60, 3) := by decide +kernel
theorem dX3_house_61 : decode cX3_house 61 = .ok (.iload_n 1, 1) := by decide +kernel
theorem dX3_house_62 : decode cX3_house 62 = .ok (.invokestatic 64, 3) := by decide +kernel
theorem dX3_house_65 : decode cX3_house 65 = .ok (.istore_n 3, 1) := by decide +kernel
theorem dX3_house_66 : decode cX3_house 66 = .ok (.aload_n 0, 1) := by decide +kernel
theorem dX3_house_67 : decode cX3_house 67 = .ok (.getfield 12, 3) := by decide +kernel
theorem dX3_house_70 : decode cX3_house 70 = .ok (.getfield 60, 3) := by decide +kernel
theorem dX3_house_73 : decode cX3_house 73 = .ok (.iload_n 1, 1) := by decide +kernel
theorem dX3_house_74 : decode cX3_house 74 = .ok (.iload_n 2, 1) := by decide +kernel
theorem dX3_house_75 : decode cX3_house 75 = .ok (.ifCond .eq 7, 3) := by decide +kernel
theorem dX3_house_78 : decode cX3_house 78 = .ok (.iconst 1, 1) := by decide +kernel
theorem dX3_house_79 : decode cX3_house 79 = .ok (.goto 4, 3) := by decide +kernel
theorem dX3_house_82 : decode cX3_house 82 = .ok (.iconst 0, 1) := by decide +kernel
theorem dX3_house_83 : decode cX3_house 83 = .ok (.invokestatic 68, 3) := by decide +kernel
theorem dX3_house_86 : decode cX3_house 86 = .ok (.iload_n 3, 1) := by decide +kernel
theorem dX3_house_87 : decode cX3_house 87 = .ok (.ireturn, 1) := by decide +kernel
set_option maxRecDepth 20000 in
theorem ggX3_stop_X3_isSquare : GoodIn wsX3_stop wsX3_isSquare := goodIn_r _ [12] (by decide +kernel) (by decide +kernel)
set_option maxRecDepth 20000 in
theorem gX3_stop_X3_isSquare : GoodIn wsX3_stop (va_wsS RX3 34 yX3_isSquare wsX3_isSquare) := goodIn_app (goodIn_of _ (by decide +kernel)) ggX3_stop_X3_isSquare
set_option maxRecDepth 20000 in
theorem ggX3_stop_X3_isPlayer : GoodIn wsX3_stop wsX3_isPlayer := goodIn_r _ [15] (by decide +kernel) (by decide +kernel)
set_option maxRecDepth 20000 in
theorem gX3_stop_X3_isPlayer : GoodIn wsX3_stop (va_wsS RX3 72 yX3_isPlayer wsX3_isPlayer) := goodIn_app (goodIn_of _ (by decide +kernel)) ggX3_stop_X3_isPlayer
set_option maxRecDepth 20000 in
theorem ggX3_stop_X3_at : GoodIn wsX3_stop wsX3_at := goodIn_r _ [18] (by decide +kernel) (by decide +kernel)
set_option maxRecDepth 20000 in
theorem gX3_stop_X3_at : GoodIn wsX3_stop (va_wsS RX3 64 yX3_at wsX3_at) := goodIn_app (goodIn_of _ (by decide +kernel)) ggX3_stop_X3_at
set_option maxRecDepth 20000 in
theorem ggX3_stop_X1_hasStopOn : GoodIn wsX3_stop wsX1_hasStopOn := goodIn_r _ [23, 24, 25, 17, 11, 18, 76, 77, 78, 79, 80, 81, 82, 83, 84, 85, 86, 87] (by decide +kernel) (by decide +kernel)
set_option maxRecDepth 20000 in
theorem gX3_stop_X1_hasStopOn : GoodIn wsX3_stop (wsV RX3 77 RX1 yX1_hasStopOn wsX1_hasStopOn) := goodIn_app (goodIn_of _ (by decide +kernel)) ggX3_stop_X1_hasStopOn
set_option maxRecDepth 20000 in
theorem ggX3_stop_X1_lowestFreeStop : GoodIn wsX3_stop wsX1_lowestFreeStop := goodIn_r _ [29, 30, 31, 32, 22, 33, 24, 17, 11, 18, 76, 77, 78, 79, 80, 81, 82, 83, 84, 85, 86, 87] (by decide +kernel) (by decide +kernel)
set_option maxRecDepth 20000 in
theorem gX3_stop_X1_lowestFreeStop : GoodIn wsX3_stop (wsV RX3 83 RX1 yX1_lowestFreeStop wsX1_lowestFreeStop) := goodIn_app (goodIn_of _ (by decide +kernel)) ggX3_stop_X1_lowestFreeStop
set_option maxRecDepth 20000 in
theorem ggX3_stop_X3_saveState : GoodIn wsX3_stop wsX3_saveState := goodIn_r _ [37, 38, 39, 5, 40, 41, 42, 11, 43, 44, 45, 46, 22, 47, 48, 49, 50, 24, 25, 51, 52, 53, 54, 55, 56, 57, 58, 59, 60, 61, 62, 63, 64, 65, 66, 67, 71, 72, 73, 74, 75, 76, 77, 78, 79, 80, 81, 82, 83, 84, 85, 86, 87] (by decide +kernel) (by decide +kernel)
set_option maxRecDepth 20000 in
theorem gX3_stop_X3_saveState : GoodIn wsX3_stop (wsV RX3 57 RX3 yX3_saveState wsX3_saveState) := goodIn_app (goodIn_of _ (by decide +kernel)) ggX3_stop_X3_saveState
set_option maxRecDepth 20000 in
theorem ggX3_stop_X3_put : GoodIn wsX3_stop wsX3_put := goodIn_r _ [70] (by decide +kernel) (by decide +kernel)
set_option maxRecDepth 20000 in
theorem gX3_stop_X3_put : GoodIn wsX3_stop (va_wsS RX3 68 yX3_put wsX3_put) := goodIn_app (goodIn_of _ (by decide +kernel)) ggX3_stop_X3_put
theorem dX3_stop_0 : decode cX3_stop 0 = .ok (.iload_n 1, 1) := by decide +kernel
theorem dX3_stop_1 : decode cX3_stop 1 = .ok (.invokestatic 34, 3) := by decide +kernel
theorem dX3_stop_4 : decode cX3_stop 4 = .ok (.ifCond .eq 10, 3) := by decide +kernel
theorem dX3_stop_7 : decode cX3_stop 7 = .ok (.iload_n 2, 1) := by decide +kernel
theorem dX3_stop_8 : decode cX3_stop 8 = .ok (.invokestatic 72, 3) := by decide +kernel
theorem dX3_stop_11 : decode cX3_stop 11 = .ok (.ifCond .ne 13, 3) := by decide +kernel
theorem dX3_stop_14 : decode cX3_stop 14 = .ok (.new 38, 3) := by decide +kernel
theorem dX3_stop_17 : decode cX3_stop 17 = .ok (.dup, 1) := by decide +kernel
theorem dX3_stop_18 : decode cX3_stop 18 = .ok (.ldc 75, 2) := by decide +kernel
theorem dX3_stop_20 : decode cX3_stop 20 = .ok (.invokespecial 42, 3) := by decide +kernel
theorem dX3_stop_23 : decode cX3_stop 23 = .ok (.athrow, 1) := by decide +kernel
theorem dX3_stop_24 : decode cX3_stop 24 = .ok (.aload_n 0, 1) := by decide +kernel
theorem dX3_stop_25 : decode cX3_stop 25 = .ok (.getfield 12, 3) := by decide +kernel
theorem dX3_stop_28 : decode cX3_stop 28 = .ok (.getfield 60, 3) := by decide +kernel
theorem dX3_stop_31 : decode cX3_stop 31 = .ok (.iload_n 1, 1) := by decide +kernel
theorem dX3_stop_32 : decode cX3_stop 32 = .ok (.invokestatic 64, 3) := by decide +kernel
theorem dX3_stop_35 : decode cX3_stop 35 = .ok (.ifCond .ne 15, 3) := by decide +kernel
theorem dX3_stop_38 : decode cX3_stop 38 = .ok (.aload_n 0, 1) := by decide +kernel
theorem dX3_stop_39 : decode cX3_stop 39 = .ok (.getfield 12, 3) := by decide +kernel
theorem dX3_stop_42 : decode cX3_stop 42 = .ok (.iload_n 1, 1) := by decide +kernel
theorem dX3_stop_43 : decode cX3_stop 43 = .ok (.iload_n 2, 1) := by decide +kernel
theorem dX3_stop_44 : decode cX3_stop 44 = .ok (.invokevirtual 77, 3) := by decide +kernel
theorem dX3_stop_47 : decode cX3_stop 47 = .ok (.ifCond .eq 13, 3) := by decide +kernel
theorem dX3_stop_50 : decode cX3_stop 50 = .ok (.new 52, 3) := by decide +kernel
theorem dX3_stop_53 : decode cX3_stop 53 = .ok (.dup, 1) := by decide +kernel
theorem dX3_stop_54 : decode cX3_stop 54 = .ok (.ldc 81, 2) := by decide +kernel
theorem dX3_stop_56 : decode cX3_stop 56 = .ok (.invokespecial 56, 3) := by decide +kernel
theorem dX3_stop_59 : decode cX3_stop 59 = .ok (.athrow, 1) := by decide +kernel
theorem dX3_stop_60 : decode cX3_stop 60 = .ok (.aload_n 0, 1) := by decide +kernel
theorem dX3_stop_61 : decode cX3_stop 61 = .ok (.getfield 12, 3) := by decide +kernel
theorem dX3_stop_64 : decode cX3_stop 64 = .ok (.invokevirtual 83, 3) := by decide +kernel
theorem dX3_stop_67 : decode cX3_stop 67 = .ok (.istore_n 3, 1) := by decide +kernel
theorem dX3_stop_68 : decode cX3_stop 68 = .ok (.iload_n 3, 1) := by decide +kernel
theorem dX3_stop_69 : decode cX3_stop 69 = .ok (.iconst (-1), 1) := by decide +kernel
theorem dX3_stop_70 : decode cX3_stop 70 = .ok (.if_icmp .ne 13, 3) := by decide +kernel
theorem dX3_stop_73 : decode cX3_stop 73 = .ok (.new 52, 3) := by decide +kernel
theorem dX3_stop_76 : decode cX3_stop 76 = .ok (.dup, 1) := by decide +kernel
theorem dX3_stop_77 : decode cX3_stop 77 = .ok (.ldc 87, 2) := by decide +kernel
theorem dX3_stop_79 : decode cX3_stop 79 = .ok (.invokespecial 56, 3) := by decide +kernel
theorem dX3_stop_82 : decode cX3_stop 82 = .ok (.athrow, 1) := by decide +kernel
theorem dX3_stop_83 : decode cX3_stop 83 = .ok (.aload_n 0, 1) := by decide +kernel
theorem dX3_stop_84 : decode cX3_stop 84 = .ok (.invokevirtual 57, 3) := by decide +kernel
theorem dX3_stop_87 : decode cX3_stop 87 = .ok (.aload_n 0, 1) := by decide +kernel
theorem dX3_stop_88 : decode cX3_stop 88 = .ok (.getfield 12, 3) := by decide +kernel
theorem dX3_stop_91 : decode cX3_stop 91 = .ok (.getfield 89, 3) := by decide +kernel
theorem dX3_stop_94 : decode cX3_stop 94 = .ok (.iload_n 3, 1) := by decide +kernel
theorem dX3_stop_95 : decode cX3_stop 95 = .ok (.iload_n 1, 1) := by decide +kernel
theorem dX3_stop_96 : decode cX3_stop 96 = .ok (.invokestatic 68, 3) := by decide +kernel
theorem dX3_stop_99 : decode cX3_stop 99 = .ok (.aload_n 0, 1) := by decide +kernel
theorem dX3_stop_100 : decode cX3_stop 100 = .ok (.getfield 12, 3) := by decide +kernel
theorem dX3_stop_103 : decode cX3_stop 103 = .ok (.getfield 92, 3) := by decide +kernel
theorem dX3_stop_106 : decode cX3_stop 106 = .ok (.iload_n 3, 1) := by decide +kernel
theorem dX3_stop_107 : decode cX3_stop 107 = .ok (.iload_n 2, 1) := by decide +kernel
theorem dX3_stop_108 : decode cX3_stop 108 = .ok (.invokestatic 68, 3) := by decide +kernel
theorem dX3_stop_111 : decode cX3_stop 111 = .ok (.iload_n 3, 1) := by decide +kernel
theorem dX3_stop_112 : decode cX3_stop 112 = .ok (.ireturn, 1) := by decide +kernel
set_option maxRecDepth 20000 in
theorem ggX3_drop_X3_isStop : GoodIn wsX3_drop wsX3_isStop := goodIn_r _ [9] (by decide +kernel) (by decide +kernel)
set_option maxRecDepth 20000 in
theorem gX3_drop_X3_isStop : GoodIn wsX3_drop (va_wsS RX3 95 yX3_isStop wsX3_isStop) := goodIn_app (goodIn_of _ (by decide +kernel)) ggX3_drop_X3_isStop
set_option maxRecDepth 20000 in
theorem ggX3_drop_X1_isThere : GoodIn wsX3_drop wsX1_isThere := goodIn_r _ [14, 15, 16, 8, 17, 62, 63, 64, 65, 66, 67, 68, 69, 70, 71, 72, 73] (by decide +kernel) (by decide +kernel)
set_option maxRecDepth 20000 in
theorem gX3_drop_X1_isThere : GoodIn wsX3_drop (wsV RX3 98 RX1 yX1_isThere wsX1_isThere) := goodIn_app (goodIn_of _ (by decide +kernel)) ggX3_drop_X1_isThere
set_option maxRecDepth 20000 in
theorem ggX3_drop_X3_saveState : GoodIn wsX3_drop wsX3_saveState := goodIn_r _ [21, 22, 23, 3, 24, 25, 26, 8, 27, 28, 29, 30, 13, 31, 32, 33, 34, 15, 35, 36, 37, 38, 39, 40, 41, 42, 43, 44, 45, 46, 47, 48, 49, 50, 51, 52, 57, 58, 59, 60, 61, 62, 63, 64, 65, 66, 67, 68, 69, 70, 71, 72, 73] (by decide +kernel) (by decide +kernel)
set_option maxRecDepth 20000 in
theorem gX3_drop_X3_saveState : GoodIn wsX3_drop (wsV RX3 57 RX3 yX3_saveState wsX3_saveState) := goodIn_app (goodIn_of _ (by decide +kernel)) ggX3_drop_X3_saveState
set_option maxRecDepth 20000 in
theorem ggX3_drop_X3_at : GoodIn wsX3_drop wsX3_at := goodIn_r _ [17] (by decide +kernel) (by decide +kernel)
set_option maxRecDepth 20000 in
theorem gX3_drop_X3_at : GoodIn wsX3_drop (va_wsS RX3 64 yX3_at wsX3_at) := goodIn_app (goodIn_of _ (by decide +kernel)) ggX3_drop_X3_at
set_option maxRecDepth 20000 in
theorem ggX3_drop_X3_put : GoodIn wsX3_drop wsX3_put := goodIn_r _ [56] (by decide +kernel) (by decide +kernel)
set_option maxRecDepth 20000 in
theorem gX3_drop_X3_put : GoodIn wsX3_drop (va_wsS RX3 68 yX3_put wsX3_put) := goodIn_app (goodIn_of _ (by decide +kernel)) ggX3_drop_X3_put
theorem dX3_drop_0 : decode cX3_drop 0 = .ok (.iload_n 1, 1) := by decide +kernel
theorem dX3_drop_1 : decode cX3_drop 1 = .ok (.invokestatic 95, 3) := by decide +kernel
theorem dX3_drop_4 : decode cX3_drop 4 = .ok (.ifCond .eq 14, 3) := by decide +kernel
theorem dX3_drop_7 : decode cX3_drop 7 = .ok (.aload_n 0, 1) := by decide +kernel
theorem dX3_drop_8 : decode cX3_drop 8 = .ok (.getfield 12, 3) := by decide +kernel
theorem dX3_drop_11 : decode cX3_drop 11 = .ok (.iload_n 1, 1) := by decide +kernel
theorem dX3_drop_12 : decode cX3_drop 12 = .ok (.invokevirtual 98, 3) := by decide +kernel
theorem dX3_drop_15 : decode cX3_drop 15 = .ok (.ifCond .ne 13, 3) := by decide +kernel
theorem dX3_drop_18 : decode cX3_drop 18 = .ok (.new 38, 3) := by decide +kernel
theorem dX3_drop_21 : decode cX3_drop 21 = .ok (.dup, 1) := by decide +kernel
theorem dX3_drop_22 : decode cX3_drop 22 = .ok (.ldc 101, 2) := by decide +kernel
theorem dX3_drop_24 : decode cX3_drop 24 = .ok (.invokespecial 42, 3) := by decide +kernel
theorem dX3_drop_27 : decode cX3_drop 27 = .ok (.athrow, 1) := by decide +kernel
theorem dX3_drop_28 : decode cX3_drop 28 = .ok (.aload_n 0, 1) := by decide +kernel
theorem dX3_drop_29 : decode cX3_drop 29 = .ok (.invokevirtual 57, 3) := by decide +kernel
theorem dX3_drop_32 : decode cX3_drop 32 = .ok (.aload_n 0, 1) := by decide +kernel
theorem dX3_drop_33 : decode cX3_drop 33 = .ok (.getfield 12, 3) := by decide +kernel
theorem dX3_drop_36 : decode cX3_drop 36 = .ok (.getfield 89, 3) := by decide +kernel
theorem dX3_drop_39 : decode cX3_drop 39 = .ok (.iload_n 1, 1) := by decide +kernel
theorem dX3_drop_40 : decode cX3_drop 40 = .ok (.invokestatic 64, 3) := by decide +kernel
theorem dX3_drop_43 : decode cX3_drop 43 = .ok (.istore_n 2, 1) := by decide +kernel
theorem dX3_drop_44 : decode cX3_drop 44 = .ok (.aload_n 0, 1) := by decide +kernel
theorem dX3_drop_45 : decode cX3_drop 45 = .ok (.getfield 12, 3) := by decide +kernel
theorem dX3_drop_48 : decode cX3_drop 48 = .ok (.getfield 89, 3) := by decide +kernel
theorem dX3_drop_51 : decode cX3_drop 51 = .ok (.iload_n 1, 1) := by decide +kernel
theorem dX3_drop_52 : decode cX3_drop 52 = .ok (.iconst (-1), 1) := by decide +kernel
theorem dX3_drop_53 : decode cX3_drop 53 = .ok (.invokestatic 68, 3) := by decide +kernel
theorem dX3_drop_56 : decode cX3_drop 56 = .ok (.aload_n 0, 1) := by decide +kernel
theorem dX3_drop_57 : decode cX3_drop 57 = .ok (.getfield 12, 3) := by decide +kernel
theorem dX3_drop_60 : decode cX3_drop 60 = .ok (.getfield 92, 3) := by decide +kernel
theorem dX3_drop_63 : decode cX3_drop 63 = .ok (.iload_n 1, 1) := by decide +kernel
theorem dX3_drop_64 : decode cX3_drop 64 = .ok (.iconst (-1), 1) := by decide +kernel
theorem dX3_drop_65 : decode cX3_drop 65 = .ok (.invokestatic 68, 3) := by decide +kernel
theorem dX3_drop_68 : decode cX3_drop 68 = .ok (.iload_n 2, 1) := by decide +kernel
theorem dX3_drop_69 : decode cX3_drop 69 = .ok (.ireturn, 1) := by decide +kernel
set_option maxRecDepth 20000 in
theorem ggX3_lay_X3_isPlayer : GoodIn wsX3_lay wsX3_isPlayer := goodIn_r _ [12] (by decide +kernel) (by decide +kernel)
set_option maxRecDepth 20000 in
theorem gX3_lay_X3_isPlayer : GoodIn wsX3_lay (va_wsS RX3 72 yX3_isPlayer wsX3_isPlayer) := goodIn_app (goodIn_of _ (by decide +kernel)) ggX3_lay_X3_isPlayer
set_option maxRecDepth 20000 in
theorem ggX3_lay_X3_isDie : GoodIn wsX3_lay wsX3_isDie := goodIn_r _ [15] (by decide +kernel) (by decide +kernel)
set_option maxRecDepth 20000 in
theorem gX3_lay_X3_isDie : GoodIn wsX3_lay (va_wsS RX3 105 yX3_isDie wsX3_isDie) := goodIn_app (goodIn_of _ (by decide +kernel)) ggX3_lay_X3_isDie
set_option maxRecDepth 20000 in
theorem ggX3_lay_X3_isDirection : GoodIn wsX3_lay wsX3_isDirection := goodIn_r _ [18] (by decide +kernel) (by decide +kernel)
set_option maxRecDepth 20000 in
theorem gX3_lay_X3_isDirection : GoodIn wsX3_lay (va_wsS RX3 108 yX3_isDirection wsX3_isDirection) := goodIn_app (goodIn_of _ (by decide +kernel)) ggX3_lay_X3_isDirection
set_option maxRecDepth 20000 in
theorem ggX3_lay_X3_at : GoodIn wsX3_lay wsX3_at := goodIn_r _ [21] (by decide +kernel) (by decide +kernel)
set_option maxRecDepth 20000 in
theorem gX3_lay_X3_at : GoodIn wsX3_lay (va_wsS RX3 64 yX3_at wsX3_at) := goodIn_app (goodIn_of _ (by decide +kernel)) ggX3_lay_X3_at
set_option maxRecDepth 20000 in
theorem ggX3_lay_X1_reason : GoodIn wsX3_lay wsX1_reason := goodIn_r _ [26, 27, 28, 29, 11, 30, 20, 21, 31, 32, 33, 34, 35, 25, 36, 37, 38, 39, 40, 41, 42, 43, 44, 45, 46, 47, 48, 49, 50, 51, 52, 53, 54, 55, 100, 101, 102, 103, 104, 105, 106, 107, 108, 109, 110, 111] (by decide +kernel) (by decide +kernel)
set_option maxRecDepth 20000 in
theorem gX3_lay_X1_reason : GoodIn wsX3_lay (wsV RX3 119 RX1 yX1_reason wsX1_reason) := goodIn_app (goodIn_of _ (by decide +kernel)) ggX3_lay_X1_reason
set_option maxRecDepth 20000 in
theorem ggX3_lay_X3_saveState : GoodIn wsX3_lay wsX3_saveState := goodIn_r _ [59, 60, 61, 7, 62, 63, 64, 11, 65, 66, 67, 68, 25, 69, 38, 37, 51, 70, 71, 28, 72, 27, 73, 74, 39, 75, 76, 77, 78, 79, 80, 81, 82, 83, 84, 85, 95, 96, 97, 98, 99, 100, 101, 102, 103, 104, 105, 106, 107, 108, 109, 110, 111] (by decide +kernel) (by decide +kernel)
set_option maxRecDepth 20000 in
theorem gX3_lay_X3_saveState : GoodIn wsX3_lay (wsV RX3 57 RX3 yX3_saveState wsX3_saveState) := goodIn_app (goodIn_of _ (by decide +kernel)) ggX3_lay_X3_saveState
set_option maxRecDepth 20000 in
theorem ggX3_lay_X1_layPiece : GoodIn wsX3_lay wsX1_layPiece := goodIn_r _ [89, 51, 28, 74, 39, 73, 37, 72, 27, 75, 29, 11, 30, 47, 48, 49, 25, 50, 20, 21, 52, 53, 54, 55, 40, 41, 42, 43, 44, 45, 46, 90, 91, 92, 93, 19, 94, 100, 101, 102, 103, 104, 105, 106, 107, 108, 109, 110, 111] (by decide +kernel) (by decide +kernel)
set_option maxRecDepth 20000 in
theorem gX3_lay_X1_layPiece : GoodIn wsX3_lay (wsV RX3 125 RX1 yX1_layPiece wsX1_layPiece) := goodIn_app (goodIn_of _ (by decide +kernel)) ggX3_lay_X1_layPiece
theorem dX3_lay_0 : decode cX3_lay 0 = .ok (.iload_n 1, 1) := by decide +kernel
theorem dX3_lay_1 : decode cX3_lay 1 = .ok (.invokestatic 72, 3) := by decide +kernel
theorem dX3_lay_4 : decode cX3_lay 4 = .ok (.ifCond .ne 13, 3) := by decide +kernel
theorem dX3_lay_7 : decode cX3_lay 7 = .ok (.new 38, 3) := by decide +kernel
theorem dX3_lay_10 : decode cX3_lay 10 = .ok (.dup, 1) := by decide +kernel
theorem dX3_lay_11 : decode cX3_lay 11 = .ok (.ldc 103, 2) := by decide +kernel
theorem dX3_lay_13 : decode cX3_lay 13 = .ok (.invokespecial 42, 3) := by decide +kernel
theorem dX3_lay_16 : decode cX3_lay 16 = .ok (.athrow, 1) := by decide +kernel
theorem dX3_lay_17 : decode cX3_lay 17 = .ok (.iload_n 2, 1) := by decide +kernel
