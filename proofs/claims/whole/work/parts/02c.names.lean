theorem dX3_lay_18 : decode cX3_lay 18 = .ok (.invokestatic 105, 3) := by decide +kernel
theorem dX3_lay_21 : decode cX3_lay 21 = .ok (.ifCond .eq 10, 3) := by decide +kernel
theorem dX3_lay_24 : decode cX3_lay 24 = .ok (.iload_n 3, 1) := by decide +kernel
theorem dX3_lay_25 : decode cX3_lay 25 = .ok (.invokestatic 108, 3) := by decide +kernel
theorem dX3_lay_28 : decode cX3_lay 28 = .ok (.ifCond .ne 13, 3) := by decide +kernel
theorem dX3_lay_31 : decode cX3_lay 31 = .ok (.new 111, 3) := by decide +kernel
theorem dX3_lay_34 : decode cX3_lay 34 = .ok (.dup, 1) := by decide +kernel
theorem dX3_lay_35 : decode cX3_lay 35 = .ok (.ldc 113, 2) := by decide +kernel
theorem dX3_lay_37 : decode cX3_lay 37 = .ok (.invokespecial 115, 3) := by decide +kernel
theorem dX3_lay_40 : decode cX3_lay 40 = .ok (.athrow, 1) := by decide +kernel
theorem dX3_lay_41 : decode cX3_lay 41 = .ok (.aload_n 0, 1) := by decide +kernel
theorem dX3_lay_42 : decode cX3_lay 42 = .ok (.getfield 12, 3) := by decide +kernel
theorem dX3_lay_45 : decode cX3_lay 45 = .ok (.getfield 116, 3) := by decide +kernel
theorem dX3_lay_48 : decode cX3_lay 48 = .ok (.iload_n 1, 1) := by decide +kernel
theorem dX3_lay_49 : decode cX3_lay 49 = .ok (.invokestatic 64, 3) := by decide +kernel
theorem dX3_lay_52 : decode cX3_lay 52 = .ok (.istore 4, 2) := by decide +kernel
theorem dX3_lay_54 : decode cX3_lay 54 = .ok (.aload_n 0, 1) := by decide +kernel
theorem dX3_lay_55 : decode cX3_lay 55 = .ok (.getfield 12, 3) := by decide +kernel
theorem dX3_lay_58 : decode cX3_lay 58 = .ok (.iload_n 1, 1) := by decide +kernel
theorem dX3_lay_59 : decode cX3_lay 59 = .ok (.iload 4, 2) := by decide +kernel
theorem dX3_lay_61 : decode cX3_lay 61 = .ok (.iload_n 2, 1) := by decide +kernel
theorem dX3_lay_62 : decode cX3_lay 62 = .ok (.iload_n 3, 1) := by decide +kernel
theorem dX3_lay_63 : decode cX3_lay 63 = .ok (.invokevirtual 119, 3) := by decide +kernel
theorem dX3_lay_66 : decode cX3_lay 66 = .ok (.ifCond .eq 13, 3) := by decide +kernel
theorem dX3_lay_69 : decode cX3_lay 69 = .ok (.new 52, 3) := by decide +kernel
theorem dX3_lay_72 : decode cX3_lay 72 = .ok (.dup, 1) := by decide +kernel
theorem dX3_lay_73 : decode cX3_lay 73 = .ok (.ldc 123, 2) := by decide +kernel
theorem dX3_lay_75 : decode cX3_lay 75 = .ok (.invokespecial 56, 3) := by decide +kernel
theorem dX3_lay_78 : decode cX3_lay 78 = .ok (.athrow, 1) := by decide +kernel
theorem dX3_lay_79 : decode cX3_lay 79 = .ok (.aload_n 0, 1) := by decide +kernel
theorem dX3_lay_80 : decode cX3_lay 80 = .ok (.invokevirtual 57, 3) := by decide +kernel
theorem dX3_lay_83 : decode cX3_lay 83 = .ok (.aload_n 0, 1) := by decide +kernel
theorem dX3_lay_84 : decode cX3_lay 84 = .ok (.getfield 12, 3) := by decide +kernel
theorem dX3_lay_87 : decode cX3_lay 87 = .ok (.iload_n 1, 1) := by decide +kernel
theorem dX3_lay_88 : decode cX3_lay 88 = .ok (.iload 4, 2) := by decide +kernel
theorem dX3_lay_90 : decode cX3_lay 90 = .ok (.iload_n 3, 1) := by decide +kernel
theorem dX3_lay_91 : decode cX3_lay 91 = .ok (.invokevirtual 125, 3) := by decide +kernel
theorem dX3_lay_94 : decode cX3_lay 94 = .ok (.ireturn, 1) := by decide +kernel
set_option maxRecDepth 20000 in
theorem ggX3_branch_X3_isPlayer : GoodIn wsX3_branch wsX3_isPlayer := goodIn_r _ [11] (by decide +kernel) (by decide +kernel)
set_option maxRecDepth 20000 in
theorem gX3_branch_X3_isPlayer : GoodIn wsX3_branch (va_wsS RX3 72 yX3_isPlayer wsX3_isPlayer) := goodIn_app (goodIn_of _ (by decide +kernel)) ggX3_branch_X3_isPlayer
set_option maxRecDepth 20000 in
theorem ggX3_branch_X3_isSquare : GoodIn wsX3_branch wsX3_isSquare := goodIn_r _ [14] (by decide +kernel) (by decide +kernel)
set_option maxRecDepth 20000 in
theorem gX3_branch_X3_isSquare : GoodIn wsX3_branch (va_wsS RX3 34 yX3_isSquare wsX3_isSquare) := goodIn_app (goodIn_of _ (by decide +kernel)) ggX3_branch_X3_isSquare
set_option maxRecDepth 20000 in
theorem ggX3_branch_X1_hasTrack : GoodIn wsX3_branch wsX1_hasTrack := goodIn_r _ [19, 20, 21, 10, 22, 103, 104, 105, 106, 107, 108, 109, 110, 111, 112, 113, 114] (by decide +kernel) (by decide +kernel)
set_option maxRecDepth 20000 in
theorem gX3_branch_X1_hasTrack : GoodIn wsX3_branch (wsV RX3 129 RX1 yX1_hasTrack wsX1_hasTrack) := goodIn_app (goodIn_of _ (by decide +kernel)) ggX3_branch_X1_hasTrack
set_option maxRecDepth 20000 in
theorem ggX3_branch_X3_isDirection : GoodIn wsX3_branch wsX3_isDirection := goodIn_r _ [25] (by decide +kernel) (by decide +kernel)
set_option maxRecDepth 20000 in
theorem gX3_branch_X3_isDirection : GoodIn wsX3_branch (va_wsS RX3 108 yX3_isDirection wsX3_isDirection) := goodIn_app (goodIn_of _ (by decide +kernel)) ggX3_branch_X3_isDirection
set_option maxRecDepth 20000 in
theorem ggX3_branch_X1_reason : GoodIn wsX3_branch wsX1_reason := goodIn_r _ [29, 30, 31, 32, 10, 33, 21, 22, 34, 35, 36, 37, 38, 18, 39, 20, 40, 41, 42, 43, 44, 45, 46, 47, 48, 49, 50, 51, 52, 53, 54, 55, 56, 57, 103, 104, 105, 106, 107, 108, 109, 110, 111, 112, 113, 114] (by decide +kernel) (by decide +kernel)
set_option maxRecDepth 20000 in
theorem gX3_branch_X1_reason : GoodIn wsX3_branch (wsV RX3 119 RX1 yX1_reason wsX1_reason) := goodIn_app (goodIn_of _ (by decide +kernel)) ggX3_branch_X1_reason
set_option maxRecDepth 20000 in
theorem ggX3_branch_X3_saveState : GoodIn wsX3_branch wsX3_saveState := goodIn_r _ [61, 62, 63, 7, 64, 65, 66, 10, 67, 68, 69, 70, 18, 71, 40, 20, 53, 72, 73, 31, 74, 30, 75, 76, 41, 77, 78, 79, 80, 81, 82, 83, 84, 85, 86, 87, 98, 99, 100, 101, 102, 103, 104, 105, 106, 107, 108, 109, 110, 111, 112, 113, 114] (by decide +kernel) (by decide +kernel)
set_option maxRecDepth 20000 in
theorem gX3_branch_X3_saveState : GoodIn wsX3_branch (wsV RX3 57 RX3 yX3_saveState wsX3_saveState) := goodIn_app (goodIn_of _ (by decide +kernel)) ggX3_branch_X3_saveState
set_option maxRecDepth 20000 in
theorem ggX3_branch_X1_layPiece : GoodIn wsX3_branch wsX1_layPiece := goodIn_r _ [91, 53, 31, 76, 41, 75, 20, 74, 30, 77, 32, 10, 33, 49, 50, 51, 18, 52, 21, 22, 54, 55, 56, 57, 42, 43, 44, 45, 46, 47, 48, 92, 93, 94, 95, 96, 97, 103, 104, 105, 106, 107, 108, 109, 110, 111, 112, 113, 114] (by decide +kernel) (by decide +kernel)
set_option maxRecDepth 20000 in
theorem gX3_branch_X1_layPiece : GoodIn wsX3_branch (wsV RX3 125 RX1 yX1_layPiece wsX1_layPiece) := goodIn_app (goodIn_of _ (by decide +kernel)) ggX3_branch_X1_layPiece
theorem dX3_branch_0 : decode cX3_branch 0 = .ok (.iload_n 1, 1) := by decide +kernel
theorem dX3_branch_1 : decode cX3_branch 1 = .ok (.invokestatic 72, 3) := by decide +kernel
theorem dX3_branch_4 : decode cX3_branch 4 = .ok (.ifCond .eq 22, 3) := by decide +kernel
theorem dX3_branch_7 : decode cX3_branch 7 = .ok (.iload_n 2, 1) := by decide +kernel
theorem dX3_branch_8 : decode cX3_branch 8 = .ok (.invokestatic 34, 3) := by decide +kernel
theorem dX3_branch_11 : decode cX3_branch 11 = .ok (.ifCond .eq 15, 3) := by decide +kernel
theorem dX3_branch_14 : decode cX3_branch 14 = .ok (.aload_n 0, 1) := by decide +kernel
theorem dX3_branch_15 : decode cX3_branch 15 = .ok (.getfield 12, 3) := by decide +kernel
theorem dX3_branch_18 : decode cX3_branch 18 = .ok (.iload_n 1, 1) := by decide +kernel
theorem dX3_branch_19 : decode cX3_branch 19 = .ok (.iload_n 2, 1) := by decide +kernel
theorem dX3_branch_20 : decode cX3_branch 20 = .ok (.invokevirtual 129, 3) := by decide +kernel
theorem dX3_branch_23 : decode cX3_branch 23 = .ok (.ifCond .ne 13, 3) := by decide +kernel
theorem dX3_branch_26 : decode cX3_branch 26 = .ok (.new 38, 3) := by decide +kernel
theorem dX3_branch_29 : decode cX3_branch 29 = .ok (.dup, 1) := by decide +kernel
theorem dX3_branch_30 : decode cX3_branch 30 = .ok (.ldc 132, 2) := by decide +kernel
theorem dX3_branch_32 : decode cX3_branch 32 = .ok (.invokespecial 42, 3) := by decide +kernel
theorem dX3_branch_35 : decode cX3_branch 35 = .ok (.athrow, 1) := by decide +kernel
theorem dX3_branch_36 : decode cX3_branch 36 = .ok (.iload_n 3, 1) := by decide +kernel
theorem dX3_branch_37 : decode cX3_branch 37 = .ok (.invokestatic 108, 3) := by decide +kernel
theorem dX3_branch_40 : decode cX3_branch 40 = .ok (.ifCond .ne 13, 3) := by decide +kernel
theorem dX3_branch_43 : decode cX3_branch 43 = .ok (.new 111, 3) := by decide +kernel
theorem dX3_branch_46 : decode cX3_branch 46 = .ok (.dup, 1) := by decide +kernel
theorem dX3_branch_47 : decode cX3_branch 47 = .ok (.ldc 134, 2) := by decide +kernel
theorem dX3_branch_49 : decode cX3_branch 49 = .ok (.invokespecial 115, 3) := by decide +kernel
theorem dX3_branch_52 : decode cX3_branch 52 = .ok (.athrow, 1) := by decide +kernel
theorem dX3_branch_53 : decode cX3_branch 53 = .ok (.aload_n 0, 1) := by decide +kernel
theorem dX3_branch_54 : decode cX3_branch 54 = .ok (.getfield 12, 3) := by decide +kernel
theorem dX3_branch_57 : decode cX3_branch 57 = .ok (.iload_n 1, 1) := by decide +kernel
theorem dX3_branch_58 : decode cX3_branch 58 = .ok (.iload_n 2, 1) := by decide +kernel
theorem dX3_branch_59 : decode cX3_branch 59 = .ok (.bipush 6, 2) := by decide +kernel
theorem dX3_branch_61 : decode cX3_branch 61 = .ok (.iload_n 3, 1) := by decide +kernel
theorem dX3_branch_62 : decode cX3_branch 62 = .ok (.invokevirtual 119, 3) := by decide +kernel
theorem dX3_branch_65 : decode cX3_branch 65 = .ok (.ifCond .eq 13, 3) := by decide +kernel
theorem dX3_branch_68 : decode cX3_branch 68 = .ok (.new 52, 3) := by decide +kernel
theorem dX3_branch_71 : decode cX3_branch 71 = .ok (.dup, 1) := by decide +kernel
theorem dX3_branch_72 : decode cX3_branch 72 = .ok (.ldc 123, 2) := by decide +kernel
theorem dX3_branch_74 : decode cX3_branch 74 = .ok (.invokespecial 56, 3) := by decide +kernel
theorem dX3_branch_77 : decode cX3_branch 77 = .ok (.athrow, 1) := by decide +kernel
theorem dX3_branch_78 : decode cX3_branch 78 = .ok (.aload_n 0, 1) := by decide +kernel
theorem dX3_branch_79 : decode cX3_branch 79 = .ok (.invokevirtual 57, 3) := by decide +kernel
theorem dX3_branch_82 : decode cX3_branch 82 = .ok (.aload_n 0, 1) := by decide +kernel
theorem dX3_branch_83 : decode cX3_branch 83 = .ok (.getfield 12, 3) := by decide +kernel
theorem dX3_branch_86 : decode cX3_branch 86 = .ok (.iload_n 1, 1) := by decide +kernel
theorem dX3_branch_87 : decode cX3_branch 87 = .ok (.iload_n 2, 1) := by decide +kernel
theorem dX3_branch_88 : decode cX3_branch 88 = .ok (.iload_n 3, 1) := by decide +kernel
theorem dX3_branch_89 : decode cX3_branch 89 = .ok (.invokevirtual 125, 3) := by decide +kernel
theorem dX3_branch_92 : decode cX3_branch 92 = .ok (.ireturn, 1) := by decide +kernel
set_option maxRecDepth 20000 in
theorem ggX3_takeUp_X3_isPlayer : GoodIn wsX3_takeUp wsX3_isPlayer := goodIn_r _ [7] (by decide +kernel) (by decide +kernel)
set_option maxRecDepth 20000 in
theorem gX3_takeUp_X3_isPlayer : GoodIn wsX3_takeUp (va_wsS RX3 72 yX3_isPlayer wsX3_isPlayer) := goodIn_app (goodIn_of _ (by decide +kernel)) ggX3_takeUp_X3_isPlayer
set_option maxRecDepth 20000 in
theorem ggX3_takeUp_X3_saveState : GoodIn wsX3_takeUp wsX3_saveState := goodIn_r _ [11, 12, 13, 3, 14, 15, 16, 6, 17, 18, 19, 20, 21, 22, 23, 24, 25, 26, 27, 28, 29, 30, 31, 32, 33, 34, 35, 36, 37, 38, 39, 40, 41, 42, 43, 44, 66, 67, 68, 69, 70, 71, 72, 73, 74, 75, 76, 77, 78, 79, 80, 81, 82] (by decide +kernel) (by decide +kernel)
set_option maxRecDepth 20000 in
theorem gX3_takeUp_X3_saveState : GoodIn wsX3_takeUp (wsV RX3 57 RX3 yX3_saveState wsX3_saveState) := goodIn_app (goodIn_of _ (by decide +kernel)) ggX3_takeUp_X3_saveState
set_option maxRecDepth 20000 in
theorem ggX3_takeUp_X1_removeLine : GoodIn wsX3_takeUp wsX1_removeLine := goodIn_r _ [48, 29, 30, 49, 6, 50, 51, 52, 53, 21, 54, 24, 55, 56, 57, 58, 25, 59, 60, 61, 62, 63, 64, 65, 71, 72, 73, 74, 75, 76, 77, 78, 79, 80, 81, 82] (by decide +kernel) (by decide +kernel)
set_option maxRecDepth 20000 in
theorem gX3_takeUp_X1_removeLine : GoodIn wsX3_takeUp (wsV RX3 136 RX1 yX1_removeLine wsX1_removeLine) := goodIn_app (goodIn_of _ (by decide +kernel)) ggX3_takeUp_X1_removeLine
theorem dX3_takeUp_0 : decode cX3_takeUp 0 = .ok (.iload_n 1, 1) := by decide +kernel
theorem dX3_takeUp_1 : decode cX3_takeUp 1 = .ok (.invokestatic 72, 3) := by decide +kernel
theorem dX3_takeUp_4 : decode cX3_takeUp 4 = .ok (.ifCond .ne 13, 3) := by decide +kernel
theorem dX3_takeUp_7 : decode cX3_takeUp 7 = .ok (.new 38, 3) := by decide +kernel
theorem dX3_takeUp_10 : decode cX3_takeUp 10 = .ok (.dup, 1) := by decide +kernel
theorem dX3_takeUp_11 : decode cX3_takeUp 11 = .ok (.ldc 103, 2) := by decide +kernel
theorem dX3_takeUp_13 : decode cX3_takeUp 13 = .ok (.invokespecial 42, 3) := by decide +kernel
theorem dX3_takeUp_16 : decode cX3_takeUp 16 = .ok (.athrow, 1) := by decide +kernel
theorem dX3_takeUp_17 : decode cX3_takeUp 17 = .ok (.aload_n 0, 1) := by decide +kernel
theorem dX3_takeUp_18 : decode cX3_takeUp 18 = .ok (.invokevirtual 57, 3) := by decide +kernel
theorem dX3_takeUp_21 : decode cX3_takeUp 21 = .ok (.aload_n 0, 1) := by decide +kernel
theorem dX3_takeUp_22 : decode cX3_takeUp 22 = .ok (.getfield 12, 3) := by decide +kernel
theorem dX3_takeUp_25 : decode cX3_takeUp 25 = .ok (.iload_n 1, 1) := by decide +kernel
theorem dX3_takeUp_26 : decode cX3_takeUp 26 = .ok (.invokevirtual 136, 3) := by decide +kernel
theorem dX3_takeUp_29 : decode cX3_takeUp 29 = .ok (.ireturn, 1) := by decide +kernel
set_option maxRecDepth 20000 in
theorem ggX3_give_X3_isPlayer : GoodIn wsX3_give wsX3_isPlayer := goodIn_r _ [13] (by decide +kernel) (by decide +kernel)
set_option maxRecDepth 20000 in
theorem gX3_give_X3_isPlayer : GoodIn wsX3_give (va_wsS RX3 72 yX3_isPlayer wsX3_isPlayer) := goodIn_app (goodIn_of _ (by decide +kernel)) ggX3_give_X3_isPlayer
set_option maxRecDepth 20000 in
theorem ggX3_give_X3_at : GoodIn wsX3_give wsX3_at := goodIn_r _ [16] (by decide +kernel) (by decide +kernel)
set_option maxRecDepth 20000 in
theorem gX3_give_X3_at : GoodIn wsX3_give (va_wsS RX3 64 yX3_at wsX3_at) := goodIn_app (goodIn_of _ (by decide +kernel)) ggX3_give_X3_at
set_option maxRecDepth 20000 in
theorem ggX3_give_X3_saveState : GoodIn wsX3_give wsX3_saveState := goodIn_r _ [20, 21, 22, 7, 23, 24, 25, 12, 26, 27, 28, 29, 30, 31, 32, 33, 34, 35, 36, 37, 38, 39, 40, 41, 42, 43, 44, 45, 46, 47, 48, 49, 50, 51, 52, 53, 60, 61, 62, 63, 64, 65, 66, 67, 68, 69, 70, 71, 72, 73, 74, 75, 76] (by decide +kernel) (by decide +kernel)
set_option maxRecDepth 20000 in
theorem gX3_give_X3_saveState : GoodIn wsX3_give (wsV RX3 57 RX3 yX3_saveState wsX3_saveState) := goodIn_app (goodIn_of _ (by decide +kernel)) ggX3_give_X3_saveState
set_option maxRecDepth 20000 in
theorem ggX3_give_X3_increase : GoodIn wsX3_give wsX3_increase := goodIn_r _ [56, 14, 15, 12, 16, 57, 58, 59] (by decide +kernel) (by decide +kernel)
set_option maxRecDepth 20000 in
theorem gX3_give_X3_increase : GoodIn wsX3_give (va_wsS RX3 147 yX3_increase wsX3_increase) := goodIn_app (goodIn_of _ (by decide +kernel)) ggX3_give_X3_increase
theorem dX3_give_0 : decode cX3_give 0 = .ok (.iload_n 1, 1) := by decide +kernel
theorem dX3_give_1 : decode cX3_give 1 = .ok (.invokestatic 72, 3) := by decide +kernel
theorem dX3_give_4 : decode cX3_give 4 = .ok (.ifCond .ne 13, 3) := by decide +kernel
theorem dX3_give_7 : decode cX3_give 7 = .ok (.new 38, 3) := by decide +kernel
theorem dX3_give_10 : decode cX3_give 10 = .ok (.dup, 1) := by decide +kernel
theorem dX3_give_11 : decode cX3_give 11 = .ok (.ldc 103, 2) := by decide +kernel
theorem dX3_give_13 : decode cX3_give 13 = .ok (.invokespecial 42, 3) := by decide +kernel
theorem dX3_give_16 : decode cX3_give 16 = .ok (.athrow, 1) := by decide +kernel
theorem dX3_give_17 : decode cX3_give 17 = .ok (.iload_n 2, 1) := by decide +kernel
theorem dX3_give_18 : decode cX3_give 18 = .ok (.iconst 1, 1) := by decide +kernel
theorem dX3_give_19 : decode cX3_give 19 = .ok (.if_icmp .lt 10, 3) := by decide +kernel
theorem dX3_give_22 : decode cX3_give 22 = .ok (.iload_n 2, 1) := by decide +kernel
theorem dX3_give_23 : decode cX3_give 23 = .ok (.sipush 999, 3) := by decide +kernel
theorem dX3_give_26 : decode cX3_give 26 = .ok (.if_icmp .le 13, 3) := by decide +kernel
theorem dX3_give_29 : decode cX3_give 29 = .ok (.new 111, 3) := by decide +kernel
theorem dX3_give_32 : decode cX3_give 32 = .ok (.dup, 1) := by decide +kernel
theorem dX3_give_33 : decode cX3_give 33 = .ok (.ldc 139, 2) := by decide +kernel
theorem dX3_give_35 : decode cX3_give 35 = .ok (.invokespecial 115, 3) := by decide +kernel
theorem dX3_give_38 : decode cX3_give 38 = .ok (.athrow, 1) := by decide +kernel
theorem dX3_give_39 : decode cX3_give 39 = .ok (.aload_n 0, 1) := by decide +kernel
theorem dX3_give_40 : decode cX3_give 40 = .ok (.getfield 12, 3) := by decide +kernel
theorem dX3_give_43 : decode cX3_give 43 = .ok (.getfield 141, 3) := by decide +kernel
theorem dX3_give_46 : decode cX3_give 46 = .ok (.iload_n 1, 1) := by decide +kernel
theorem dX3_give_47 : decode cX3_give 47 = .ok (.invokestatic 64, 3) := by decide +kernel
theorem dX3_give_50 : decode cX3_give 50 = .ok (.iload_n 2, 1) := by decide +kernel
theorem dX3_give_51 : decode cX3_give 51 = .ok (.iadd, 1) := by decide +kernel
theorem dX3_give_52 : decode cX3_give 52 = .ok (.ldc 144, 2) := by decide +kernel
theorem dX3_give_54 : decode cX3_give 54 = .ok (.if_icmp .le 13, 3) := by decide +kernel
theorem dX3_give_57 : decode cX3_give 57 = .ok (.new 52, 3) := by decide +kernel
theorem dX3_give_60 : decode cX3_give 60 = .ok (.dup, 1) := by decide +kernel
theorem dX3_give_61 : decode cX3_give 61 = .ok (.ldc 145, 2) := by decide +kernel
theorem dX3_give_63 : decode cX3_give 63 = .ok (.invokespecial 56, 3) := by decide +kernel
theorem dX3_give_66 : decode cX3_give 66 = .ok (.athrow, 1) := by decide +kernel
theorem dX3_give_67 : decode cX3_give 67 = .ok (.aload_n 0, 1) := by decide +kernel
theorem dX3_give_68 : decode cX3_give 68 = .ok (.invokevirtual 57, 3) := by decide +kernel
theorem dX3_give_71 : decode cX3_give 71 = .ok (.aload_n 0, 1) := by decide +kernel
theorem dX3_give_72 : decode cX3_give 72 = .ok (.getfield 12, 3) := by decide +kernel
theorem dX3_give_75 : decode cX3_give 75 = .ok (.getfield 141, 3) := by decide +kernel
theorem dX3_give_78 : decode cX3_give 78 = .ok (.iload_n 1, 1) := by decide +kernel
theorem dX3_give_79 : decode cX3_give 79 = .ok (.iload_n 2, 1) := by decide +kernel
theorem dX3_give_80 : decode cX3_give 80 = .ok (.invokestatic 147, 3) := by decide +kernel
theorem dX3_give_83 : decode cX3_give 83 = .ok (.aload_n 0, 1) := by decide +kernel
theorem dX3_give_84 : decode cX3_give 84 = .ok (.getfield 12, 3) := by decide +kernel
theorem dX3_give_87 : decode cX3_give 87 = .ok (.getfield 141, 3) := by decide +kernel
theorem dX3_give_90 : decode cX3_give 90 = .ok (.iload_n 1, 1) := by decide +kernel
theorem dX3_give_91 : decode cX3_give 91 = .ok (.invokestatic 64, 3) := by decide +kernel
theorem dX3_give_94 : decode cX3_give 94 = .ok (.ireturn, 1) := by decide +kernel
set_option maxRecDepth 20000 in
theorem ggX3_set_X3_isSetting : GoodIn wsX3_set wsX3_isSetting := goodIn_r _ [10] (by decide +kernel) (by decide +kernel)
set_option maxRecDepth 20000 in
theorem gX3_set_X3_isSetting : GoodIn wsX3_set (va_wsS RX3 150 yX3_isSetting wsX3_isSetting) := goodIn_app (goodIn_of _ (by decide +kernel)) ggX3_set_X3_isSetting
set_option maxRecDepth 20000 in
theorem ggX3_set_X3_isSettingValue : GoodIn wsX3_set wsX3_isSettingValue := goodIn_r _ [13] (by decide +kernel) (by decide +kernel)
set_option maxRecDepth 20000 in
theorem gX3_set_X3_isSettingValue : GoodIn wsX3_set (va_wsS RX3 155 yX3_isSettingValue wsX3_isSettingValue) := goodIn_app (goodIn_of _ (by decide +kernel)) ggX3_set_X3_isSettingValue
set_option maxRecDepth 20000 in
theorem ggX3_set_X3_saveState : GoodIn wsX3_set wsX3_saveState := goodIn_r _ [17, 18, 19, 5, 20, 21, 22, 9, 23, 24, 25, 26, 27, 28, 29, 30, 31, 32, 33, 34, 35, 36, 37, 38, 39, 40, 41, 42, 43, 44, 45, 46, 47, 48, 49, 50, 57, 58, 59, 60, 61, 62, 63, 64, 65, 66, 67, 68, 69, 70, 71, 72, 73] (by decide +kernel) (by decide +kernel)
set_option maxRecDepth 20000 in
theorem gX3_set_X3_saveState : GoodIn wsX3_set (wsV RX3 57 RX3 yX3_saveState wsX3_saveState) := goodIn_app (goodIn_of _ (by decide +kernel)) ggX3_set_X3_saveState
set_option maxRecDepth 20000 in
theorem ggX3_set_X3_at : GoodIn wsX3_set wsX3_at := goodIn_r _ [53] (by decide +kernel) (by decide +kernel)
set_option maxRecDepth 20000 in
theorem gX3_set_X3_at : GoodIn wsX3_set (va_wsS RX3 64 yX3_at wsX3_at) := goodIn_app (goodIn_of _ (by decide +kernel)) ggX3_set_X3_at
set_option maxRecDepth 20000 in
theorem ggX3_set_X3_put : GoodIn wsX3_set wsX3_put := goodIn_r _ [56] (by decide +kernel) (by decide +kernel)
set_option maxRecDepth 20000 in
theorem gX3_set_X3_put : GoodIn wsX3_set (va_wsS RX3 68 yX3_put wsX3_put) := goodIn_app (goodIn_of _ (by decide +kernel)) ggX3_set_X3_put
theorem dX3_set_0 : decode cX3_set 0 = .ok (.iload_n 1, 1) := by decide +kernel
theorem dX3_set_1 : decode cX3_set 1 = .ok (.invokestatic 150, 3) := by decide +kernel
theorem dX3_set_4 : decode cX3_set 4 = .ok (.ifCond .ne 13, 3) := by decide +kernel
theorem dX3_set_7 : decode cX3_set 7 = .ok (.new 38, 3) := by decide +kernel
theorem dX3_set_10 : decode cX3_set 10 = .ok (.dup, 1) := by decide +kernel
theorem dX3_set_11 : decode cX3_set 11 = .ok (.ldc 153, 2) := by decide +kernel
theorem dX3_set_13 : decode cX3_set 13 = .ok (.invokespecial 42, 3) := by decide +kernel
theorem dX3_set_16 : decode cX3_set 16 = .ok (.athrow, 1) := by decide +kernel
theorem dX3_set_17 : decode cX3_set 17 = .ok (.iload_n 1, 1) := by decide +kernel
theorem dX3_set_18 : decode cX3_set 18 = .ok (.iload_n 2, 1) := by decide +kernel
theorem dX3_set_19 : decode cX3_set 19 = .ok (.invokestatic 155, 3) := by decide +kernel
theorem dX3_set_22 : decode cX3_set 22 = .ok (.ifCond .ne 13, 3) := by decide +kernel
theorem dX3_set_25 : decode cX3_set 25 = .ok (.new 111, 3) := by decide +kernel
theorem dX3_set_28 : decode cX3_set 28 = .ok (.dup, 1) := by decide +kernel
theorem dX3_set_29 : decode cX3_set 29 = .ok (.ldc 158, 2) := by decide +kernel
theorem dX3_set_31 : decode cX3_set 31 = .ok (.invokespecial 115, 3) := by decide +kernel
theorem dX3_set_34 : decode cX3_set 34 = .ok (.athrow, 1) := by decide +kernel
theorem dX3_set_35 : decode cX3_set 35 = .ok (.aload_n 0, 1) := by decide +kernel
theorem dX3_set_36 : decode cX3_set 36 = .ok (.invokevirtual 57, 3) := by decide +kernel
theorem dX3_set_39 : decode cX3_set 39 = .ok (.aload_n 0, 1) := by decide +kernel
theorem dX3_set_40 : decode cX3_set 40 = .ok (.getfield 12, 3) := by decide +kernel
theorem dX3_set_43 : decode cX3_set 43 = .ok (.getfield 160, 3) := by decide +kernel
theorem dX3_set_46 : decode cX3_set 46 = .ok (.iload_n 1, 1) := by decide +kernel
theorem dX3_set_47 : decode cX3_set 47 = .ok (.invokestatic 64, 3) := by decide +kernel
theorem dX3_set_50 : decode cX3_set 50 = .ok (.istore_n 3, 1) := by decide +kernel
theorem dX3_set_51 : decode cX3_set 51 = .ok (.aload_n 0, 1) := by decide +kernel
theorem dX3_set_52 : decode cX3_set 52 = .ok (.getfield 12, 3) := by decide +kernel
theorem dX3_set_55 : decode cX3_set 55 = .ok (.getfield 160, 3) := by decide +kernel
theorem dX3_set_58 : decode cX3_set 58 = .ok (.iload_n 1, 1) := by decide +kernel
theorem dX3_set_59 : decode cX3_set 59 = .ok (.iload_n 2, 1) := by decide +kernel
theorem dX3_set_60 : decode cX3_set 60 = .ok (.invokestatic 68, 3) := by decide +kernel
theorem dX3_set_63 : decode cX3_set 63 = .ok (.iload_n 3, 1) := by decide +kernel
theorem dX3_set_64 : decode cX3_set 64 = .ok (.ireturn, 1) := by decide +kernel
set_option maxRecDepth 20000 in
theorem ggX3_append_X0_addCode : GoodIn wsX3_append wsX0_addCode := goodIn_r _ [11, 12, 13, 14, 15, 16, 22, 23] (by decide +kernel) (by decide +kernel)
set_option maxRecDepth 20000 in
theorem gX3_append_X0_addCode : GoodIn wsX3_append (wsV RX3 171 RX0 yX0_addCode wsX0_addCode) := goodIn_app (goodIn_of _ (by decide +kernel)) ggX3_append_X0_addCode
theorem dX3_append_0 : decode cX3_append 0 = .ok (.iload_n 1, 1) := by decide +kernel
theorem dX3_append_1 : decode cX3_append 1 = .ok (.bipush 33, 2) := by decide +kernel
theorem dX3_append_3 : decode cX3_append 3 = .ok (.if_icmp .lt 9, 3) := by decide +kernel
theorem dX3_append_6 : decode cX3_append 6 = .ok (.iload_n 1, 1) := by decide +kernel
theorem dX3_append_7 : decode cX3_append 7 = .ok (.bipush 126, 2) := by decide +kernel
theorem dX3_append_9 : decode cX3_append 9 = .ok (.if_icmp .le 13, 3) := by decide +kernel
theorem dX3_append_12 : decode cX3_append 12 = .ok (.new 111, 3) := by decide +kernel
theorem dX3_append_15 : decode cX3_append 15 = .ok (.dup, 1) := by decide +kernel
theorem dX3_append_16 : decode cX3_append 16 = .ok (.ldc 163, 2) := by decide +kernel
theorem dX3_append_18 : decode cX3_append 18 = .ok (.invokespecial 115, 3) := by decide +kernel
theorem dX3_append_21 : decode cX3_append 21 = .ok (.athrow, 1) := by decide +kernel
theorem dX3_append_22 : decode cX3_append 22 = .ok (.aload_n 0, 1) := by decide +kernel
theorem dX3_append_23 : decode cX3_append 23 = .ok (.getfield 23, 3) := by decide +kernel
theorem dX3_append_26 : decode cX3_append 26 = .ok (.getfield 165, 3) := by decide +kernel
theorem dX3_append_29 : decode cX3_append 29 = .ok (.bipush 60, 2) := by decide +kernel
theorem dX3_append_31 : decode cX3_append 31 = .ok (.if_icmp .lt 13, 3) := by decide +kernel
theorem dX3_append_34 : decode cX3_append 34 = .ok (.new 52, 3) := by decide +kernel
theorem dX3_append_37 : decode cX3_append 37 = .ok (.dup, 1) := by decide +kernel
theorem dX3_append_38 : decode cX3_append 38 = .ok (.ldc 169, 2) := by decide +kernel
theorem dX3_append_40 : decode cX3_append 40 = .ok (.invokespecial 56, 3) := by decide +kernel
theorem dX3_append_43 : decode cX3_append 43 = .ok (.athrow, 1) := by decide +kernel
theorem dX3_append_44 : decode cX3_append 44 = .ok (.aload_n 0, 1) := by decide +kernel
theorem dX3_append_45 : decode cX3_append 45 = .ok (.getfield 23, 3) := by decide +kernel
theorem dX3_append_48 : decode cX3_append 48 = .ok (.iload_n 1, 1) := by decide +kernel
theorem dX3_append_49 : decode cX3_append 49 = .ok (.invokevirtual 171, 3) := by decide +kernel
theorem dX3_append_52 : decode cX3_append 52 = .ok (.aload_n 0, 1) := by decide +kernel
theorem dX3_append_53 : decode cX3_append 53 = .ok (.getfield 23, 3) := by decide +kernel
theorem dX3_append_56 : decode cX3_append 56 = .ok (.getfield 165, 3) := by decide +kernel
theorem dX3_append_59 : decode cX3_append 59 = .ok (.ireturn, 1) := by decide +kernel
theorem dX3_clearBuffer_0 : decode cX3_clearBuffer 0 = .ok (.aload_n 0, 1) := by decide +kernel
theorem dX3_clearBuffer_1 : decode cX3_clearBuffer 1 = .ok (.getfield 23, 3) := by decide +kernel
theorem dX3_clearBuffer_4 : decode cX3_clearBuffer 4 = .ok (.getfield 165, 3) := by decide +kernel
theorem dX3_clearBuffer_7 : decode cX3_clearBuffer 7 = .ok (.istore_n 1, 1) := by decide +kernel
theorem dX3_clearBuffer_8 : decode cX3_clearBuffer 8 = .ok (.aload_n 0, 1) := by decide +kernel
theorem dX3_clearBuffer_9 : decode cX3_clearBuffer 9 = .ok (.getfield 23, 3) := by decide +kernel
theorem dX3_clearBuffer_12 : decode cX3_clearBuffer 12 = .ok (.iconst 0, 1) := by decide +kernel
theorem dX3_clearBuffer_13 : decode cX3_clearBuffer 13 = .ok (.putfield 165, 3) := by decide +kernel
theorem dX3_clearBuffer_16 : decode cX3_clearBuffer 16 = .ok (.iload_n 1, 1) := by decide +kernel
theorem dX3_clearBuffer_17 : decode cX3_clearBuffer 17 = .ok (.ireturn, 1) := by decide +kernel
set_option maxRecDepth 20000 in
theorem ggX3_firstError_X0_errorIndex : GoodIn wsX3_firstError wsX0_errorIndex := goodIn_r _ [6, 7, 8, 9, 10, 11, 12, 13, 5, 14, 15, 16, 17, 18, 19, 20, 26, 27] (by decide +kernel) (by decide +kernel)
set_option maxRecDepth 20000 in
theorem gX3_firstError_X0_errorIndex : GoodIn wsX3_firstError (wsV RX3 175 RX0 yX0_errorIndex wsX0_errorIndex) := goodIn_app (goodIn_of _ (by decide +kernel)) ggX3_firstError_X0_errorIndex
theorem dX3_firstError_0 : decode cX3_firstError 0 = .ok (.aload_n 0, 1) := by decide +kernel
theorem dX3_firstError_1 : decode cX3_firstError 1 = .ok (.getfield 23, 3) := by decide +kernel
theorem dX3_firstError_4 : decode cX3_firstError 4 = .ok (.invokevirtual 175, 3) := by decide +kernel
theorem dX3_firstError_7 : decode cX3_firstError 7 = .ok (.ireturn, 1) := by decide +kernel
set_option maxRecDepth 20000 in
theorem ggX3_play_X0_isComplete : GoodIn wsX3_play wsX0_isComplete := goodIn_r _ [10, 11, 12, 13, 14, 15, 16, 17, 9, 18, 19, 20, 21, 22, 23, 24, 109, 110] (by decide +kernel) (by decide +kernel)
set_option maxRecDepth 20000 in
theorem gX3_play_X0_isComplete : GoodIn wsX3_play (wsV RX3 178 RX0 yX0_isComplete wsX0_isComplete) := goodIn_app (goodIn_of _ (by decide +kernel)) ggX3_play_X0_isComplete
set_option maxRecDepth 20000 in
theorem ggX3_play_X3_saveState : GoodIn wsX3_play wsX3_saveState := goodIn_r _ [28, 29, 30, 4, 31, 32, 33, 14, 34, 35, 36, 37, 38, 39, 40, 41, 42, 43, 44, 45, 46, 47, 48, 49, 50, 51, 52, 53, 54, 55, 56, 57, 58, 59, 60, 61, 104, 105, 106, 107, 108, 111, 112, 113, 114, 115, 116, 117, 118, 119, 120, 121, 122] (by decide +kernel) (by decide +kernel)
set_option maxRecDepth 20000 in
theorem gX3_play_X3_saveState : GoodIn wsX3_play (wsV RX3 57 RX3 yX3_saveState wsX3_saveState) := goodIn_app (goodIn_of _ (by decide +kernel)) ggX3_play_X3_saveState
set_option maxRecDepth 20000 in
theorem ggX3_play_X0_layPieces : GoodIn wsX3_play wsX0_layPieces := goodIn_r _ [65, 11, 12, 66, 13, 14, 15, 22, 23, 9, 24, 67, 68, 69, 38, 70, 47, 45, 71, 72, 73, 74, 75, 76, 77, 78, 41, 40, 50, 79, 80, 81, 82, 83, 84, 85, 86, 87, 88, 89, 42, 90, 91, 92, 93, 94, 95, 96, 97, 49, 48, 46, 51, 98, 99, 100, 101, 102, 103, 109, 110, 111, 112, 113, 114, 115, 116, 117, 118, 119, 120, 121, 122] (by decide +kernel) (by decide +kernel)
set_option maxRecDepth 20000 in
theorem gX3_play_X0_layPieces : GoodIn wsX3_play (wsV RX3 184 RX0 yX0_layPieces wsX0_layPieces) := goodIn_app (goodIn_of _ (by decide +kernel)) ggX3_play_X0_layPieces
theorem dX3_play_0 : decode cX3_play 0 = .ok (.aload_n 0, 1) := by decide +kernel
theorem dX3_play_1 : decode cX3_play 1 = .ok (.getfield 23, 3) := by decide +kernel
theorem dX3_play_4 : decode cX3_play 4 = .ok (.invokevirtual 178, 3) := by decide +kernel
theorem dX3_play_7 : decode cX3_play 7 = .ok (.ifCond .ne 13, 3) := by decide +kernel
theorem dX3_play_10 : decode cX3_play 10 = .ok (.new 111, 3) := by decide +kernel
theorem dX3_play_13 : decode cX3_play 13 = .ok (.dup, 1) := by decide +kernel
theorem dX3_play_14 : decode cX3_play 14 = .ok (.ldc 182, 2) := by decide +kernel
theorem dX3_play_16 : decode cX3_play 16 = .ok (.invokespecial 115, 3) := by decide +kernel
theorem dX3_play_19 : decode cX3_play 19 = .ok (.athrow, 1) := by decide +kernel
theorem dX3_play_20 : decode cX3_play 20 = .ok (.aload_n 0, 1) := by decide +kernel
theorem dX3_play_21 : decode cX3_play 21 = .ok (.invokevirtual 57, 3) := by decide +kernel
theorem dX3_play_24 : decode cX3_play 24 = .ok (.aload_n 0, 1) := by decide +kernel
theorem dX3_play_25 : decode cX3_play 25 = .ok (.getfield 23, 3) := by decide +kernel
theorem dX3_play_28 : decode cX3_play 28 = .ok (.aload_n 0, 1) := by decide +kernel
theorem dX3_play_29 : decode cX3_play 29 = .ok (.getfield 12, 3) := by decide +kernel
theorem dX3_play_32 : decode cX3_play 32 = .ok (.invokevirtual 184, 3) := by decide +kernel
theorem dX3_play_35 : decode cX3_play 35 = .ok (.istore_n 1, 1) := by decide +kernel
theorem dX3_play_36 : decode cX3_play 36 = .ok (.aload_n 0, 1) := by decide +kernel
theorem dX3_play_37 : decode cX3_play 37 = .ok (.getfield 23, 3) := by decide +kernel
theorem dX3_play_40 : decode cX3_play 40 = .ok (.iconst 0, 1) := by decide +kernel
theorem dX3_play_41 : decode cX3_play 41 = .ok (.putfield 165, 3) := by decide +kernel
theorem dX3_play_44 : decode cX3_play 44 = .ok (.iload_n 1, 1) := by decide +kernel
theorem dX3_play_45 : decode cX3_play 45 = .ok (.ireturn, 1) := by decide +kernel
set_option maxRecDepth 20000 in
theorem ggX3_undo_X1_copyFrom : GoodIn wsX3_undo wsX1_copyFrom := goodIn_r _ [10, 11, 12, 13, 14, 15, 16, 17, 18, 19, 20, 21, 22, 23, 24, 25, 26, 27, 28, 29, 30, 31, 32, 33, 39, 40, 41, 42, 43, 44, 45, 46, 47, 48, 49, 50] (by decide +kernel) (by decide +kernel)
set_option maxRecDepth 20000 in
theorem gX3_undo_X1_copyFrom : GoodIn wsX3_undo (wsV RX3 193 RX1 yX1_copyFrom wsX1_copyFrom) := goodIn_app (goodIn_of _ (by decide +kernel)) ggX3_undo_X1_copyFrom
theorem dX3_undo_0 : decode cX3_undo 0 = .ok (.aload_n 0, 1) := by decide +kernel
theorem dX3_undo_1 : decode cX3_undo 1 = .ok (.getfield 188, 3) := by decide +kernel
theorem dX3_undo_4 : decode cX3_undo 4 = .ok (.iconst 1, 1) := by decide +kernel
theorem dX3_undo_5 : decode cX3_undo 5 = .ok (.if_icmp .lt 12, 3) := by decide +kernel
theorem dX3_undo_8 : decode cX3_undo 8 = .ok (.aload_n 0, 1) := by decide +kernel
theorem dX3_undo_9 : decode cX3_undo 9 = .ok (.getfield 188, 3) := by decide +kernel
theorem dX3_undo_12 : decode cX3_undo 12 = .ok (.bipush 6, 2) := by decide +kernel
theorem dX3_undo_14 : decode cX3_undo 14 = .ok (.if_icmp .le 13, 3) := by decide +kernel
theorem dX3_undo_17 : decode cX3_undo 17 = .ok (.new 52, 3) := by decide +kernel
theorem dX3_undo_20 : decode cX3_undo 20 = .ok (.dup, 1) := by decide +kernel
theorem dX3_undo_21 : decode cX3_undo 21 = .ok (.ldc 191, 2) := by decide +kernel
theorem dX3_undo_23 : decode cX3_undo 23 = .ok (.invokespecial 56, 3) := by decide +kernel
theorem dX3_undo_26 : decode cX3_undo 26 = .ok (.athrow, 1) := by decide +kernel
theorem dX3_undo_27 : decode cX3_undo 27 = .ok (.aload_n 0, 1) := by decide +kernel
theorem dX3_undo_28 : decode cX3_undo 28 = .ok (.getfield 16, 3) := by decide +kernel
theorem dX3_undo_31 : decode cX3_undo 31 = .ok (.aload_n 0, 1) := by decide +kernel
theorem dX3_undo_32 : decode cX3_undo 32 = .ok (.getfield 188, 3) := by decide +kernel
theorem dX3_undo_35 : decode cX3_undo 35 = .ok (.iconst 1, 1) := by decide +kernel
theorem dX3_undo_36 : decode cX3_undo 36 = .ok (.isub, 1) := by decide +kernel
theorem dX3_undo_37 : decode cX3_undo 37 = .ok (.aaload, 1) := by decide +kernel
theorem dX3_undo_38 : decode cX3_undo 38 = .ok (.astore_n 1, 1) := by decide +kernel
theorem dX3_undo_39 : decode cX3_undo 39 = .ok (.aload_n 1, 1) := by decide +kernel
theorem dX3_undo_40 : decode cX3_undo 40 = .ok (.ifnull 11, 3) := by decide +kernel
theorem dX3_undo_43 : decode cX3_undo 43 = .ok (.aload_n 0, 1) := by decide +kernel
theorem dX3_undo_44 : decode cX3_undo 44 = .ok (.getfield 12, 3) := by decide +kernel
theorem dX3_undo_47 : decode cX3_undo 47 = .ok (.aload_n 1, 1) := by decide +kernel
theorem dX3_undo_48 : decode cX3_undo 48 = .ok (.invokevirtual 193, 3) := by decide +kernel
theorem dX3_undo_51 : decode cX3_undo 51 = .ok (.aload_n 0, 1) := by decide +kernel
theorem dX3_undo_52 : decode cX3_undo 52 = .ok (.dup, 1) := by decide +kernel
theorem dX3_undo_53 : decode cX3_undo 53 = .ok (.getfield 188, 3) := by decide +kernel
theorem dX3_undo_56 : decode cX3_undo 56 = .ok (.iconst 1, 1) := by decide +kernel
theorem dX3_undo_57 : decode cX3_undo 57 = .ok (.isub, 1) := by decide +kernel
theorem dX3_undo_58 : decode cX3_undo 58 = .ok (.putfield 188, 3) := by decide +kernel
theorem dX3_undo_61 : decode cX3_undo 61 = .ok (.aload_n 0, 1) := by decide +kernel
theorem dX3_undo_62 : decode cX3_undo 62 = .ok (.getfield 188, 3) := by decide +kernel
theorem dX3_undo_65 : decode cX3_undo 65 = .ok (.ireturn, 1) := by decide +kernel
set_option maxRecDepth 20000 in
theorem ggX3_square_X3_isSquare : GoodIn wsX3_square wsX3_isSquare := goodIn_r _ [8] (by decide +kernel) (by decide +kernel)
set_option maxRecDepth 20000 in
theorem gX3_square_X3_isSquare : GoodIn wsX3_square (va_wsS RX3 34 yX3_isSquare wsX3_isSquare) := goodIn_app (goodIn_of _ (by decide +kernel)) ggX3_square_X3_isSquare
set_option maxRecDepth 20000 in
theorem ggX3_square_X3_propertyOfSquare : GoodIn wsX3_square wsX3_propertyOfSquare := goodIn_r _ [12, 13, 14, 15, 16, 17, 18, 7, 19, 20, 21, 22, 23, 24, 25, 26, 27, 28, 29, 30, 31, 32, 33, 34, 35, 36, 37, 38, 39, 40, 41, 42] (by decide +kernel) (by decide +kernel)
set_option maxRecDepth 20000 in
theorem gX3_square_X3_propertyOfSquare : GoodIn wsX3_square (wsV RX3 199 RX3 yX3_propertyOfSquare wsX3_propertyOfSquare) := goodIn_app (goodIn_of _ (by decide +kernel)) ggX3_square_X3_propertyOfSquare
theorem dX3_square_0 : decode cX3_square 0 = .ok (.iload_n 1, 1) := by decide +kernel
theorem dX3_square_1 : decode cX3_square 1 = .ok (.invokestatic 34, 3) := by decide +kernel
theorem dX3_square_4 : decode cX3_square 4 = .ok (.ifCond .ne 13, 3) := by decide +kernel
theorem dX3_square_7 : decode cX3_square 7 = .ok (.new 38, 3) := by decide +kernel
theorem dX3_square_10 : decode cX3_square 10 = .ok (.dup, 1) := by decide +kernel
theorem dX3_square_11 : decode cX3_square 11 = .ok (.ldc 40, 2) := by decide +kernel
theorem dX3_square_13 : decode cX3_square 13 = .ok (.invokespecial 42, 3) := by decide +kernel
theorem dX3_square_16 : decode cX3_square 16 = .ok (.athrow, 1) := by decide +kernel
theorem dX3_square_17 : decode cX3_square 17 = .ok (.iload_n 2, 1) := by decide +kernel
theorem dX3_square_18 : decode cX3_square 18 = .ok (.ifCond .lt 8, 3) := by decide +kernel
theorem dX3_square_21 : decode cX3_square 21 = .ok (.iload_n 2, 1) := by decide +kernel
theorem dX3_square_22 : decode cX3_square 22 = .ok (.iconst 3, 1) := by decide +kernel
theorem dX3_square_23 : decode cX3_square 23 = .ok (.if_icmp .le 13, 3) := by decide +kernel
theorem dX3_square_26 : decode cX3_square 26 = .ok (.new 111, 3) := by decide +kernel
theorem dX3_square_29 : decode cX3_square 29 = .ok (.dup, 1) := by decide +kernel
theorem dX3_square_30 : decode cX3_square 30 = .ok (.ldc 197, 2) := by decide +kernel
theorem dX3_square_32 : decode cX3_square 32 = .ok (.invokespecial 115, 3) := by decide +kernel
theorem dX3_square_35 : decode cX3_square 35 = .ok (.athrow, 1) := by decide +kernel
theorem dX3_square_36 : decode cX3_square 36 = .ok (.aload_n 0, 1) := by decide +kernel
theorem dX3_square_37 : decode cX3_square 37 = .ok (.iload_n 1, 1) := by decide +kernel
theorem dX3_square_38 : decode cX3_square 38 = .ok (.iload_n 2, 1) := by decide +kernel
theorem dX3_square_39 : decode cX3_square 39 = .ok (.invokevirtual 199, 3) := by decide +kernel
theorem dX3_square_42 : decode cX3_square 42 = .ok (.ireturn, 1) := by decide +kernel
set_option maxRecDepth 20000 in
theorem ggX3_stopOf_X3_isStop : GoodIn wsX3_stopOf wsX3_isStop := goodIn_r _ [8] (by decide +kernel) (by decide +kernel)
set_option maxRecDepth 20000 in
theorem gX3_stopOf_X3_isStop : GoodIn wsX3_stopOf (va_wsS RX3 95 yX3_isStop wsX3_isStop) := goodIn_app (goodIn_of _ (by decide +kernel)) ggX3_stopOf_X3_isStop
set_option maxRecDepth 20000 in
theorem ggX3_stopOf_X3_propertyOfStop : GoodIn wsX3_stopOf wsX3_propertyOfStop := goodIn_r _ [12, 13, 14, 15, 16, 17, 18, 19, 20, 21, 22, 7, 23, 24, 25, 26, 27, 28, 29, 30, 31, 32, 33, 34, 35, 36, 37, 38, 39, 40, 41, 42, 43, 44, 45, 46, 47, 48, 49, 50, 51] (by decide +kernel) (by decide +kernel)
set_option maxRecDepth 20000 in
theorem gX3_stopOf_X3_propertyOfStop : GoodIn wsX3_stopOf (wsV RX3 207 RX3 yX3_propertyOfStop wsX3_propertyOfStop) := goodIn_app (goodIn_of _ (by decide +kernel)) ggX3_stopOf_X3_propertyOfStop
theorem dX3_stopOf_0 : decode cX3_stopOf 0 = .ok (.iload_n 1, 1) := by decide +kernel
theorem dX3_stopOf_1 : decode cX3_stopOf 1 = .ok (.invokestatic 95, 3) := by decide +kernel
theorem dX3_stopOf_4 : decode cX3_stopOf 4 = .ok (.ifCond .ne 13, 3) := by decide +kernel
theorem dX3_stopOf_7 : decode cX3_stopOf 7 = .ok (.new 38, 3) := by decide +kernel
theorem dX3_stopOf_10 : decode cX3_stopOf 10 = .ok (.dup, 1) := by decide +kernel
theorem dX3_stopOf_11 : decode cX3_stopOf 11 = .ok (.ldc 203, 2) := by decide +kernel
theorem dX3_stopOf_13 : decode cX3_stopOf 13 = .ok (.invokespecial 42, 3) := by decide +kernel
theorem dX3_stopOf_16 : decode cX3_stopOf 16 = .ok (.athrow, 1) := by decide +kernel
theorem dX3_stopOf_17 : decode cX3_stopOf 17 = .ok (.iload_n 2, 1) := by decide +kernel
theorem dX3_stopOf_18 : decode cX3_stopOf 18 = .ok (.ifCond .lt 8, 3) := by decide +kernel
theorem dX3_stopOf_21 : decode cX3_stopOf 21 = .ok (.iload_n 2, 1) := by decide +kernel
theorem dX3_stopOf_22 : decode cX3_stopOf 22 = .ok (.iconst 2, 1) := by decide +kernel
theorem dX3_stopOf_23 : decode cX3_stopOf 23 = .ok (.if_icmp .le 13, 3) := by decide +kernel
theorem dX3_stopOf_26 : decode cX3_stopOf 26 = .ok (.new 111, 3) := by decide +kernel
theorem dX3_stopOf_29 : decode cX3_stopOf 29 = .ok (.dup, 1) := by decide +kernel
theorem dX3_stopOf_30 : decode cX3_stopOf 30 = .ok (.ldc 205, 2) := by decide +kernel
theorem dX3_stopOf_32 : decode cX3_stopOf 32 = .ok (.invokespecial 115, 3) := by decide +kernel
theorem dX3_stopOf_35 : decode cX3_stopOf 35 = .ok (.athrow, 1) := by decide +kernel
theorem dX3_stopOf_36 : decode cX3_stopOf 36 = .ok (.aload_n 0, 1) := by decide +kernel
theorem dX3_stopOf_37 : decode cX3_stopOf 37 = .ok (.iload_n 1, 1) := by decide +kernel
theorem dX3_stopOf_38 : decode cX3_stopOf 38 = .ok (.iload_n 2, 1) := by decide +kernel
theorem dX3_stopOf_39 : decode cX3_stopOf 39 = .ok (.invokevirtual 207, 3) := by decide +kernel
theorem dX3_stopOf_42 : decode cX3_stopOf 42 = .ok (.ireturn, 1) := by decide +kernel
set_option maxRecDepth 20000 in
theorem ggX3_player_X3_isPlayer : GoodIn wsX3_player wsX3_isPlayer := goodIn_r _ [8] (by decide +kernel) (by decide +kernel)
set_option maxRecDepth 20000 in
theorem gX3_player_X3_isPlayer : GoodIn wsX3_player (va_wsS RX3 72 yX3_isPlayer wsX3_isPlayer) := goodIn_app (goodIn_of _ (by decide +kernel)) ggX3_player_X3_isPlayer
set_option maxRecDepth 20000 in
theorem ggX3_player_X3_propertyOfPlayer : GoodIn wsX3_player wsX3_propertyOfPlayer := goodIn_r _ [12, 13, 14, 15, 16, 17, 18, 19, 20, 7, 21, 22, 23, 24, 25, 26, 27, 28, 29, 30, 31, 32, 33, 34, 35, 36, 37, 38, 39, 40, 41, 42, 43, 44, 45, 46, 47, 48, 49, 50, 51, 52, 53, 54, 55, 56, 57, 58, 59, 60, 61, 62, 63, 64, 65, 66, 67, 68, 69] (by decide +kernel) (by decide +kernel)
set_option maxRecDepth 20000 in
theorem gX3_player_X3_propertyOfPlayer : GoodIn wsX3_player (wsV RX3 212 RX3 yX3_propertyOfPlayer wsX3_propertyOfPlayer) := goodIn_app (goodIn_of _ (by decide +kernel)) ggX3_player_X3_propertyOfPlayer
theorem dX3_player_0 : decode cX3_player 0 = .ok (.iload_n 1, 1) := by decide +kernel
theorem dX3_player_1 : decode cX3_player 1 = .ok (.invokestatic 72, 3) := by decide +kernel
theorem dX3_player_4 : decode cX3_player 4 = .ok (.ifCond .ne 13, 3) := by decide +kernel
theorem dX3_player_7 : decode cX3_player 7 = .ok (.new 38, 3) := by decide +kernel
theorem dX3_player_10 : decode cX3_player 10 = .ok (.dup, 1) := by decide +kernel
theorem dX3_player_11 : decode cX3_player 11 = .ok (.ldc 103, 2) := by decide +kernel
theorem dX3_player_13 : decode cX3_player 13 = .ok (.invokespecial 42, 3) := by decide +kernel
theorem dX3_player_16 : decode cX3_player 16 = .ok (.athrow, 1) := by decide +kernel
theorem dX3_player_17 : decode cX3_player 17 = .ok (.iload_n 2, 1) := by decide +kernel
theorem dX3_player_18 : decode cX3_player 18 = .ok (.ifCond .lt 9, 3) := by decide +kernel
theorem dX3_player_21 : decode cX3_player 21 = .ok (.iload_n 2, 1) := by decide +kernel
theorem dX3_player_22 : decode cX3_player 22 = .ok (.bipush 9, 2) := by decide +kernel
theorem dX3_player_24 : decode cX3_player 24 = .ok (.if_icmp .le 13, 3) := by decide +kernel
theorem dX3_player_27 : decode cX3_player 27 = .ok (.new 111, 3) := by decide +kernel
theorem dX3_player_30 : decode cX3_player 30 = .ok (.dup, 1) := by decide +kernel
theorem dX3_player_31 : decode cX3_player 31 = .ok (.ldc 210, 2) := by decide +kernel
theorem dX3_player_33 : decode cX3_player 33 = .ok (.invokespecial 115, 3) := by decide +kernel
theorem dX3_player_36 : decode cX3_player 36 = .ok (.athrow, 1) := by decide +kernel
theorem dX3_player_37 : decode cX3_player 37 = .ok (.aload_n 0, 1) := by decide +kernel
theorem dX3_player_38 : decode cX3_player 38 = .ok (.iload_n 1, 1) := by decide +kernel
theorem dX3_player_39 : decode cX3_player 39 = .ok (.iload_n 2, 1) := by decide +kernel
theorem dX3_player_40 : decode cX3_player 40 = .ok (.invokevirtual 212, 3) := by decide +kernel
theorem dX3_player_43 : decode cX3_player 43 = .ok (.ireturn, 1) := by decide +kernel
set_option maxRecDepth 20000 in
theorem ggX3_refusal_X3_isPlayer : GoodIn wsX3_refusal wsX3_isPlayer := goodIn_r _ [10] (by decide +kernel) (by decide +kernel)
set_option maxRecDepth 20000 in
theorem gX3_refusal_X3_isPlayer : GoodIn wsX3_refusal (va_wsS RX3 72 yX3_isPlayer wsX3_isPlayer) := goodIn_app (goodIn_of _ (by decide +kernel)) ggX3_refusal_X3_isPlayer
set_option maxRecDepth 20000 in
theorem ggX3_refusal_X3_isDie : GoodIn wsX3_refusal wsX3_isDie := goodIn_r _ [13] (by decide +kernel) (by decide +kernel)
set_option maxRecDepth 20000 in
theorem gX3_refusal_X3_isDie : GoodIn wsX3_refusal (va_wsS RX3 105 yX3_isDie wsX3_isDie) := goodIn_app (goodIn_of _ (by decide +kernel)) ggX3_refusal_X3_isDie
set_option maxRecDepth 20000 in
theorem ggX3_refusal_X3_isDirection : GoodIn wsX3_refusal wsX3_isDirection := goodIn_r _ [16] (by decide +kernel) (by decide +kernel)
set_option maxRecDepth 20000 in
theorem gX3_refusal_X3_isDirection : GoodIn wsX3_refusal (va_wsS RX3 108 yX3_isDirection wsX3_isDirection) := goodIn_app (goodIn_of _ (by decide +kernel)) ggX3_refusal_X3_isDirection
set_option maxRecDepth 20000 in
theorem ggX3_refusal_X3_at : GoodIn wsX3_refusal wsX3_at := goodIn_r _ [19] (by decide +kernel) (by decide +kernel)
set_option maxRecDepth 20000 in
theorem gX3_refusal_X3_at : GoodIn wsX3_refusal (va_wsS RX3 64 yX3_at wsX3_at) := goodIn_app (goodIn_of _ (by decide +kernel)) ggX3_refusal_X3_at
set_option maxRecDepth 20000 in
theorem ggX3_refusal_X1_reason : GoodIn wsX3_refusal wsX1_reason := goodIn_r _ [24, 25, 26, 27, 9, 28, 18, 19, 29, 30, 31, 32, 33, 23, 34, 35, 36, 37, 38, 39, 40, 41, 42, 43, 44, 45, 46, 47, 48, 49, 50, 51, 52, 53, 59, 60, 61, 62, 63, 64, 65, 66, 67, 68, 69, 70] (by decide +kernel) (by decide +kernel)
set_option maxRecDepth 20000 in
theorem gX3_refusal_X1_reason : GoodIn wsX3_refusal (wsV RX3 119 RX1 yX1_reason wsX1_reason) := goodIn_app (goodIn_of _ (by decide +kernel)) ggX3_refusal_X1_reason
theorem dX3_refusal_0 : decode cX3_refusal 0 = .ok (.iload_n 1, 1) := by decide +kernel
theorem dX3_refusal_1 : decode cX3_refusal 1 = .ok (.invokestatic 72, 3) := by decide +kernel
theorem dX3_refusal_4 : decode cX3_refusal 4 = .ok (.ifCond .ne 13, 3) := by decide +kernel
theorem dX3_refusal_7 : decode cX3_refusal 7 = .ok (.new 38, 3) := by decide +kernel
theorem dX3_refusal_10 : decode cX3_refusal 10 = .ok (.dup, 1) := by decide +kernel
theorem dX3_refusal_11 : decode cX3_refusal 11 = .ok (.ldc 103, 2) := by decide +kernel
theorem dX3_refusal_13 : decode cX3_refusal 13 = .ok (.invokespecial 42, 3) := by decide +kernel
theorem dX3_refusal_16 : decode cX3_refusal 16 = .ok (.athrow, 1) := by decide +kernel
theorem dX3_refusal_17 : decode cX3_refusal 17 = .ok (.iload_n 2, 1) := by decide +kernel
theorem dX3_refusal_18 : decode cX3_refusal 18 = .ok (.invokestatic 105, 3) := by decide +kernel
theorem dX3_refusal_21 : decode cX3_refusal 21 = .ok (.ifCond .eq 10, 3) := by decide +kernel
theorem dX3_refusal_24 : decode cX3_refusal 24 = .ok (.iload_n 3, 1) := by decide +kernel
theorem dX3_refusal_25 : decode cX3_refusal 25 = .ok (.invokestatic 108, 3) := by decide +kernel
theorem dX3_refusal_28 : decode cX3_refusal 28 = .ok (.ifCond .ne 13, 3) := by decide +kernel
theorem dX3_refusal_31 : decode cX3_refusal 31 = .ok (.new 111, 3) := by decide +kernel
theorem dX3_refusal_34 : decode cX3_refusal 34 = .ok (.dup, 1) := by decide +kernel
theorem dX3_refusal_35 : decode cX3_refusal 35 = .ok (.ldc 113, 2) := by decide +kernel
theorem dX3_refusal_37 : decode cX3_refusal 37 = .ok (.invokespecial 115, 3) := by decide +kernel
theorem dX3_refusal_40 : decode cX3_refusal 40 = .ok (.athrow, 1) := by decide +kernel
theorem dX3_refusal_41 : decode cX3_refusal 41 = .ok (.aload_n 0, 1) := by decide +kernel
theorem dX3_refusal_42 : decode cX3_refusal 42 = .ok (.getfield 12, 3) := by decide +kernel
theorem dX3_refusal_45 : decode cX3_refusal 45 = .ok (.iload_n 1, 1) := by decide +kernel
theorem dX3_refusal_46 : decode cX3_refusal 46 = .ok (.aload_n 0, 1) := by decide +kernel
theorem dX3_refusal_47 : decode cX3_refusal 47 = .ok (.getfield 12, 3) := by decide +kernel
theorem dX3_refusal_50 : decode cX3_refusal 50 = .ok (.getfield 116, 3) := by decide +kernel
theorem dX3_refusal_53 : decode cX3_refusal 53 = .ok (.iload_n 1, 1) := by decide +kernel
theorem dX3_refusal_54 : decode cX3_refusal 54 = .ok (.invokestatic 64, 3) := by decide +kernel
theorem dX3_refusal_57 : decode cX3_refusal 57 = .ok (.iload_n 2, 1) := by decide +kernel
theorem dX3_refusal_58 : decode cX3_refusal 58 = .ok (.iload_n 3, 1) := by decide +kernel
theorem dX3_refusal_59 : decode cX3_refusal 59 = .ok (.invokevirtual 119, 3) := by decide +kernel
theorem dX3_refusal_62 : decode cX3_refusal 62 = .ok (.ireturn, 1) := by decide +kernel
set_option maxRecDepth 20000 in
theorem ggX3_count_X3_numberOf : GoodIn wsX3_count wsX3_numberOf := goodIn_r _ [7, 8, 9, 10, 11, 12, 13, 14, 6, 15, 16, 17, 18, 19, 20, 21, 22, 23, 24, 25, 26, 27, 28, 29, 30, 31, 32, 33, 34, 35, 36, 37, 38, 39, 40, 41, 42, 43, 44, 45, 46, 47, 48, 49, 50, 51, 52, 53, 54, 55, 56, 57, 58, 59, 60, 61, 62, 63, 64, 65, 66, 67, 68, 69, 70, 71, 72, 73, 74, 75, 76, 77, 78, 79, 80, 81] (by decide +kernel) (by decide +kernel)
set_option maxRecDepth 20000 in
theorem gX3_count_X3_numberOf : GoodIn wsX3_count (wsV RX3 217 RX3 yX3_numberOf wsX3_numberOf) := goodIn_app (goodIn_of _ (by decide +kernel)) ggX3_count_X3_numberOf
theorem dX3_count_0 : decode cX3_count 0 = .ok (.iload_n 1, 1) := by decide +kernel
theorem dX3_count_1 : decode cX3_count 1 = .ok (.ifCond .lt 9, 3) := by decide +kernel
theorem dX3_count_4 : decode cX3_count 4 = .ok (.iload_n 1, 1) := by decide +kernel
theorem dX3_count_5 : decode cX3_count 5 = .ok (.bipush 7, 2) := by decide +kernel
theorem dX3_count_7 : decode cX3_count 7 = .ok (.if_icmp .le 13, 3) := by decide +kernel
theorem dX3_count_10 : decode cX3_count 10 = .ok (.new 111, 3) := by decide +kernel
theorem dX3_count_13 : decode cX3_count 13 = .ok (.dup, 1) := by decide +kernel
theorem dX3_count_14 : decode cX3_count 14 = .ok (.ldc 215, 2) := by decide +kernel
theorem dX3_count_16 : decode cX3_count 16 = .ok (.invokespecial 115, 3) := by decide +kernel
theorem dX3_count_19 : decode cX3_count 19 = .ok (.athrow, 1) := by decide +kernel
theorem dX3_count_20 : decode cX3_count 20 = .ok (.aload_n 0, 1) := by decide +kernel
theorem dX3_count_21 : decode cX3_count 21 = .ok (.iload_n 1, 1) := by decide +kernel
theorem dX3_count_22 : decode cX3_count 22 = .ok (.invokevirtual 217, 3) := by decide +kernel
theorem dX3_count_25 : decode cX3_count 25 = .ok (.ireturn, 1) := by decide +kernel
set_option maxRecDepth 20000 in
theorem ggX3_setting_X3_isSetting : GoodIn wsX3_setting wsX3_isSetting := goodIn_r _ [8] (by decide +kernel) (by decide +kernel)
set_option maxRecDepth 20000 in
theorem gX3_setting_X3_isSetting : GoodIn wsX3_setting (va_wsS RX3 150 yX3_isSetting wsX3_isSetting) := goodIn_app (goodIn_of _ (by decide +kernel)) ggX3_setting_X3_isSetting
set_option maxRecDepth 20000 in
theorem ggX3_setting_X3_at : GoodIn wsX3_setting wsX3_at := goodIn_r _ [11] (by decide +kernel) (by decide +kernel)
set_option maxRecDepth 20000 in
theorem gX3_setting_X3_at : GoodIn wsX3_setting (va_wsS RX3 64 yX3_at wsX3_at) := goodIn_app (goodIn_of _ (by decide +kernel)) ggX3_setting_X3_at
theorem dX3_setting_0 : decode cX3_setting 0 = .ok (.iload_n 1, 1) := by decide +kernel
theorem dX3_setting_1 : decode cX3_setting 1 = .ok (.invokestatic 150, 3) := by decide +kernel
theorem dX3_setting_4 : decode cX3_setting 4 = .ok (.ifCond .ne 13, 3) := by decide +kernel
theorem dX3_setting_7 : decode cX3_setting 7 = .ok (.new 38, 3) := by decide +kernel
theorem dX3_setting_10 : decode cX3_setting 10 = .ok (.dup, 1) := by decide +kernel
theorem dX3_setting_11 : decode cX3_setting 11 = .ok (.ldc 153, 2) := by decide +kernel
theorem dX3_setting_13 : decode cX3_setting 13 = .ok (.invokespecial 42, 3) := by decide +kernel
theorem dX3_setting_16 : decode cX3_setting 16 = .ok (.athrow, 1) := by decide +kernel
theorem dX3_setting_17 : decode cX3_setting 17 = .ok (.aload_n 0, 1) := by decide +kernel
theorem dX3_setting_18 : decode cX3_setting 18 = .ok (.getfield 12, 3) := by decide +kernel
theorem dX3_setting_21 : decode cX3_setting 21 = .ok (.getfield 160, 3) := by decide +kernel
theorem dX3_setting_24 : decode cX3_setting 24 = .ok (.iload_n 1, 1) := by decide +kernel
theorem dX3_setting_25 : decode cX3_setting 25 = .ok (.invokestatic 64, 3) := by decide +kernel
theorem dX3_setting_28 : decode cX3_setting 28 = .ok (.ireturn, 1) := by decide +kernel
set_option maxRecDepth 20000 in
theorem ggX3_away_X3_isPlayer : GoodIn wsX3_away wsX3_isPlayer := goodIn_r _ [8] (by decide +kernel) (by decide +kernel)
set_option maxRecDepth 20000 in
theorem gX3_away_X3_isPlayer : GoodIn wsX3_away (va_wsS RX3 72 yX3_isPlayer wsX3_isPlayer) := goodIn_app (goodIn_of _ (by decide +kernel)) ggX3_away_X3_isPlayer
set_option maxRecDepth 20000 in
theorem ggX3_away_X3_isSquare : GoodIn wsX3_away wsX3_isSquare := goodIn_r _ [11] (by decide +kernel) (by decide +kernel)
set_option maxRecDepth 20000 in
theorem gX3_away_X3_isSquare : GoodIn wsX3_away (va_wsS RX3 34 yX3_isSquare wsX3_isSquare) := goodIn_app (goodIn_of _ (by decide +kernel)) ggX3_away_X3_isSquare
set_option maxRecDepth 20000 in
theorem ggX3_away_X2_fewestPieces : GoodIn wsX3_away wsX2_fewestPieces := goodIn_r _ [16, 17, 18, 19, 20, 15, 21, 22, 23, 24, 25, 26, 27, 28, 29, 30, 31, 32, 33, 7, 34, 35, 36, 37, 38, 39, 40, 41, 42, 43, 44, 45, 46, 47, 48, 49, 50, 51, 52, 53, 54, 55, 56, 57, 58, 59, 60, 66, 67, 68, 69, 70, 71, 72, 73, 74, 75, 76, 77, 78, 79, 80] (by decide +kernel) (by decide +kernel)
set_option maxRecDepth 20000 in
theorem gX3_away_X2_fewestPieces : GoodIn wsX3_away (wsV RX3 222 RX2 yX2_fewestPieces wsX2_fewestPieces) := goodIn_app (goodIn_of _ (by decide +kernel)) ggX3_away_X2_fewestPieces
theorem dX3_away_0 : decode cX3_away 0 = .ok (.iload_n 1, 1) := by decide +kernel
theorem dX3_away_1 : decode cX3_away 1 = .ok (.invokestatic 72, 3) := by decide +kernel
theorem dX3_away_4 : decode cX3_away 4 = .ok (.ifCond .eq 10, 3) := by decide +kernel
theorem dX3_away_7 : decode cX3_away 7 = .ok (.iload_n 2, 1) := by decide +kernel
theorem dX3_away_8 : decode cX3_away 8 = .ok (.invokestatic 34, 3) := by decide +kernel
theorem dX3_away_11 : decode cX3_away 11 = .ok (.ifCond .ne 13, 3) := by decide +kernel
theorem dX3_away_14 : decode cX3_away 14 = .ok (.new 38, 3) := by decide +kernel
theorem dX3_away_17 : decode cX3_away 17 = .ok (.dup, 1) := by decide +kernel
theorem dX3_away_18 : decode cX3_away 18 = .ok (.ldc 220, 2) := by decide +kernel
theorem dX3_away_20 : decode cX3_away 20 = .ok (.invokespecial 42, 3) := by decide +kernel
theorem dX3_away_23 : decode cX3_away 23 = .ok (.athrow, 1) := by decide +kernel
theorem dX3_away_24 : decode cX3_away 24 = .ok (.aload_n 0, 1) := by decide +kernel
theorem dX3_away_25 : decode cX3_away 25 = .ok (.getfield 30, 3) := by decide +kernel
theorem dX3_away_28 : decode cX3_away 28 = .ok (.aload_n 0, 1) := by decide +kernel
theorem dX3_away_29 : decode cX3_away 29 = .ok (.getfield 12, 3) := by decide +kernel
theorem dX3_away_32 : decode cX3_away 32 = .ok (.iload_n 1, 1) := by decide +kernel
theorem dX3_away_33 : decode cX3_away 33 = .ok (.iload_n 2, 1) := by decide +kernel
theorem dX3_away_34 : decode cX3_away 34 = .ok (.invokevirtual 222, 3) := by decide +kernel
theorem dX3_away_37 : decode cX3_away 37 = .ok (.ireturn, 1) := by decide +kernel
set_option maxRecDepth 20000 in
theorem ggX3_cheapest_X3_isPlayer : GoodIn wsX3_cheapest wsX3_isPlayer := goodIn_r _ [8] (by decide +kernel) (by decide +kernel)
set_option maxRecDepth 20000 in
theorem gX3_cheapest_X3_isPlayer : GoodIn wsX3_cheapest (va_wsS RX3 72 yX3_isPlayer wsX3_isPlayer) := goodIn_app (goodIn_of _ (by decide +kernel)) ggX3_cheapest_X3_isPlayer
set_option maxRecDepth 20000 in
theorem ggX3_cheapest_X3_isSquare : GoodIn wsX3_cheapest wsX3_isSquare := goodIn_r _ [11] (by decide +kernel) (by decide +kernel)
set_option maxRecDepth 20000 in
theorem gX3_cheapest_X3_isSquare : GoodIn wsX3_cheapest (va_wsS RX3 34 yX3_isSquare wsX3_isSquare) := goodIn_app (goodIn_of _ (by decide +kernel)) ggX3_cheapest_X3_isSquare
set_option maxRecDepth 20000 in
theorem ggX3_cheapest_X2_leastTolls : GoodIn wsX3_cheapest wsX2_leastTolls := goodIn_r _ [16, 17, 18, 19, 20, 21, 22, 23, 24, 7, 25, 26, 27, 28, 29, 30, 15, 31, 32, 33, 34, 35, 36, 37, 38, 39, 40, 41, 42, 43, 44, 45, 46, 47, 48, 49, 50, 51, 52, 53, 54, 55, 56, 57, 58, 59, 60, 61, 67, 68, 69, 70, 71, 72, 73, 74, 75, 76, 77, 78, 79, 80, 81] (by decide +kernel) (by decide +kernel)
set_option maxRecDepth 20000 in
theorem gX3_cheapest_X2_leastTolls : GoodIn wsX3_cheapest (wsV RX3 226 RX2 yX2_leastTolls wsX2_leastTolls) := goodIn_app (goodIn_of _ (by decide +kernel)) ggX3_cheapest_X2_leastTolls
theorem dX3_cheapest_0 : decode cX3_cheapest 0 = .ok (.iload_n 1, 1) := by decide +kernel
theorem dX3_cheapest_1 : decode cX3_cheapest 1 = .ok (.invokestatic 72, 3) := by decide +kernel
theorem dX3_cheapest_4 : decode cX3_cheapest 4 = .ok (.ifCond .eq 10, 3) := by decide +kernel
theorem dX3_cheapest_7 : decode cX3_cheapest 7 = .ok (.iload_n 2, 1) := by decide +kernel
theorem dX3_cheapest_8 : decode cX3_cheapest 8 = .ok (.invokestatic 34, 3) := by decide +kernel
theorem dX3_cheapest_11 : decode cX3_cheapest 11 = .ok (.ifCond .ne 13, 3) := by decide +kernel
theorem dX3_cheapest_14 : decode cX3_cheapest 14 = .ok (.new 38, 3) := by decide +kernel
theorem dX3_cheapest_17 : decode cX3_cheapest 17 = .ok (.dup, 1) := by decide +kernel
theorem dX3_cheapest_18 : decode cX3_cheapest 18 = .ok (.ldc 220, 2) := by decide +kernel
theorem dX3_cheapest_20 : decode cX3_cheapest 20 = .ok (.invokespecial 42, 3) := by decide +kernel
theorem dX3_cheapest_23 : decode cX3_cheapest 23 = .ok (.athrow, 1) := by decide +kernel
theorem dX3_cheapest_24 : decode cX3_cheapest 24 = .ok (.aload_n 0, 1) := by decide +kernel
theorem dX3_cheapest_25 : decode cX3_cheapest 25 = .ok (.getfield 30, 3) := by decide +kernel
theorem dX3_cheapest_28 : decode cX3_cheapest 28 = .ok (.aload_n 0, 1) := by decide +kernel
theorem dX3_cheapest_29 : decode cX3_cheapest 29 = .ok (.getfield 12, 3) := by decide +kernel
theorem dX3_cheapest_32 : decode cX3_cheapest 32 = .ok (.iload_n 1, 1) := by decide +kernel
theorem dX3_cheapest_33 : decode cX3_cheapest 33 = .ok (.iload_n 2, 1) := by decide +kernel
theorem dX3_cheapest_34 : decode cX3_cheapest 34 = .ok (.invokevirtual 226, 3) := by decide +kernel
theorem dX3_cheapest_37 : decode cX3_cheapest 37 = .ok (.ireturn, 1) := by decide +kernel
set_option maxRecDepth 20000 in
theorem ggX3_best_X3_isPlayer : GoodIn wsX3_best wsX3_isPlayer := goodIn_r _ [10] (by decide +kernel) (by decide +kernel)
set_option maxRecDepth 20000 in
theorem gX3_best_X3_isPlayer : GoodIn wsX3_best (va_wsS RX3 72 yX3_isPlayer wsX3_isPlayer) := goodIn_app (goodIn_of _ (by decide +kernel)) ggX3_best_X3_isPlayer
set_option maxRecDepth 20000 in
theorem ggX3_best_X3_isDie : GoodIn wsX3_best wsX3_isDie := goodIn_r _ [13] (by decide +kernel) (by decide +kernel)
set_option maxRecDepth 20000 in
theorem gX3_best_X3_isDie : GoodIn wsX3_best (va_wsS RX3 105 yX3_isDie wsX3_isDie) := goodIn_app (goodIn_of _ (by decide +kernel)) ggX3_best_X3_isDie
set_option maxRecDepth 20000 in
theorem ggX3_best_X2_bestDirection : GoodIn wsX3_best wsX2_bestDirection := goodIn_r _ [18, 19, 20, 21, 22, 23, 17, 24, 25, 26, 27, 28, 29, 30, 31, 32, 33, 34, 35, 9, 36, 37, 38, 39, 40, 41, 42, 43, 44, 45, 46, 47, 48, 49, 50, 51, 52, 53, 54, 55, 56, 57, 58, 59, 60, 61, 62, 63, 64, 65, 66, 67, 68, 69, 70, 71, 72, 73, 74, 75, 76, 77, 78, 79, 80, 81, 82, 83, 84, 85, 86, 87, 88, 89, 90, 91, 92, 93, 94, 95, 96, 97, 98, 99, 100, 101, 102, 103, 104, 110, 111, 112, 113, 114, 115, 116, 117, 118, 119, 120, 121, 122, 123, 124] (by decide +kernel) (by decide +kernel)
set_option maxRecDepth 20000 in
theorem gX3_best_X2_bestDirection : GoodIn wsX3_best (wsV RX3 231 RX2 yX2_bestDirection wsX2_bestDirection) := goodIn_app (goodIn_of _ (by decide +kernel)) ggX3_best_X2_bestDirection
theorem dX3_best_0 : decode cX3_best 0 = .ok (.iload_n 1, 1) := by decide +kernel
theorem dX3_best_1 : decode cX3_best 1 = .ok (.invokestatic 72, 3) := by decide +kernel
theorem dX3_best_4 : decode cX3_best 4 = .ok (.ifCond .ne 13, 3) := by decide +kernel
theorem dX3_best_7 : decode cX3_best 7 = .ok (.new 38, 3) := by decide +kernel
theorem dX3_best_10 : decode cX3_best 10 = .ok (.dup, 1) := by decide +kernel
theorem dX3_best_11 : decode cX3_best 11 = .ok (.ldc 103, 2) := by decide +kernel
theorem dX3_best_13 : decode cX3_best 13 = .ok (.invokespecial 42, 3) := by decide +kernel
theorem dX3_best_16 : decode cX3_best 16 = .ok (.athrow, 1) := by decide +kernel
theorem dX3_best_17 : decode cX3_best 17 = .ok (.iload_n 2, 1) := by decide +kernel
theorem dX3_best_18 : decode cX3_best 18 = .ok (.invokestatic 105, 3) := by decide +kernel
theorem dX3_best_21 : decode cX3_best 21 = .ok (.ifCond .ne 13, 3) := by decide +kernel
theorem dX3_best_24 : decode cX3_best 24 = .ok (.new 111, 3) := by decide +kernel
theorem dX3_best_27 : decode cX3_best 27 = .ok (.dup, 1) := by decide +kernel
theorem dX3_best_28 : decode cX3_best 28 = .ok (.ldc 229, 2) := by decide +kernel
theorem dX3_best_30 : decode cX3_best 30 = .ok (.invokespecial 115, 3) := by decide +kernel
theorem dX3_best_33 : decode cX3_best 33 = .ok (.athrow, 1) := by decide +kernel
theorem dX3_best_34 : decode cX3_best 34 = .ok (.aload_n 0, 1) := by decide +kernel
theorem dX3_best_35 : decode cX3_best 35 = .ok (.getfield 30, 3) := by decide +kernel
theorem dX3_best_38 : decode cX3_best 38 = .ok (.aload_n 0, 1) := by decide +kernel
theorem dX3_best_39 : decode cX3_best 39 = .ok (.getfield 12, 3) := by decide +kernel
theorem dX3_best_42 : decode cX3_best 42 = .ok (.iload_n 1, 1) := by decide +kernel
theorem dX3_best_43 : decode cX3_best 43 = .ok (.iload_n 2, 1) := by decide +kernel
theorem dX3_best_44 : decode cX3_best 44 = .ok (.invokevirtual 231, 3) := by decide +kernel
theorem dX3_best_47 : decode cX3_best 47 = .ok (.ireturn, 1) := by decide +kernel
set_option maxRecDepth 20000 in
theorem ggX3_ahead_X1_leader : GoodIn wsX3_ahead wsX1_leader := goodIn_r _ [6, 7, 8, 9, 10, 5, 11, 12, 13, 14, 15, 16, 17, 18, 19, 20, 21, 27, 28, 29, 30, 31, 32, 33, 34, 35, 36, 37, 38] (by decide +kernel) (by decide +kernel)
set_option maxRecDepth 20000 in
theorem gX3_ahead_X1_leader : GoodIn wsX3_ahead (wsV RX3 234 RX1 yX1_leader wsX1_leader) := goodIn_app (goodIn_of _ (by decide +kernel)) ggX3_ahead_X1_leader
theorem dX3_ahead_0 : decode cX3_ahead 0 = .ok (.aload_n 0, 1) := by decide +kernel
theorem dX3_ahead_1 : decode cX3_ahead 1 = .ok (.getfield 12, 3) := by decide +kernel
theorem dX3_ahead_4 : decode cX3_ahead 4 = .ok (.invokevirtual 234, 3) := by decide +kernel
theorem dX3_ahead_7 : decode cX3_ahead 7 = .ok (.ireturn, 1) := by decide +kernel
set_option maxRecDepth 20000 in
theorem ggX3_shared_X1_share : GoodIn wsX3_shared wsX1_share := goodIn_r _ [6, 7, 8, 9, 5, 10, 11, 12, 13, 14, 15, 16, 17, 18, 19, 20, 21, 22, 23, 24, 25, 31, 32, 33, 34, 35, 36, 37, 38, 39, 40, 41, 42] (by decide +kernel) (by decide +kernel)
set_option maxRecDepth 20000 in
theorem gX3_shared_X1_share : GoodIn wsX3_shared (wsV RX3 237 RX1 yX1_share wsX1_share) := goodIn_app (goodIn_of _ (by decide +kernel)) ggX3_shared_X1_share
theorem dX3_shared_0 : decode cX3_shared 0 = .ok (.aload_n 0, 1) := by decide +kernel
theorem dX3_shared_1 : decode cX3_shared 1 = .ok (.getfield 12, 3) := by decide +kernel
theorem dX3_shared_4 : decode cX3_shared 4 = .ok (.invokevirtual 237, 3) := by decide +kernel
theorem dX3_shared_7 : decode cX3_shared 7 = .ok (.dreturn, 1) := by decide +kernel
set_option maxRecDepth 20000 in
theorem ggX3_digest_X3_numberOf : GoodIn wsX3_digest wsX3_numberOf := goodIn_r _ [12, 3, 13, 14, 15, 16, 17, 18, 11, 19, 20, 21, 22, 23, 24, 25, 26, 27, 28, 29, 30, 31, 32, 33, 34, 35, 36, 37, 38, 39, 40, 41, 42, 43, 44, 45, 46, 47, 48, 49, 50, 51, 52, 53, 54, 55, 56, 57, 58, 59, 60, 61, 62, 63, 64, 65, 66, 67, 68, 213, 214, 215, 216, 217, 218, 219, 220, 221, 222, 223, 224, 225, 226, 227, 228, 229] (by decide +kernel) (by decide +kernel)
set_option maxRecDepth 20000 in
theorem gX3_digest_X3_numberOf : GoodIn wsX3_digest (wsV RX3 217 RX3 yX3_numberOf wsX3_numberOf) := goodIn_app (goodIn_of _ (by decide +kernel)) ggX3_digest_X3_numberOf
set_option maxRecDepth 20000 in
theorem ggX3_digest_X3_at : GoodIn wsX3_digest wsX3_at := goodIn_r _ [31] (by decide +kernel) (by decide +kernel)
set_option maxRecDepth 20000 in
theorem gX3_digest_X3_at : GoodIn wsX3_digest (va_wsS RX3 64 yX3_at wsX3_at) := goodIn_app (goodIn_of _ (by decide +kernel)) ggX3_digest_X3_at
set_option maxRecDepth 20000 in
theorem ggX3_digest_X3_propertyOfSquare : GoodIn wsX3_digest wsX3_propertyOfSquare := goodIn_r _ [73, 3, 74, 75, 13, 69, 30, 11, 31, 76, 77, 78, 23, 79, 29, 213, 214, 215, 216, 217, 218, 219, 220, 221, 222, 223, 224, 225, 226, 227, 228, 229] (by decide +kernel) (by decide +kernel)
set_option maxRecDepth 20000 in
theorem gX3_digest_X3_propertyOfSquare : GoodIn wsX3_digest (wsV RX3 199 RX3 yX3_propertyOfSquare wsX3_propertyOfSquare) := goodIn_app (goodIn_of _ (by decide +kernel)) ggX3_digest_X3_propertyOfSquare
set_option maxRecDepth 20000 in
theorem ggX3_digest_X3_propertyOfStop : GoodIn wsX3_digest wsX3_propertyOfStop := goodIn_r _ [83, 3, 84, 85, 86, 26, 27, 23, 28, 29, 30, 11, 31, 69, 87, 88, 89, 90, 60, 61, 62, 63, 64, 40, 213, 214, 215, 216, 217, 218, 219, 220, 221, 222, 223, 224, 225, 226, 227, 228, 229] (by decide +kernel) (by decide +kernel)
set_option maxRecDepth 20000 in
theorem gX3_digest_X3_propertyOfStop : GoodIn wsX3_digest (wsV RX3 207 RX3 yX3_propertyOfStop wsX3_propertyOfStop) := goodIn_app (goodIn_of _ (by decide +kernel)) ggX3_digest_X3_propertyOfStop
set_option maxRecDepth 20000 in
theorem ggX3_digest_X3_digestPlayer : GoodIn wsX3_digest wsX3_digestPlayer := goodIn_r _ [94, 2, 95, 3, 96, 97, 98, 99, 11, 100, 101, 102, 15, 103, 69, 30, 31, 104, 105, 106, 23, 107, 61, 62, 63, 64, 40, 108, 109, 110, 111, 112, 113, 66, 67, 68, 60, 114, 57, 58, 59, 29, 115, 53, 54, 55, 56, 65, 116, 117, 118, 119, 120, 121, 122, 123, 124, 125, 126, 127, 128, 129, 130, 131, 132, 133, 134, 135, 136, 137, 138, 139, 140, 141, 142, 143, 144, 145, 146, 147, 148, 149, 150, 41, 42, 43, 44, 45, 46, 47, 151, 152, 153, 154, 155, 156, 157, 158, 159, 160, 161, 162, 163, 164, 165, 166, 167, 168, 36, 37, 38, 39, 169, 170, 171, 172, 173, 174, 175, 176, 177, 178, 179, 180, 181, 182, 183, 184, 185, 186, 187, 188, 189, 190, 191, 192, 193, 194, 195, 196, 197, 213, 214, 215, 216, 217, 218, 219, 220, 221, 222, 223, 224, 225, 226, 227, 228, 229, 232, 233, 234] (by decide +kernel) (by decide +kernel)
set_option maxRecDepth 20000 in
theorem gX3_digest_X3_digestPlayer : GoodIn wsX3_digest (wsV RX3 245 RX3 yX3_digestPlayer wsX3_digestPlayer) := goodIn_app (goodIn_of _ (by decide +kernel)) ggX3_digest_X3_digestPlayer
set_option maxRecDepth 20000 in
theorem ggX3_digest_X1_leader : GoodIn wsX3_digest wsX1_leader := goodIn_r _ [201, 174, 56, 57, 58, 23, 59, 60, 29, 30, 11, 31, 61, 62, 63, 64, 40, 218, 219, 220, 221, 222, 223, 224, 225, 226, 227, 228, 229] (by decide +kernel) (by decide +kernel)
set_option maxRecDepth 20000 in
theorem gX3_digest_X1_leader : GoodIn wsX3_digest (wsV RX3 234 RX1 yX1_leader wsX1_leader) := goodIn_app (goodIn_of _ (by decide +kernel)) ggX3_digest_X1_leader
set_option maxRecDepth 20000 in
theorem ggX3_digest_X1_share : GoodIn wsX3_digest wsX1_share := goodIn_r _ [205, 206, 33, 34, 23, 35, 36, 37, 38, 39, 40, 30, 11, 31, 41, 42, 43, 44, 45, 46, 47, 218, 219, 220, 221, 222, 223, 224, 225, 226, 227, 228, 229] (by decide +kernel) (by decide +kernel)
set_option maxRecDepth 20000 in
theorem gX3_digest_X1_share : GoodIn wsX3_digest (wsV RX3 237 RX1 yX1_share wsX1_share) := goodIn_app (goodIn_of _ (by decide +kernel)) ggX3_digest_X1_share
set_option maxRecDepth 20000 in
theorem ggX3_digest_X3_bitsOfShare : GoodIn wsX3_digest wsX3_bitsOfShare := goodIn_r _ [209, 210, 211, 212] (by decide +kernel) (by decide +kernel)
set_option maxRecDepth 20000 in
theorem gX3_digest_X3_bitsOfShare : GoodIn wsX3_digest (va_wsS RX3 249 yX3_bitsOfShare wsX3_bitsOfShare) := goodIn_app (goodIn_of _ (by decide +kernel)) ggX3_digest_X3_bitsOfShare
theorem dX3_digest_0 : decode cX3_digest 0 = .ok (.ldc2_w 241, 3) := by decide +kernel
theorem dX3_digest_3 : decode cX3_digest 3 = .ok (.lstore_n 1, 1) := by decide +kernel
theorem dX3_digest_4 : decode cX3_digest 4 = .ok (.iconst 0, 1) := by decide +kernel
theorem dX3_digest_5 : decode cX3_digest 5 = .ok (.istore_n 3, 1) := by decide +kernel
theorem dX3_digest_6 : decode cX3_digest 6 = .ok (.iload_n 3, 1) := by decide +kernel
theorem dX3_digest_7 : decode cX3_digest 7 = .ok (.bipush 7, 2) := by decide +kernel
theorem dX3_digest_9 : decode cX3_digest 9 = .ok (.if_icmp .gt 22, 3) := by decide +kernel
theorem dX3_digest_12 : decode cX3_digest 12 = .ok (.ldc2_w 243, 3) := by decide +kernel
theorem dX3_digest_15 : decode cX3_digest 15 = .ok (.lload_n 1, 1) := by decide +kernel
theorem dX3_digest_16 : decode cX3_digest 16 = .ok (.lmul, 1) := by decide +kernel
theorem dX3_digest_17 : decode cX3_digest 17 = .ok (.aload_n 0, 1) := by decide +kernel
theorem dX3_digest_18 : decode cX3_digest 18 = .ok (.iload_n 3, 1) := by decide +kernel
theorem dX3_digest_19 : decode cX3_digest 19 = .ok (.invokevirtual 217, 3) := by decide +kernel
theorem dX3_digest_22 : decode cX3_digest 22 = .ok (.i2l, 1) := by decide +kernel
theorem dX3_digest_23 : decode cX3_digest 23 = .ok (.ladd, 1) := by decide +kernel
theorem dX3_digest_24 : decode cX3_digest 24 = .ok (.lstore_n 1, 1) := by decide +kernel
theorem dX3_digest_25 : decode cX3_digest 25 = .ok (.iinc 3 1, 3) := by decide +kernel
theorem dX3_digest_28 : decode cX3_digest 28 = .ok (.goto (-22), 3) := by decide +kernel
theorem dX3_digest_31 : decode cX3_digest 31 = .ok (.iconst 0, 1) := by decide +kernel
theorem dX3_digest_32 : decode cX3_digest 32 = .ok (.istore_n 3, 1) := by decide +kernel
theorem dX3_digest_33 : decode cX3_digest 33 = .ok (.iload_n 3, 1) := by decide +kernel
theorem dX3_digest_34 : decode cX3_digest 34 = .ok (.iconst 3, 1) := by decide +kernel
theorem dX3_digest_35 : decode cX3_digest 35 = .ok (.if_icmp .ge 28, 3) := by decide +kernel
theorem dX3_digest_38 : decode cX3_digest 38 = .ok (.ldc2_w 243, 3) := by decide +kernel
theorem dX3_digest_41 : decode cX3_digest 41 = .ok (.lload_n 1, 1) := by decide +kernel
theorem dX3_digest_42 : decode cX3_digest 42 = .ok (.lmul, 1) := by decide +kernel
theorem dX3_digest_43 : decode cX3_digest 43 = .ok (.aload_n 0, 1) := by decide +kernel
theorem dX3_digest_44 : decode cX3_digest 44 = .ok (.getfield 12, 3) := by decide +kernel
theorem dX3_digest_47 : decode cX3_digest 47 = .ok (.getfield 160, 3) := by decide +kernel
theorem dX3_digest_50 : decode cX3_digest 50 = .ok (.iload_n 3, 1) := by decide +kernel
theorem dX3_digest_51 : decode cX3_digest 51 = .ok (.invokestatic 64, 3) := by decide +kernel
theorem dX3_digest_54 : decode cX3_digest 54 = .ok (.i2l, 1) := by decide +kernel
theorem dX3_digest_55 : decode cX3_digest 55 = .ok (.ladd, 1) := by decide +kernel
theorem dX3_digest_56 : decode cX3_digest 56 = .ok (.lstore_n 1, 1) := by decide +kernel
theorem dX3_digest_57 : decode cX3_digest 57 = .ok (.iinc 3 1, 3) := by decide +kernel
theorem dX3_digest_60 : decode cX3_digest 60 = .ok (.goto (-27), 3) := by decide +kernel
theorem dX3_digest_63 : decode cX3_digest 63 = .ok (.iconst 0, 1) := by decide +kernel
theorem dX3_digest_64 : decode cX3_digest 64 = .ok (.istore_n 3, 1) := by decide +kernel
theorem dX3_digest_65 : decode cX3_digest 65 = .ok (.iload_n 3, 1) := by decide +kernel
theorem dX3_digest_66 : decode cX3_digest 66 = .ok (.bipush 80, 2) := by decide +kernel
theorem dX3_digest_68 : decode cX3_digest 68 = .ok (.if_icmp .ge 39, 3) := by decide +kernel
theorem dX3_digest_71 : decode cX3_digest 71 = .ok (.iconst 0, 1) := by decide +kernel
theorem dX3_digest_72 : decode cX3_digest 72 = .ok (.istore 4, 2) := by decide +kernel
theorem dX3_digest_74 : decode cX3_digest 74 = .ok (.iload 4, 2) := by decide +kernel
theorem dX3_digest_76 : decode cX3_digest 76 = .ok (.iconst 3, 1) := by decide +kernel
theorem dX3_digest_77 : decode cX3_digest 77 = .ok (.if_icmp .gt 24, 3) := by decide +kernel
theorem dX3_digest_80 : decode cX3_digest 80 = .ok (.ldc2_w 243, 3) := by decide +kernel
theorem dX3_digest_83 : decode cX3_digest 83 = .ok (.lload_n 1, 1) := by decide +kernel
theorem dX3_digest_84 : decode cX3_digest 84 = .ok (.lmul, 1) := by decide +kernel
theorem dX3_digest_85 : decode cX3_digest 85 = .ok (.aload_n 0, 1) := by decide +kernel
theorem dX3_digest_86 : decode cX3_digest 86 = .ok (.iload_n 3, 1) := by decide +kernel
theorem dX3_digest_87 : decode cX3_digest 87 = .ok (.iload 4, 2) := by decide +kernel
theorem dX3_digest_89 : decode cX3_digest 89 = .ok (.invokevirtual 199, 3) := by decide +kernel
theorem dX3_digest_92 : decode cX3_digest 92 = .ok (.i2l, 1) := by decide +kernel
theorem dX3_digest_93 : decode cX3_digest 93 = .ok (.ladd, 1) := by decide +kernel
theorem dX3_digest_94 : decode cX3_digest 94 = .ok (.lstore_n 1, 1) := by decide +kernel
theorem dX3_digest_95 : decode cX3_digest 95 = .ok (.iinc 4 1, 3) := by decide +kernel
theorem dX3_digest_98 : decode cX3_digest 98 = .ok (.goto (-24), 3) := by decide +kernel
theorem dX3_digest_101 : decode cX3_digest 101 = .ok (.iinc 3 1, 3) := by decide +kernel
theorem dX3_digest_104 : decode cX3_digest 104 = .ok (.goto (-39), 3) := by decide +kernel
theorem dX3_digest_107 : decode cX3_digest 107 = .ok (.iconst 0, 1) := by decide +kernel
theorem dX3_digest_108 : decode cX3_digest 108 = .ok (.istore_n 3, 1) := by decide +kernel
theorem dX3_digest_109 : decode cX3_digest 109 = .ok (.iload_n 3, 1) := by decide +kernel
theorem dX3_digest_110 : decode cX3_digest 110 = .ok (.bipush 12, 2) := by decide +kernel
theorem dX3_digest_112 : decode cX3_digest 112 = .ok (.if_icmp .ge 39, 3) := by decide +kernel
theorem dX3_digest_115 : decode cX3_digest 115 = .ok (.iconst 0, 1) := by decide +kernel
theorem dX3_digest_116 : decode cX3_digest 116 = .ok (.istore 4, 2) := by decide +kernel
theorem dX3_digest_118 : decode cX3_digest 118 = .ok (.iload 4, 2) := by decide +kernel
theorem dX3_digest_120 : decode cX3_digest 120 = .ok (.iconst 2, 1) := by decide +kernel
theorem dX3_digest_121 : decode cX3_digest 121 = .ok (.if_icmp .gt 24, 3) := by decide +kernel
theorem dX3_digest_124 : decode cX3_digest 124 = .ok (.ldc2_w 243, 3) := by decide +kernel
theorem dX3_digest_127 : decode cX3_digest 127 = .ok (.lload_n 1, 1) := by decide +kernel
theorem dX3_digest_128 : decode cX3_digest 128 = .ok (.lmul, 1) := by decide +kernel
theorem dX3_digest_129 : decode cX3_digest 129 = .ok (.aload_n 0, 1) := by decide +kernel
theorem dX3_digest_130 : decode cX3_digest 130 = .ok (.iload_n 3, 1) := by decide +kernel
theorem dX3_digest_131 : decode cX3_digest 131 = .ok (.iload 4, 2) := by decide +kernel
theorem dX3_digest_133 : decode cX3_digest 133 = .ok (.invokevirtual 207, 3) := by decide +kernel
theorem dX3_digest_136 : decode cX3_digest 136 = .ok (.i2l, 1) := by decide +kernel
theorem dX3_digest_137 : decode cX3_digest 137 = .ok (.ladd, 1) := by decide +kernel
theorem dX3_digest_138 : decode cX3_digest 138 = .ok (.lstore_n 1, 1) := by decide +kernel
theorem dX3_digest_139 : decode cX3_digest 139 = .ok (.iinc 4 1, 3) := by decide +kernel
theorem dX3_digest_142 : decode cX3_digest 142 = .ok (.goto (-24), 3) := by decide +kernel
theorem dX3_digest_145 : decode cX3_digest 145 = .ok (.iinc 3 1, 3) := by decide +kernel
theorem dX3_digest_148 : decode cX3_digest 148 = .ok (.goto (-39), 3) := by decide +kernel
theorem dX3_digest_151 : decode cX3_digest 151 = .ok (.iconst 0, 1) := by decide +kernel
theorem dX3_digest_152 : decode cX3_digest 152 = .ok (.istore_n 3, 1) := by decide +kernel
theorem dX3_digest_153 : decode cX3_digest 153 = .ok (.iload_n 3, 1) := by decide +kernel
theorem dX3_digest_154 : decode cX3_digest 154 = .ok (.iconst 4, 1) := by decide +kernel
theorem dX3_digest_155 : decode cX3_digest 155 = .ok (.if_icmp .ge 16, 3) := by decide +kernel
theorem dX3_digest_158 : decode cX3_digest 158 = .ok (.aload_n 0, 1) := by decide +kernel
theorem dX3_digest_159 : decode cX3_digest 159 = .ok (.lload_n 1, 1) := by decide +kernel
theorem dX3_digest_160 : decode cX3_digest 160 = .ok (.iload_n 3, 1) := by decide +kernel
theorem dX3_digest_161 : decode cX3_digest 161 = .ok (.invokevirtual 245, 3) := by decide +kernel
theorem dX3_digest_164 : decode cX3_digest 164 = .ok (.lstore_n 1, 1) := by decide +kernel
theorem dX3_digest_165 : decode cX3_digest 165 = .ok (.iinc 3 1, 3) := by decide +kernel
theorem dX3_digest_168 : decode cX3_digest 168 = .ok (.goto (-15), 3) := by decide +kernel
theorem dX3_digest_171 : decode cX3_digest 171 = .ok (.ldc2_w 243, 3) := by decide +kernel
theorem dX3_digest_174 : decode cX3_digest 174 = .ok (.lload_n 1, 1) := by decide +kernel
theorem dX3_digest_175 : decode cX3_digest 175 = .ok (.lmul, 1) := by decide +kernel
theorem dX3_digest_176 : decode cX3_digest 176 = .ok (.aload_n 0, 1) := by decide +kernel
theorem dX3_digest_177 : decode cX3_digest 177 = .ok (.getfield 12, 3) := by decide +kernel
theorem dX3_digest_180 : decode cX3_digest 180 = .ok (.invokevirtual 234, 3) := by decide +kernel
theorem dX3_digest_183 : decode cX3_digest 183 = .ok (.i2l, 1) := by decide +kernel
theorem dX3_digest_184 : decode cX3_digest 184 = .ok (.ladd, 1) := by decide +kernel
theorem dX3_digest_185 : decode cX3_digest 185 = .ok (.lstore_n 1, 1) := by decide +kernel
theorem dX3_digest_186 : decode cX3_digest 186 = .ok (.ldc2_w 243, 3) := by decide +kernel
theorem dX3_digest_189 : decode cX3_digest 189 = .ok (.lload_n 1, 1) := by decide +kernel
theorem dX3_digest_190 : decode cX3_digest 190 = .ok (.lmul, 1) := by decide +kernel
theorem dX3_digest_191 : decode cX3_digest 191 = .ok (.aload_n 0, 1) := by decide +kernel
theorem dX3_digest_192 : decode cX3_digest 192 = .ok (.getfield 12, 3) := by decide +kernel
theorem dX3_digest_195 : decode cX3_digest 195 = .ok (.invokevirtual 237, 3) := by decide +kernel
theorem dX3_digest_198 : decode cX3_digest 198 = .ok (.invokestatic 249, 3) := by decide +kernel
theorem dX3_digest_201 : decode cX3_digest 201 = .ok (.ladd, 1) := by decide +kernel
theorem dX3_digest_202 : decode cX3_digest 202 = .ok (.lstore_n 1, 1) := by decide +kernel
theorem dX3_digest_203 : decode cX3_digest 203 = .ok (.ldc2_w 243, 3) := by decide +kernel
theorem dX3_digest_206 : decode cX3_digest 206 = .ok (.lload_n 1, 1) := by decide +kernel
theorem dX3_digest_207 : decode cX3_digest 207 = .ok (.lmul, 1) := by decide +kernel
theorem dX3_digest_208 : decode cX3_digest 208 = .ok (.aload_n 0, 1) := by decide +kernel
theorem dX3_digest_209 : decode cX3_digest 209 = .ok (.getfield 23, 3) := by decide +kernel
theorem dX3_digest_212 : decode cX3_digest 212 = .ok (.getfield 165, 3) := by decide +kernel
theorem dX3_digest_215 : decode cX3_digest 215 = .ok (.i2l, 1) := by decide +kernel
theorem dX3_digest_216 : decode cX3_digest 216 = .ok (.ladd, 1) := by decide +kernel
theorem dX3_digest_217 : decode cX3_digest 217 = .ok (.lstore_n 1, 1) := by decide +kernel
theorem dX3_digest_218 : decode cX3_digest 218 = .ok (.iconst 0, 1) := by decide +kernel
theorem dX3_digest_219 : decode cX3_digest 219 = .ok (.istore_n 3, 1) := by decide +kernel
theorem dX3_digest_220 : decode cX3_digest 220 = .ok (.iload_n 3, 1) := by decide +kernel
theorem dX3_digest_221 : decode cX3_digest 221 = .ok (.aload_n 0, 1) := by decide +kernel
theorem dX3_digest_222 : decode cX3_digest 222 = .ok (.getfield 23, 3) := by decide +kernel
theorem dX3_digest_225 : decode cX3_digest 225 = .ok (.getfield 165, 3) := by decide +kernel
theorem dX3_digest_228 : decode cX3_digest 228 = .ok (.if_icmp .ge 28, 3) := by decide +kernel
theorem dX3_digest_231 : decode cX3_digest 231 = .ok (.ldc2_w 243, 3) := by decide +kernel
theorem dX3_digest_234 : decode cX3_digest 234 = .ok (.lload_n 1, 1) := by decide +kernel
theorem dX3_digest_235 : decode cX3_digest 235 = .ok (.lmul, 1) := by decide +kernel
theorem dX3_digest_236 : decode cX3_digest 236 = .ok (.aload_n 0, 1) := by decide +kernel
theorem dX3_digest_237 : decode cX3_digest 237 = .ok (.getfield 23, 3) := by decide +kernel
theorem dX3_digest_240 : decode cX3_digest 240 = .ok (.getfield 253, 3) := by decide +kernel
theorem dX3_digest_243 : decode cX3_digest 243 = .ok (.iload_n 3, 1) := by decide +kernel
theorem dX3_digest_244 : decode cX3_digest 244 = .ok (.invokestatic 64, 3) := by decide +kernel
theorem dX3_digest_247 : decode cX3_digest 247 = .ok (.i2l, 1) := by decide +kernel
theorem dX3_digest_248 : decode cX3_digest 248 = .ok (.ladd, 1) := by decide +kernel
theorem dX3_digest_249 : decode cX3_digest 249 = .ok (.lstore_n 1, 1) := by decide +kernel
theorem dX3_digest_250 : decode cX3_digest 250 = .ok (.iinc 3 1, 3) := by decide +kernel
theorem dX3_digest_253 : decode cX3_digest 253 = .ok (.goto (-33), 3) := by decide +kernel
theorem dX3_digest_256 : decode cX3_digest 256 = .ok (.lload_n 1, 1) := by decide +kernel
theorem dX3_digest_257 : decode cX3_digest 257 = .ok (.lreturn, 1) := by decide +kernel
set_option maxRecDepth 20000 in
theorem ggX3_digestPlayer_X3_propertyOfPlayer : GoodIn wsX3_digestPlayer wsX3_propertyOfPlayer := goodIn_r _ [9, 3, 10, 4, 11, 12, 13, 14, 15, 8, 16, 17, 18, 19, 20, 21, 22, 23, 24, 25, 26, 27, 28, 29, 30, 31, 32, 33, 34, 35, 36, 37, 38, 39, 40, 41, 42, 43, 44, 45, 46, 47, 141, 142, 143, 144, 145, 146, 147, 148, 149, 150, 151, 152, 153, 154, 155, 156, 157] (by decide +kernel) (by decide +kernel)
set_option maxRecDepth 20000 in
theorem gX3_digestPlayer_X3_propertyOfPlayer : GoodIn wsX3_digestPlayer (wsV RX3 212 RX3 yX3_propertyOfPlayer wsX3_propertyOfPlayer) := goodIn_app (goodIn_of _ (by decide +kernel)) ggX3_digestPlayer_X3_propertyOfPlayer
set_option maxRecDepth 20000 in
theorem ggX3_digestPlayer_X2_fewestPieces : GoodIn wsX3_digestPlayer wsX2_fewestPieces := goodIn_r _ [52, 53, 54, 55, 56, 51, 57, 58, 59, 60, 61, 62, 63, 23, 24, 20, 25, 26, 15, 8, 16, 64, 65, 66, 67, 68, 69, 70, 71, 72, 73, 74, 75, 76, 77, 78, 79, 80, 81, 82, 83, 84, 85, 86, 87, 88, 89, 158, 159, 160, 146, 147, 148, 149, 150, 151, 152, 153, 154, 155, 156, 157] (by decide +kernel) (by decide +kernel)
set_option maxRecDepth 20000 in
theorem gX3_digestPlayer_X2_fewestPieces : GoodIn wsX3_digestPlayer (wsV RX3 222 RX2 yX2_fewestPieces wsX2_fewestPieces) := goodIn_app (goodIn_of _ (by decide +kernel)) ggX3_digestPlayer_X2_fewestPieces
set_option maxRecDepth 20000 in
theorem ggX3_digestPlayer_X2_leastTolls : GoodIn wsX3_digestPlayer wsX2_leastTolls := goodIn_r _ [93, 53, 63, 23, 24, 20, 25, 26, 15, 8, 16, 69, 70, 94, 95, 96, 51, 97, 77, 78, 79, 80, 81, 82, 83, 84, 85, 86, 87, 88, 89, 75, 76, 98, 99, 100, 101, 102, 103, 104, 105, 106, 107, 31, 108, 109, 110, 111, 158, 159, 160, 146, 147, 148, 149, 150, 151, 152, 153, 154, 155, 156, 157] (by decide +kernel) (by decide +kernel)
set_option maxRecDepth 20000 in
theorem gX3_digestPlayer_X2_leastTolls : GoodIn wsX3_digestPlayer (wsV RX3 226 RX2 yX2_leastTolls wsX2_leastTolls) := goodIn_app (goodIn_of _ (by decide +kernel)) ggX3_digestPlayer_X2_leastTolls
set_option maxRecDepth 20000 in
theorem ggX3_digestPlayer_X3_at : GoodIn wsX3_digestPlayer wsX3_at := goodIn_r _ [16] (by decide +kernel) (by decide +kernel)
set_option maxRecDepth 20000 in
theorem gX3_digestPlayer_X3_at : GoodIn wsX3_digestPlayer (va_wsS RX3 64 yX3_at wsX3_at) := goodIn_app (goodIn_of _ (by decide +kernel)) ggX3_digestPlayer_X3_at
set_option maxRecDepth 20000 in
theorem ggX3_digestPlayer_X1_reason : GoodIn wsX3_digestPlayer wsX1_reason := goodIn_r _ [115, 116, 117, 75, 8, 76, 15, 16, 118, 119, 120, 78, 79, 20, 80, 26, 81, 82, 83, 84, 85, 86, 87, 88, 89, 121, 105, 106, 107, 31, 108, 109, 110, 111, 146, 147, 148, 149, 150, 151, 152, 153, 154, 155, 156, 157] (by decide +kernel) (by decide +kernel)
set_option maxRecDepth 20000 in
theorem gX3_digestPlayer_X1_reason : GoodIn wsX3_digestPlayer (wsV RX3 119 RX1 yX1_reason wsX1_reason) := goodIn_app (goodIn_of _ (by decide +kernel)) ggX3_digestPlayer_X1_reason
set_option maxRecDepth 20000 in
theorem ggX3_digestPlayer_X2_bestDirection : GoodIn wsX3_digestPlayer wsX2_bestDirection := goodIn_r _ [125, 126, 53, 127, 128, 129, 51, 130, 131, 54, 55, 56, 57, 58, 59, 60, 61, 62, 15, 8, 16, 132, 133, 134, 20, 135, 36, 41, 22, 23, 24, 25, 26, 77, 78, 79, 80, 81, 82, 83, 84, 85, 86, 87, 88, 89, 64, 65, 66, 67, 68, 69, 70, 71, 72, 73, 74, 75, 76, 136, 137, 138, 139, 63, 98, 99, 100, 101, 102, 103, 140, 113, 114, 115, 116, 117, 118, 119, 120, 121, 105, 106, 107, 31, 108, 109, 110, 111, 104, 146, 147, 148, 149, 150, 151, 152, 153, 154, 155, 156, 157, 158, 159, 160] (by decide +kernel) (by decide +kernel)
set_option maxRecDepth 20000 in
theorem gX3_digestPlayer_X2_bestDirection : GoodIn wsX3_digestPlayer (wsV RX3 231 RX2 yX2_bestDirection wsX2_bestDirection) := goodIn_app (goodIn_of _ (by decide +kernel)) ggX3_digestPlayer_X2_bestDirection
theorem dX3_digestPlayer_0 : decode cX3_digestPlayer 0 = .ok (.lload_n 1, 1) := by decide +kernel
theorem dX3_digestPlayer_1 : decode cX3_digestPlayer 1 = .ok (.lstore 4, 2) := by decide +kernel
theorem dX3_digestPlayer_3 : decode cX3_digestPlayer 3 = .ok (.iconst 0, 1) := by decide +kernel
theorem dX3_digestPlayer_4 : decode cX3_digestPlayer 4 = .ok (.istore 6, 2) := by decide +kernel
theorem dX3_digestPlayer_6 : decode cX3_digestPlayer 6 = .ok (.iload 6, 2) := by decide +kernel
theorem dX3_digestPlayer_8 : decode cX3_digestPlayer 8 = .ok (.bipush 9, 2) := by decide +kernel
theorem dX3_digestPlayer_10 : decode cX3_digestPlayer 10 = .ok (.if_icmp .gt 26, 3) := by decide +kernel
theorem dX3_digestPlayer_13 : decode cX3_digestPlayer 13 = .ok (.ldc2_w 243, 3) := by decide +kernel
theorem dX3_digestPlayer_16 : decode cX3_digestPlayer 16 = .ok (.lload 4, 2) := by decide +kernel
theorem dX3_digestPlayer_18 : decode cX3_digestPlayer 18 = .ok (.lmul, 1) := by decide +kernel
theorem dX3_digestPlayer_19 : decode cX3_digestPlayer 19 = .ok (.aload_n 0, 1) := by decide +kernel
theorem dX3_digestPlayer_20 : decode cX3_digestPlayer 20 = .ok (.iload_n 3, 1) := by decide +kernel
theorem dX3_digestPlayer_21 : decode cX3_digestPlayer 21 = .ok (.iload 6, 2) := by decide +kernel
theorem dX3_digestPlayer_23 : decode cX3_digestPlayer 23 = .ok (.invokevirtual 212, 3) := by decide +kernel
theorem dX3_digestPlayer_26 : decode cX3_digestPlayer 26 = .ok (.i2l, 1) := by decide +kernel
theorem dX3_digestPlayer_27 : decode cX3_digestPlayer 27 = .ok (.ladd, 1) := by decide +kernel
theorem dX3_digestPlayer_28 : decode cX3_digestPlayer 28 = .ok (.lstore 4, 2) := by decide +kernel
theorem dX3_digestPlayer_30 : decode cX3_digestPlayer 30 = .ok (.iinc 6 1, 3) := by decide +kernel
theorem dX3_digestPlayer_33 : decode cX3_digestPlayer 33 = .ok (.goto (-27), 3) := by decide +kernel
theorem dX3_digestPlayer_36 : decode cX3_digestPlayer 36 = .ok (.ldc2_w 243, 3) := by decide +kernel
theorem dX3_digestPlayer_39 : decode cX3_digestPlayer 39 = .ok (.lload 4, 2) := by decide +kernel
theorem dX3_digestPlayer_41 : decode cX3_digestPlayer 41 = .ok (.lmul, 1) := by decide +kernel
theorem dX3_digestPlayer_42 : decode cX3_digestPlayer 42 = .ok (.aload_n 0, 1) := by decide +kernel
theorem dX3_digestPlayer_43 : decode cX3_digestPlayer 43 = .ok (.getfield 30, 3) := by decide +kernel
theorem dX3_digestPlayer_46 : decode cX3_digestPlayer 46 = .ok (.aload_n 0, 1) := by decide +kernel
theorem dX3_digestPlayer_47 : decode cX3_digestPlayer 47 = .ok (.getfield 12, 3) := by decide +kernel
theorem dX3_digestPlayer_50 : decode cX3_digestPlayer 50 = .ok (.iload_n 3, 1) := by decide +kernel
theorem dX3_digestPlayer_51 : decode cX3_digestPlayer 51 = .ok (.bipush 44, 2) := by decide +kernel
theorem dX3_digestPlayer_53 : decode cX3_digestPlayer 53 = .ok (.invokevirtual 222, 3) := by decide +kernel
theorem dX3_digestPlayer_56 : decode cX3_digestPlayer 56 = .ok (.i2l, 1) := by decide +kernel
theorem dX3_digestPlayer_57 : decode cX3_digestPlayer 57 = .ok (.ladd, 1) := by decide +kernel
theorem dX3_digestPlayer_58 : decode cX3_digestPlayer 58 = .ok (.lstore 4, 2) := by decide +kernel
theorem dX3_digestPlayer_60 : decode cX3_digestPlayer 60 = .ok (.ldc2_w 243, 3) := by decide +kernel
theorem dX3_digestPlayer_63 : decode cX3_digestPlayer 63 = .ok (.lload 4, 2) := by decide +kernel
theorem dX3_digestPlayer_65 : decode cX3_digestPlayer 65 = .ok (.lmul, 1) := by decide +kernel
theorem dX3_digestPlayer_66 : decode cX3_digestPlayer 66 = .ok (.aload_n 0, 1) := by decide +kernel
theorem dX3_digestPlayer_67 : decode cX3_digestPlayer 67 = .ok (.getfield 30, 3) := by decide +kernel
theorem dX3_digestPlayer_70 : decode cX3_digestPlayer 70 = .ok (.aload_n 0, 1) := by decide +kernel
theorem dX3_digestPlayer_71 : decode cX3_digestPlayer 71 = .ok (.getfield 12, 3) := by decide +kernel
theorem dX3_digestPlayer_74 : decode cX3_digestPlayer 74 = .ok (.iload_n 3, 1) := by decide +kernel
theorem dX3_digestPlayer_75 : decode cX3_digestPlayer 75 = .ok (.bipush 44, 2) := by decide +kernel
theorem dX3_digestPlayer_77 : decode cX3_digestPlayer 77 = .ok (.invokevirtual 226, 3) := by decide +kernel
theorem dX3_digestPlayer_80 : decode cX3_digestPlayer 80 = .ok (.i2l, 1) := by decide +kernel
theorem dX3_digestPlayer_81 : decode cX3_digestPlayer 81 = .ok (.ladd, 1) := by decide +kernel
theorem dX3_digestPlayer_82 : decode cX3_digestPlayer 82 = .ok (.lstore 4, 2) := by decide +kernel
theorem dX3_digestPlayer_84 : decode cX3_digestPlayer 84 = .ok (.aload_n 0, 1) := by decide +kernel
theorem dX3_digestPlayer_85 : decode cX3_digestPlayer 85 = .ok (.getfield 12, 3) := by decide +kernel
theorem dX3_digestPlayer_88 : decode cX3_digestPlayer 88 = .ok (.getfield 116, 3) := by decide +kernel
theorem dX3_digestPlayer_91 : decode cX3_digestPlayer 91 = .ok (.iload_n 3, 1) := by decide +kernel
theorem dX3_digestPlayer_92 : decode cX3_digestPlayer 92 = .ok (.invokestatic 64, 3) := by decide +kernel
theorem dX3_digestPlayer_95 : decode cX3_digestPlayer 95 = .ok (.istore 6, 2) := by decide +kernel
theorem dX3_digestPlayer_97 : decode cX3_digestPlayer 97 = .ok (.iconst 1, 1) := by decide +kernel
theorem dX3_digestPlayer_98 : decode cX3_digestPlayer 98 = .ok (.istore 7, 2) := by decide +kernel
theorem dX3_digestPlayer_100 : decode cX3_digestPlayer 100 = .ok (.iload 7, 2) := by decide +kernel
theorem dX3_digestPlayer_102 : decode cX3_digestPlayer 102 = .ok (.bipush 6, 2) := by decide +kernel
theorem dX3_digestPlayer_104 : decode cX3_digestPlayer 104 = .ok (.if_icmp .gt 48, 3) := by decide +kernel
theorem dX3_digestPlayer_107 : decode cX3_digestPlayer 107 = .ok (.iconst 0, 1) := by decide +kernel
theorem dX3_digestPlayer_108 : decode cX3_digestPlayer 108 = .ok (.istore 8, 2) := by decide +kernel
theorem dX3_digestPlayer_110 : decode cX3_digestPlayer 110 = .ok (.iload 8, 2) := by decide +kernel
theorem dX3_digestPlayer_112 : decode cX3_digestPlayer 112 = .ok (.iconst 4, 1) := by decide +kernel
theorem dX3_digestPlayer_113 : decode cX3_digestPlayer 113 = .ok (.if_icmp .ge 33, 3) := by decide +kernel
theorem dX3_digestPlayer_116 : decode cX3_digestPlayer 116 = .ok (.ldc2_w 243, 3) := by decide +kernel
theorem dX3_digestPlayer_119 : decode cX3_digestPlayer 119 = .ok (.lload 4, 2) := by decide +kernel
theorem dX3_digestPlayer_121 : decode cX3_digestPlayer 121 = .ok (.lmul, 1) := by decide +kernel
theorem dX3_digestPlayer_122 : decode cX3_digestPlayer 122 = .ok (.aload_n 0, 1) := by decide +kernel
theorem dX3_digestPlayer_123 : decode cX3_digestPlayer 123 = .ok (.getfield 12, 3) := by decide +kernel
theorem dX3_digestPlayer_126 : decode cX3_digestPlayer 126 = .ok (.iload_n 3, 1) := by decide +kernel
theorem dX3_digestPlayer_127 : decode cX3_digestPlayer 127 = .ok (.iload 6, 2) := by decide +kernel
theorem dX3_digestPlayer_129 : decode cX3_digestPlayer 129 = .ok (.iload 7, 2) := by decide +kernel
theorem dX3_digestPlayer_131 : decode cX3_digestPlayer 131 = .ok (.iload 8, 2) := by decide +kernel
theorem dX3_digestPlayer_133 : decode cX3_digestPlayer 133 = .ok (.invokevirtual 119, 3) := by decide +kernel
theorem dX3_digestPlayer_136 : decode cX3_digestPlayer 136 = .ok (.i2l, 1) := by decide +kernel
theorem dX3_digestPlayer_137 : decode cX3_digestPlayer 137 = .ok (.ladd, 1) := by decide +kernel
theorem dX3_digestPlayer_138 : decode cX3_digestPlayer 138 = .ok (.lstore 4, 2) := by decide +kernel
theorem dX3_digestPlayer_140 : decode cX3_digestPlayer 140 = .ok (.iinc 8 1, 3) := by decide +kernel
theorem dX3_digestPlayer_143 : decode cX3_digestPlayer 143 = .ok (.goto (-33), 3) := by decide +kernel
theorem dX3_digestPlayer_146 : decode cX3_digestPlayer 146 = .ok (.iinc 7 1, 3) := by decide +kernel
theorem dX3_digestPlayer_149 : decode cX3_digestPlayer 149 = .ok (.goto (-49), 3) := by decide +kernel
theorem dX3_digestPlayer_152 : decode cX3_digestPlayer 152 = .ok (.iconst 1, 1) := by decide +kernel
theorem dX3_digestPlayer_153 : decode cX3_digestPlayer 153 = .ok (.istore 7, 2) := by decide +kernel
theorem dX3_digestPlayer_155 : decode cX3_digestPlayer 155 = .ok (.iload 7, 2) := by decide +kernel
theorem dX3_digestPlayer_157 : decode cX3_digestPlayer 157 = .ok (.bipush 6, 2) := by decide +kernel
theorem dX3_digestPlayer_159 : decode cX3_digestPlayer 159 = .ok (.if_icmp .gt 33, 3) := by decide +kernel
theorem dX3_digestPlayer_162 : decode cX3_digestPlayer 162 = .ok (.ldc2_w 243, 3) := by decide +kernel
theorem dX3_digestPlayer_165 : decode cX3_digestPlayer 165 = .ok (.lload 4, 2) := by decide +kernel
theorem dX3_digestPlayer_167 : decode cX3_digestPlayer 167 = .ok (.lmul, 1) := by decide +kernel
theorem dX3_digestPlayer_168 : decode cX3_digestPlayer 168 = .ok (.aload_n 0, 1) := by decide +kernel
theorem dX3_digestPlayer_169 : decode cX3_digestPlayer 169 = .ok (.getfield 30, 3) := by decide +kernel
theorem dX3_digestPlayer_172 : decode cX3_digestPlayer 172 = .ok (.aload_n 0, 1) := by decide +kernel
theorem dX3_digestPlayer_173 : decode cX3_digestPlayer 173 = .ok (.getfield 12, 3) := by decide +kernel
theorem dX3_digestPlayer_176 : decode cX3_digestPlayer 176 = .ok (.iload_n 3, 1) := by decide +kernel
theorem dX3_digestPlayer_177 : decode cX3_digestPlayer 177 = .ok (.iload 7, 2) := by decide +kernel
theorem dX3_digestPlayer_179 : decode cX3_digestPlayer 179 = .ok (.invokevirtual 231, 3) := by decide +kernel
theorem dX3_digestPlayer_182 : decode cX3_digestPlayer 182 = .ok (.i2l, 1) := by decide +kernel
theorem dX3_digestPlayer_183 : decode cX3_digestPlayer 183 = .ok (.ladd, 1) := by decide +kernel
theorem dX3_digestPlayer_184 : decode cX3_digestPlayer 184 = .ok (.lstore 4, 2) := by decide +kernel
theorem dX3_digestPlayer_186 : decode cX3_digestPlayer 186 = .ok (.iinc 7 1, 3) := by decide +kernel
theorem dX3_digestPlayer_189 : decode cX3_digestPlayer 189 = .ok (.goto (-34), 3) := by decide +kernel
theorem dX3_digestPlayer_192 : decode cX3_digestPlayer 192 = .ok (.lload 4, 2) := by decide +kernel
theorem dX3_digestPlayer_194 : decode cX3_digestPlayer 194 = .ok (.lreturn, 1) := by decide +kernel
theorem dX3_bitsOfShare_0 : decode cX3_bitsOfShare 0 = .ok (.dload_n 0, 1) := by decide +kernel
theorem dX3_bitsOfShare_1 : decode cX3_bitsOfShare 1 = .ok (.dconst 0, 1) := by decide +kernel
theorem dX3_bitsOfShare_2 : decode cX3_bitsOfShare 2 = .ok (.dcmp .g, 1) := by decide +kernel
theorem dX3_bitsOfShare_3 : decode cX3_bitsOfShare 3 = .ok (.ifCond .gt 5, 3) := by decide +kernel
theorem dX3_bitsOfShare_6 : decode cX3_bitsOfShare 6 = .ok (.lconst 0, 1) := by decide +kernel
theorem dX3_bitsOfShare_7 : decode cX3_bitsOfShare 7 = .ok (.lreturn, 1) := by decide +kernel
theorem dX3_bitsOfShare_8 : decode cX3_bitsOfShare 8 = .ok (.dload_n 0, 1) := by decide +kernel
theorem dX3_bitsOfShare_9 : decode cX3_bitsOfShare 9 = .ok (.dstore_n 2, 1) := by decide +kernel
theorem dX3_bitsOfShare_10 : decode cX3_bitsOfShare 10 = .ok (.ldc2_w 256, 3) := by decide +kernel
theorem dX3_bitsOfShare_13 : decode cX3_bitsOfShare 13 = .ok (.lstore 4, 2) := by decide +kernel
theorem dX3_bitsOfShare_15 : decode cX3_bitsOfShare 15 = .ok (.iconst 0, 1) := by decide +kernel
theorem dX3_bitsOfShare_16 : decode cX3_bitsOfShare 16 = .ok (.istore 6, 2) := by decide +kernel
theorem dX3_bitsOfShare_18 : decode cX3_bitsOfShare 18 = .ok (.iload 6, 2) := by decide +kernel
theorem dX3_bitsOfShare_20 : decode cX3_bitsOfShare 20 = .ok (.sipush 1022, 3) := by decide +kernel
theorem dX3_bitsOfShare_23 : decode cX3_bitsOfShare 23 = .ok (.if_icmp .ge 27, 3) := by decide +kernel
theorem dX3_bitsOfShare_26 : decode cX3_bitsOfShare 26 = .ok (.dload_n 2, 1) := by decide +kernel
theorem dX3_bitsOfShare_27 : decode cX3_bitsOfShare 27 = .ok (.dconst 1, 1) := by decide +kernel
theorem dX3_bitsOfShare_28 : decode cX3_bitsOfShare 28 = .ok (.dcmp .g, 1) := by decide +kernel
theorem dX3_bitsOfShare_29 : decode cX3_bitsOfShare 29 = .ok (.ifCond .ge 21, 3) := by decide +kernel
theorem dX3_bitsOfShare_32 : decode cX3_bitsOfShare 32 = .ok (.dload_n 2, 1) := by decide +kernel
theorem dX3_bitsOfShare_33 : decode cX3_bitsOfShare 33 = .ok (.ldc2_w 258, 3) := by decide +kernel
theorem dX3_bitsOfShare_36 : decode cX3_bitsOfShare 36 = .ok (.dmul, 1) := by decide +kernel
theorem dX3_bitsOfShare_37 : decode cX3_bitsOfShare 37 = .ok (.dstore_n 2, 1) := by decide +kernel
theorem dX3_bitsOfShare_38 : decode cX3_bitsOfShare 38 = .ok (.lload 4, 2) := by decide +kernel
theorem dX3_bitsOfShare_40 : decode cX3_bitsOfShare 40 = .ok (.lconst 1, 1) := by decide +kernel
theorem dX3_bitsOfShare_41 : decode cX3_bitsOfShare 41 = .ok (.lsub, 1) := by decide +kernel
theorem dX3_bitsOfShare_42 : decode cX3_bitsOfShare 42 = .ok (.lstore 4, 2) := by decide +kernel
theorem dX3_bitsOfShare_44 : decode cX3_bitsOfShare 44 = .ok (.iinc 6 1, 3) := by decide +kernel
theorem dX3_bitsOfShare_47 : decode cX3_bitsOfShare 47 = .ok (.goto (-29), 3) := by decide +kernel
theorem dX3_bitsOfShare_50 : decode cX3_bitsOfShare 50 = .ok (.lload 4, 2) := by decide +kernel
theorem dX3_bitsOfShare_52 : decode cX3_bitsOfShare 52 = .ok (.bipush 52, 2) := by decide +kernel
theorem dX3_bitsOfShare_54 : decode cX3_bitsOfShare 54 = .ok (.lshl, 1) := by decide +kernel
theorem dX3_bitsOfShare_55 : decode cX3_bitsOfShare 55 = .ok (.dload_n 2, 1) := by decide +kernel
theorem dX3_bitsOfShare_56 : decode cX3_bitsOfShare 56 = .ok (.dconst 1, 1) := by decide +kernel
theorem dX3_bitsOfShare_57 : decode cX3_bitsOfShare 57 = .ok (.dsub, 1) := by decide +kernel
theorem dX3_bitsOfShare_58 : decode cX3_bitsOfShare 58 = .ok (.ldc2_w 260, 3) := by decide +kernel
theorem dX3_bitsOfShare_61 : decode cX3_bitsOfShare 61 = .ok (.dmul, 1) := by decide +kernel
theorem dX3_bitsOfShare_62 : decode cX3_bitsOfShare 62 = .ok (.d2l, 1) := by decide +kernel
theorem dX3_bitsOfShare_63 : decode cX3_bitsOfShare 63 = .ok (.ladd, 1) := by decide +kernel
theorem dX3_bitsOfShare_64 : decode cX3_bitsOfShare 64 = .ok (.lreturn, 1) := by decide +kernel
set_option maxRecDepth 20000 in
theorem ggX3_propertyOfSquare_X3_at : GoodIn wsX3_propertyOfSquare wsX3_at := goodIn_r _ [8] (by decide +kernel) (by decide +kernel)
set_option maxRecDepth 20000 in
theorem gX3_propertyOfSquare_X3_at : GoodIn wsX3_propertyOfSquare (va_wsS RX3 64 yX3_at wsX3_at) := goodIn_app (goodIn_of _ (by decide +kernel)) ggX3_propertyOfSquare_X3_at
set_option maxRecDepth 20000 in
theorem ggX3_propertyOfSquare_X1_lowestStopOn : GoodIn wsX3_propertyOfSquare wsX1_lowestStopOn := goodIn_r _ [13, 14, 6, 7, 8, 20, 21, 22, 23, 24, 25, 26, 27, 28, 29, 30, 31] (by decide +kernel) (by decide +kernel)
set_option maxRecDepth 20000 in
theorem gX3_propertyOfSquare_X1_lowestStopOn : GoodIn wsX3_propertyOfSquare (wsV RX3 49 RX1 yX1_lowestStopOn wsX1_lowestStopOn) := goodIn_app (goodIn_of _ (by decide +kernel)) ggX3_propertyOfSquare_X1_lowestStopOn
theorem dX3_propertyOfSquare_0 : decode cX3_propertyOfSquare 0 = .ok (.iload_n 2, 1) := by decide +kernel
theorem dX3_propertyOfSquare_1 : decode cX3_propertyOfSquare 1 = .ok (.tableswitch 63 0 2 #[27, 39, 51], 27) := by decide +kernel
theorem dX3_propertyOfSquare_28 : decode cX3_propertyOfSquare 28 = .ok (.aload_n 0, 1) := by decide +kernel
theorem dX3_propertyOfSquare_29 : decode cX3_propertyOfSquare 29 = .ok (.getfield 12, 3) := by decide +kernel
theorem dX3_propertyOfSquare_32 : decode cX3_propertyOfSquare 32 = .ok (.getfield 262, 3) := by decide +kernel
theorem dX3_propertyOfSquare_35 : decode cX3_propertyOfSquare 35 = .ok (.iload_n 1, 1) := by decide +kernel
theorem dX3_propertyOfSquare_36 : decode cX3_propertyOfSquare 36 = .ok (.invokestatic 64, 3) := by decide +kernel
theorem dX3_propertyOfSquare_39 : decode cX3_propertyOfSquare 39 = .ok (.ireturn, 1) := by decide +kernel
theorem dX3_propertyOfSquare_40 : decode cX3_propertyOfSquare 40 = .ok (.aload_n 0, 1) := by decide +kernel
theorem dX3_propertyOfSquare_41 : decode cX3_propertyOfSquare 41 = .ok (.getfield 12, 3) := by decide +kernel
theorem dX3_propertyOfSquare_44 : decode cX3_propertyOfSquare 44 = .ok (.getfield 265, 3) := by decide +kernel
theorem dX3_propertyOfSquare_47 : decode cX3_propertyOfSquare 47 = .ok (.iload_n 1, 1) := by decide +kernel
theorem dX3_propertyOfSquare_48 : decode cX3_propertyOfSquare 48 = .ok (.invokestatic 64, 3) := by decide +kernel
theorem dX3_propertyOfSquare_51 : decode cX3_propertyOfSquare 51 = .ok (.ireturn, 1) := by decide +kernel
theorem dX3_propertyOfSquare_52 : decode cX3_propertyOfSquare 52 = .ok (.aload_n 0, 1) := by decide +kernel
theorem dX3_propertyOfSquare_53 : decode cX3_propertyOfSquare 53 = .ok (.getfield 12, 3) := by decide +kernel
theorem dX3_propertyOfSquare_56 : decode cX3_propertyOfSquare 56 = .ok (.getfield 60, 3) := by decide +kernel
theorem dX3_propertyOfSquare_59 : decode cX3_propertyOfSquare 59 = .ok (.iload_n 1, 1) := by decide +kernel
theorem dX3_propertyOfSquare_60 : decode cX3_propertyOfSquare 60 = .ok (.invokestatic 64, 3) := by decide +kernel
theorem dX3_propertyOfSquare_63 : decode cX3_propertyOfSquare 63 = .ok (.ireturn, 1) := by decide +kernel
theorem dX3_propertyOfSquare_64 : decode cX3_propertyOfSquare 64 = .ok (.aload_n 0, 1) := by decide +kernel
theorem dX3_propertyOfSquare_65 : decode cX3_propertyOfSquare 65 = .ok (.getfield 12, 3) := by decide +kernel
theorem dX3_propertyOfSquare_68 : decode cX3_propertyOfSquare 68 = .ok (.iload_n 1, 1) := by decide +kernel
theorem dX3_propertyOfSquare_69 : decode cX3_propertyOfSquare 69 = .ok (.invokevirtual 49, 3) := by decide +kernel
theorem dX3_propertyOfSquare_72 : decode cX3_propertyOfSquare 72 = .ok (.ireturn, 1) := by decide +kernel
set_option maxRecDepth 20000 in
theorem ggX3_propertyOfStop_X1_isThere : GoodIn wsX3_propertyOfStop wsX1_isThere := goodIn_r _ [8, 9, 10, 11, 12, 29, 30, 31, 32, 33, 34, 35, 36, 37, 38, 39, 40] (by decide +kernel) (by decide +kernel)
set_option maxRecDepth 20000 in
theorem gX3_propertyOfStop_X1_isThere : GoodIn wsX3_propertyOfStop (wsV RX3 98 RX1 yX1_isThere wsX1_isThere) := goodIn_app (goodIn_of _ (by decide +kernel)) ggX3_propertyOfStop_X1_isThere
set_option maxRecDepth 20000 in
theorem ggX3_propertyOfStop_X3_at : GoodIn wsX3_propertyOfStop wsX3_at := goodIn_r _ [12] (by decide +kernel) (by decide +kernel)
set_option maxRecDepth 20000 in
theorem gX3_propertyOfStop_X3_at : GoodIn wsX3_propertyOfStop (va_wsS RX3 64 yX3_at wsX3_at) := goodIn_app (goodIn_of _ (by decide +kernel)) ggX3_propertyOfStop_X3_at
set_option maxRecDepth 20000 in
theorem ggX3_propertyOfStop_X1_isReached : GoodIn wsX3_propertyOfStop wsX1_isReached := goodIn_r _ [17, 18, 9, 10, 11, 12, 19, 20, 21, 7, 22, 23, 29, 30, 31, 32, 33, 34, 35, 36, 37, 38, 39, 40] (by decide +kernel) (by decide +kernel)
set_option maxRecDepth 20000 in
theorem gX3_propertyOfStop_X1_isReached : GoodIn wsX3_propertyOfStop (wsV RX3 268 RX1 yX1_isReached wsX1_isReached) := goodIn_app (goodIn_of _ (by decide +kernel)) ggX3_propertyOfStop_X1_isReached
theorem dX3_propertyOfStop_0 : decode cX3_propertyOfStop 0 = .ok (.aload_n 0, 1) := by decide +kernel
theorem dX3_propertyOfStop_1 : decode cX3_propertyOfStop 1 = .ok (.getfield 12, 3) := by decide +kernel
theorem dX3_propertyOfStop_4 : decode cX3_propertyOfStop 4 = .ok (.iload_n 1, 1) := by decide +kernel
theorem dX3_propertyOfStop_5 : decode cX3_propertyOfStop 5 = .ok (.invokevirtual 98, 3) := by decide +kernel
theorem dX3_propertyOfStop_8 : decode cX3_propertyOfStop 8 = .ok (.ifCond .ne 5, 3) := by decide +kernel
theorem dX3_propertyOfStop_11 : decode cX3_propertyOfStop 11 = .ok (.iconst (-1), 1) := by decide +kernel
theorem dX3_propertyOfStop_12 : decode cX3_propertyOfStop 12 = .ok (.ireturn, 1) := by decide +kernel
theorem dX3_propertyOfStop_13 : decode cX3_propertyOfStop 13 = .ok (.iload_n 2, 1) := by decide +kernel
theorem dX3_propertyOfStop_14 : decode cX3_propertyOfStop 14 = .ok (.lookupswitch 50 #[(0, 26), (1, 38)], 26) := by decide +kernel
theorem dX3_propertyOfStop_40 : decode cX3_propertyOfStop 40 = .ok (.aload_n 0, 1) := by decide +kernel
theorem dX3_propertyOfStop_41 : decode cX3_propertyOfStop 41 = .ok (.getfield 12, 3) := by decide +kernel
theorem dX3_propertyOfStop_44 : decode cX3_propertyOfStop 44 = .ok (.getfield 89, 3) := by decide +kernel
theorem dX3_propertyOfStop_47 : decode cX3_propertyOfStop 47 = .ok (.iload_n 1, 1) := by decide +kernel
theorem dX3_propertyOfStop_48 : decode cX3_propertyOfStop 48 = .ok (.invokestatic 64, 3) := by decide +kernel
theorem dX3_propertyOfStop_51 : decode cX3_propertyOfStop 51 = .ok (.ireturn, 1) := by decide +kernel
theorem dX3_propertyOfStop_52 : decode cX3_propertyOfStop 52 = .ok (.aload_n 0, 1) := by decide +kernel
theorem dX3_propertyOfStop_53 : decode cX3_propertyOfStop 53 = .ok (.getfield 12, 3) := by decide +kernel
theorem dX3_propertyOfStop_56 : decode cX3_propertyOfStop 56 = .ok (.getfield 92, 3) := by decide +kernel
theorem dX3_propertyOfStop_59 : decode cX3_propertyOfStop 59 = .ok (.iload_n 1, 1) := by decide +kernel
theorem dX3_propertyOfStop_60 : decode cX3_propertyOfStop 60 = .ok (.invokestatic 64, 3) := by decide +kernel
theorem dX3_propertyOfStop_63 : decode cX3_propertyOfStop 63 = .ok (.ireturn, 1) := by decide +kernel
theorem dX3_propertyOfStop_64 : decode cX3_propertyOfStop 64 = .ok (.aload_n 0, 1) := by decide +kernel
theorem dX3_propertyOfStop_65 : decode cX3_propertyOfStop 65 = .ok (.getfield 12, 3) := by decide +kernel
theorem dX3_propertyOfStop_68 : decode cX3_propertyOfStop 68 = .ok (.iload_n 1, 1) := by decide +kernel
theorem dX3_propertyOfStop_69 : decode cX3_propertyOfStop 69 = .ok (.invokevirtual 268, 3) := by decide +kernel
theorem dX3_propertyOfStop_72 : decode cX3_propertyOfStop 72 = .ok (.ifCond .eq 7, 3) := by decide +kernel
theorem dX3_propertyOfStop_75 : decode cX3_propertyOfStop 75 = .ok (.iconst 1, 1) := by decide +kernel
theorem dX3_propertyOfStop_76 : decode cX3_propertyOfStop 76 = .ok (.goto 4, 3) := by decide +kernel
theorem dX3_propertyOfStop_79 : decode cX3_propertyOfStop 79 = .ok (.iconst 0, 1) := by decide +kernel
theorem dX3_propertyOfStop_80 : decode cX3_propertyOfStop 80 = .ok (.ireturn, 1) := by decide +kernel
set_option maxRecDepth 20000 in
theorem ggX3_propertyOfPlayer_X3_at : GoodIn wsX3_propertyOfPlayer wsX3_at := goodIn_r _ [10] (by decide +kernel) (by decide +kernel)
set_option maxRecDepth 20000 in
theorem gX3_propertyOfPlayer_X3_at : GoodIn wsX3_propertyOfPlayer (va_wsS RX3 64 yX3_at wsX3_at) := goodIn_app (goodIn_of _ (by decide +kernel)) ggX3_propertyOfPlayer_X3_at
set_option maxRecDepth 20000 in
theorem ggX3_propertyOfPlayer_X1_lineLength : GoodIn wsX3_propertyOfPlayer wsX1_lineLength := goodIn_r _ [15, 16, 17, 18, 14, 19, 20, 8, 9, 10, 47, 48, 49, 50, 51, 52, 53, 54, 55, 56, 57, 58] (by decide +kernel) (by decide +kernel)
set_option maxRecDepth 20000 in
theorem gX3_propertyOfPlayer_X1_lineLength : GoodIn wsX3_propertyOfPlayer (wsV RX3 271 RX1 yX1_lineLength wsX1_lineLength) := goodIn_app (goodIn_of _ (by decide +kernel)) ggX3_propertyOfPlayer_X1_lineLength
set_option maxRecDepth 20000 in
theorem ggX3_propertyOfPlayer_X1_squaresOwned : GoodIn wsX3_propertyOfPlayer wsX1_squaresOwned := goodIn_r _ [24, 25, 8, 9, 10, 47, 48, 49, 50, 51, 52, 53, 54, 55, 56, 57, 58] (by decide +kernel) (by decide +kernel)
set_option maxRecDepth 20000 in
theorem gX3_propertyOfPlayer_X1_squaresOwned : GoodIn wsX3_propertyOfPlayer (wsV RX3 277 RX1 yX1_squaresOwned wsX1_squaresOwned) := goodIn_app (goodIn_of _ (by decide +kernel)) ggX3_propertyOfPlayer_X1_squaresOwned
set_option maxRecDepth 20000 in
theorem ggX3_propertyOfPlayer_X1_stopsOfLine : GoodIn wsX3_propertyOfPlayer wsX1_stopsOfLine := goodIn_r _ [29, 30, 8, 9, 10, 47, 48, 49, 50, 51, 52, 53, 54, 55, 56, 57, 58] (by decide +kernel) (by decide +kernel)
set_option maxRecDepth 20000 in
theorem gX3_propertyOfPlayer_X1_stopsOfLine : GoodIn wsX3_propertyOfPlayer (wsV RX3 280 RX1 yX1_stopsOfLine wsX1_stopsOfLine) := goodIn_app (goodIn_of _ (by decide +kernel)) ggX3_propertyOfPlayer_X1_stopsOfLine
set_option maxRecDepth 20000 in
theorem ggX3_propertyOfPlayer_X1_stopsReached : GoodIn wsX3_propertyOfPlayer wsX1_stopsReached := goodIn_r _ [34, 30, 35, 8, 9, 10, 16, 17, 18, 14, 19, 20, 47, 48, 49, 50, 51, 52, 53, 54, 55, 56, 57, 58] (by decide +kernel) (by decide +kernel)
set_option maxRecDepth 20000 in
theorem gX3_propertyOfPlayer_X1_stopsReached : GoodIn wsX3_propertyOfPlayer (wsV RX3 283 RX1 yX1_stopsReached wsX1_stopsReached) := goodIn_app (goodIn_of _ (by decide +kernel)) ggX3_propertyOfPlayer_X1_stopsReached
set_option maxRecDepth 20000 in
theorem ggX3_propertyOfPlayer_X1_joinsStops : GoodIn wsX3_propertyOfPlayer wsX1_joinsStops := goodIn_r _ [39, 40, 32, 33, 14, 34, 30, 35, 8, 9, 10, 16, 17, 18, 19, 20, 41, 27, 28, 29, 47, 48, 49, 50, 51, 52, 53, 54, 55, 56, 57, 58] (by decide +kernel) (by decide +kernel)
set_option maxRecDepth 20000 in
theorem gX3_propertyOfPlayer_X1_joinsStops : GoodIn wsX3_propertyOfPlayer (wsV RX3 286 RX1 yX1_joinsStops wsX1_joinsStops) := goodIn_app (goodIn_of _ (by decide +kernel)) ggX3_propertyOfPlayer_X1_joinsStops
theorem dX3_propertyOfPlayer_0 : decode cX3_propertyOfPlayer 0 = .ok (.iload_n 2, 1) := by decide +kernel
theorem dX3_propertyOfPlayer_1 : decode cX3_propertyOfPlayer 1 = .ok (.tableswitch 152 0 8 #[51, 63, 72, 84, 96, 105, 114, 123, 140], 51) := by decide +kernel
theorem dX3_propertyOfPlayer_52 : decode cX3_propertyOfPlayer 52 = .ok (.aload_n 0, 1) := by decide +kernel
theorem dX3_propertyOfPlayer_53 : decode cX3_propertyOfPlayer 53 = .ok (.getfield 12, 3) := by decide +kernel
theorem dX3_propertyOfPlayer_56 : decode cX3_propertyOfPlayer 56 = .ok (.getfield 141, 3) := by decide +kernel
theorem dX3_propertyOfPlayer_59 : decode cX3_propertyOfPlayer 59 = .ok (.iload_n 1, 1) := by decide +kernel
theorem dX3_propertyOfPlayer_60 : decode cX3_propertyOfPlayer 60 = .ok (.invokestatic 64, 3) := by decide +kernel
theorem dX3_propertyOfPlayer_63 : decode cX3_propertyOfPlayer 63 = .ok (.ireturn, 1) := by decide +kernel
theorem dX3_propertyOfPlayer_64 : decode cX3_propertyOfPlayer 64 = .ok (.aload_n 0, 1) := by decide +kernel
theorem dX3_propertyOfPlayer_65 : decode cX3_propertyOfPlayer 65 = .ok (.getfield 12, 3) := by decide +kernel
theorem dX3_propertyOfPlayer_68 : decode cX3_propertyOfPlayer 68 = .ok (.iload_n 1, 1) := by decide +kernel
theorem dX3_propertyOfPlayer_69 : decode cX3_propertyOfPlayer 69 = .ok (.invokevirtual 271, 3) := by decide +kernel
theorem dX3_propertyOfPlayer_72 : decode cX3_propertyOfPlayer 72 = .ok (.ireturn, 1) := by decide +kernel
theorem dX3_propertyOfPlayer_73 : decode cX3_propertyOfPlayer 73 = .ok (.aload_n 0, 1) := by decide +kernel
theorem dX3_propertyOfPlayer_74 : decode cX3_propertyOfPlayer 74 = .ok (.getfield 12, 3) := by decide +kernel
theorem dX3_propertyOfPlayer_77 : decode cX3_propertyOfPlayer 77 = .ok (.getfield 116, 3) := by decide +kernel
theorem dX3_propertyOfPlayer_80 : decode cX3_propertyOfPlayer 80 = .ok (.iload_n 1, 1) := by decide +kernel
theorem dX3_propertyOfPlayer_81 : decode cX3_propertyOfPlayer 81 = .ok (.invokestatic 64, 3) := by decide +kernel
theorem dX3_propertyOfPlayer_84 : decode cX3_propertyOfPlayer 84 = .ok (.ireturn, 1) := by decide +kernel
theorem dX3_propertyOfPlayer_85 : decode cX3_propertyOfPlayer 85 = .ok (.aload_n 0, 1) := by decide +kernel
theorem dX3_propertyOfPlayer_86 : decode cX3_propertyOfPlayer 86 = .ok (.getfield 12, 3) := by decide +kernel
theorem dX3_propertyOfPlayer_89 : decode cX3_propertyOfPlayer 89 = .ok (.getfield 274, 3) := by decide +kernel
theorem dX3_propertyOfPlayer_92 : decode cX3_propertyOfPlayer 92 = .ok (.iload_n 1, 1) := by decide +kernel
theorem dX3_propertyOfPlayer_93 : decode cX3_propertyOfPlayer 93 = .ok (.invokestatic 64, 3) := by decide +kernel
theorem dX3_propertyOfPlayer_96 : decode cX3_propertyOfPlayer 96 = .ok (.ireturn, 1) := by decide +kernel
theorem dX3_propertyOfPlayer_97 : decode cX3_propertyOfPlayer 97 = .ok (.aload_n 0, 1) := by decide +kernel
theorem dX3_propertyOfPlayer_98 : decode cX3_propertyOfPlayer 98 = .ok (.getfield 12, 3) := by decide +kernel
theorem dX3_propertyOfPlayer_101 : decode cX3_propertyOfPlayer 101 = .ok (.iload_n 1, 1) := by decide +kernel
theorem dX3_propertyOfPlayer_102 : decode cX3_propertyOfPlayer 102 = .ok (.invokevirtual 277, 3) := by decide +kernel
theorem dX3_propertyOfPlayer_105 : decode cX3_propertyOfPlayer 105 = .ok (.ireturn, 1) := by decide +kernel
theorem dX3_propertyOfPlayer_106 : decode cX3_propertyOfPlayer 106 = .ok (.aload_n 0, 1) := by decide +kernel
theorem dX3_propertyOfPlayer_107 : decode cX3_propertyOfPlayer 107 = .ok (.getfield 12, 3) := by decide +kernel
theorem dX3_propertyOfPlayer_110 : decode cX3_propertyOfPlayer 110 = .ok (.iload_n 1, 1) := by decide +kernel
theorem dX3_propertyOfPlayer_111 : decode cX3_propertyOfPlayer 111 = .ok (.invokevirtual 280, 3) := by decide +kernel
theorem dX3_propertyOfPlayer_114 : decode cX3_propertyOfPlayer 114 = .ok (.ireturn, 1) := by decide +kernel
theorem dX3_propertyOfPlayer_115 : decode cX3_propertyOfPlayer 115 = .ok (.aload_n 0, 1) := by decide +kernel
theorem dX3_propertyOfPlayer_116 : decode cX3_propertyOfPlayer 116 = .ok (.getfield 12, 3) := by decide +kernel
theorem dX3_propertyOfPlayer_119 : decode cX3_propertyOfPlayer 119 = .ok (.iload_n 1, 1) := by decide +kernel
theorem dX3_propertyOfPlayer_120 : decode cX3_propertyOfPlayer 120 = .ok (.invokevirtual 283, 3) := by decide +kernel
theorem dX3_propertyOfPlayer_123 : decode cX3_propertyOfPlayer 123 = .ok (.ireturn, 1) := by decide +kernel
theorem dX3_propertyOfPlayer_124 : decode cX3_propertyOfPlayer 124 = .ok (.aload_n 0, 1) := by decide +kernel
theorem dX3_propertyOfPlayer_125 : decode cX3_propertyOfPlayer 125 = .ok (.getfield 12, 3) := by decide +kernel
theorem dX3_propertyOfPlayer_128 : decode cX3_propertyOfPlayer 128 = .ok (.iload_n 1, 1) := by decide +kernel
theorem dX3_propertyOfPlayer_129 : decode cX3_propertyOfPlayer 129 = .ok (.invokevirtual 286, 3) := by decide +kernel
theorem dX3_propertyOfPlayer_132 : decode cX3_propertyOfPlayer 132 = .ok (.ifCond .eq 7, 3) := by decide +kernel
theorem dX3_propertyOfPlayer_135 : decode cX3_propertyOfPlayer 135 = .ok (.iconst 1, 1) := by decide +kernel
theorem dX3_propertyOfPlayer_136 : decode cX3_propertyOfPlayer 136 = .ok (.goto 4, 3) := by decide +kernel
theorem dX3_propertyOfPlayer_139 : decode cX3_propertyOfPlayer 139 = .ok (.iconst 0, 1) := by decide +kernel
theorem dX3_propertyOfPlayer_140 : decode cX3_propertyOfPlayer 140 = .ok (.ireturn, 1) := by decide +kernel
theorem dX3_propertyOfPlayer_141 : decode cX3_propertyOfPlayer 141 = .ok (.aload_n 0, 1) := by decide +kernel
theorem dX3_propertyOfPlayer_142 : decode cX3_propertyOfPlayer 142 = .ok (.getfield 12, 3) := by decide +kernel
theorem dX3_propertyOfPlayer_145 : decode cX3_propertyOfPlayer 145 = .ok (.getfield 289, 3) := by decide +kernel
theorem dX3_propertyOfPlayer_148 : decode cX3_propertyOfPlayer 148 = .ok (.iload_n 1, 1) := by decide +kernel
theorem dX3_propertyOfPlayer_149 : decode cX3_propertyOfPlayer 149 = .ok (.invokestatic 64, 3) := by decide +kernel
theorem dX3_propertyOfPlayer_152 : decode cX3_propertyOfPlayer 152 = .ok (.ireturn, 1) := by decide +kernel
theorem dX3_propertyOfPlayer_153 : decode cX3_propertyOfPlayer 153 = .ok (.aload_n 0, 1) := by decide +kernel
theorem dX3_propertyOfPlayer_154 : decode cX3_propertyOfPlayer 154 = .ok (.getfield 12, 3) := by decide +kernel
theorem dX3_propertyOfPlayer_157 : decode cX3_propertyOfPlayer 157 = .ok (.getfield 292, 3) := by decide +kernel
theorem dX3_propertyOfPlayer_160 : decode cX3_propertyOfPlayer 160 = .ok (.iload_n 1, 1) := by decide +kernel
theorem dX3_propertyOfPlayer_161 : decode cX3_propertyOfPlayer 161 = .ok (.invokestatic 64, 3) := by decide +kernel
theorem dX3_propertyOfPlayer_164 : decode cX3_propertyOfPlayer 164 = .ok (.ireturn, 1) := by decide +kernel
set_option maxRecDepth 20000 in
theorem ggX3_numberOf_X3_sum : GoodIn wsX3_numberOf wsX3_sum := goodIn_r _ [9] (by decide +kernel) (by decide +kernel)
set_option maxRecDepth 20000 in
theorem gX3_numberOf_X3_sum : GoodIn wsX3_numberOf (va_wsS RX3 295 yX3_sum wsX3_sum) := goodIn_app (goodIn_of _ (by decide +kernel)) ggX3_numberOf_X3_sum
set_option maxRecDepth 20000 in
theorem ggX3_numberOf_X1_stopsThere : GoodIn wsX3_numberOf wsX1_stopsThere := goodIn_r _ [14, 15, 16, 17, 13, 18, 19, 20, 8, 21, 64, 65, 66, 67, 68, 69, 70, 71, 72, 73, 74, 75] (by decide +kernel) (by decide +kernel)
set_option maxRecDepth 20000 in
theorem gX3_numberOf_X1_stopsThere : GoodIn wsX3_numberOf (wsV RX3 299 RX1 yX1_stopsThere wsX1_stopsThere) := goodIn_app (goodIn_of _ (by decide +kernel)) ggX3_numberOf_X1_stopsThere
set_option maxRecDepth 20000 in
theorem ggX3_numberOf_X1_squaresWithTracks : GoodIn wsX3_numberOf wsX1_squaresWithTracks := goodIn_r _ [25, 26, 27, 28, 13, 29, 30, 20, 8, 21, 31, 32, 33, 34, 35, 36, 37, 64, 65, 66, 67, 68, 69, 70, 71, 72, 73, 74, 75] (by decide +kernel) (by decide +kernel)
set_option maxRecDepth 20000 in
theorem gX3_numberOf_X1_squaresWithTracks : GoodIn wsX3_numberOf (wsV RX3 302 RX1 yX1_squaresWithTracks wsX1_squaresWithTracks) := goodIn_app (goodIn_of _ (by decide +kernel)) ggX3_numberOf_X1_squaresWithTracks
set_option maxRecDepth 20000 in
theorem ggX3_numberOf_X1_linesThatJoin : GoodIn wsX3_numberOf wsX1_linesThatJoin := goodIn_r _ [41, 42, 43, 44, 13, 45, 46, 47, 48, 49, 50, 19, 20, 8, 21, 51, 52, 53, 54, 30, 55, 56, 57, 58, 64, 65, 66, 67, 68, 69, 70, 71, 72, 73, 74, 75] (by decide +kernel) (by decide +kernel)
set_option maxRecDepth 20000 in
theorem gX3_numberOf_X1_linesThatJoin : GoodIn wsX3_numberOf (wsV RX3 308 RX1 yX1_linesThatJoin wsX1_linesThatJoin) := goodIn_app (goodIn_of _ (by decide +kernel)) ggX3_numberOf_X1_linesThatJoin
theorem dX3_numberOf_0 : decode cX3_numberOf 0 = .ok (.iload_n 1, 1) := by decide +kernel
theorem dX3_numberOf_1 : decode cX3_numberOf 1 = .ok (.tableswitch 107 0 6 #[43, 54, 62, 71, 80, 88, 99], 43) := by decide +kernel
theorem dX3_numberOf_44 : decode cX3_numberOf 44 = .ok (.aload_n 0, 1) := by decide +kernel
theorem dX3_numberOf_45 : decode cX3_numberOf 45 = .ok (.getfield 12, 3) := by decide +kernel
theorem dX3_numberOf_48 : decode cX3_numberOf 48 = .ok (.getfield 60, 3) := by decide +kernel
theorem dX3_numberOf_51 : decode cX3_numberOf 51 = .ok (.invokestatic 295, 3) := by decide +kernel
theorem dX3_numberOf_54 : decode cX3_numberOf 54 = .ok (.ireturn, 1) := by decide +kernel
theorem dX3_numberOf_55 : decode cX3_numberOf 55 = .ok (.aload_n 0, 1) := by decide +kernel
theorem dX3_numberOf_56 : decode cX3_numberOf 56 = .ok (.getfield 12, 3) := by decide +kernel
theorem dX3_numberOf_59 : decode cX3_numberOf 59 = .ok (.invokevirtual 299, 3) := by decide +kernel
theorem dX3_numberOf_62 : decode cX3_numberOf 62 = .ok (.ireturn, 1) := by decide +kernel
theorem dX3_numberOf_63 : decode cX3_numberOf 63 = .ok (.aload_n 0, 1) := by decide +kernel
theorem dX3_numberOf_64 : decode cX3_numberOf 64 = .ok (.getfield 12, 3) := by decide +kernel
theorem dX3_numberOf_67 : decode cX3_numberOf 67 = .ok (.iconst 1, 1) := by decide +kernel
theorem dX3_numberOf_68 : decode cX3_numberOf 68 = .ok (.invokevirtual 302, 3) := by decide +kernel
theorem dX3_numberOf_71 : decode cX3_numberOf 71 = .ok (.ireturn, 1) := by decide +kernel
theorem dX3_numberOf_72 : decode cX3_numberOf 72 = .ok (.aload_n 0, 1) := by decide +kernel
theorem dX3_numberOf_73 : decode cX3_numberOf 73 = .ok (.getfield 12, 3) := by decide +kernel
theorem dX3_numberOf_76 : decode cX3_numberOf 76 = .ok (.iconst 2, 1) := by decide +kernel
theorem dX3_numberOf_77 : decode cX3_numberOf 77 = .ok (.invokevirtual 302, 3) := by decide +kernel
theorem dX3_numberOf_80 : decode cX3_numberOf 80 = .ok (.ireturn, 1) := by decide +kernel
theorem dX3_numberOf_81 : decode cX3_numberOf 81 = .ok (.aload_n 0, 1) := by decide +kernel
theorem dX3_numberOf_82 : decode cX3_numberOf 82 = .ok (.getfield 12, 3) := by decide +kernel
theorem dX3_numberOf_85 : decode cX3_numberOf 85 = .ok (.getfield 305, 3) := by decide +kernel
theorem dX3_numberOf_88 : decode cX3_numberOf 88 = .ok (.ireturn, 1) := by decide +kernel
theorem dX3_numberOf_89 : decode cX3_numberOf 89 = .ok (.aload_n 0, 1) := by decide +kernel
theorem dX3_numberOf_90 : decode cX3_numberOf 90 = .ok (.getfield 12, 3) := by decide +kernel
theorem dX3_numberOf_93 : decode cX3_numberOf 93 = .ok (.getfield 289, 3) := by decide +kernel
theorem dX3_numberOf_96 : decode cX3_numberOf 96 = .ok (.invokestatic 295, 3) := by decide +kernel
theorem dX3_numberOf_99 : decode cX3_numberOf 99 = .ok (.ireturn, 1) := by decide +kernel
theorem dX3_numberOf_100 : decode cX3_numberOf 100 = .ok (.aload_n 0, 1) := by decide +kernel
theorem dX3_numberOf_101 : decode cX3_numberOf 101 = .ok (.getfield 12, 3) := by decide +kernel
theorem dX3_numberOf_104 : decode cX3_numberOf 104 = .ok (.invokevirtual 308, 3) := by decide +kernel
theorem dX3_numberOf_107 : decode cX3_numberOf 107 = .ok (.ireturn, 1) := by decide +kernel
theorem dX3_numberOf_108 : decode cX3_numberOf 108 = .ok (.aload_n 0, 1) := by decide +kernel
theorem dX3_numberOf_109 : decode cX3_numberOf 109 = .ok (.getfield 188, 3) := by decide +kernel
theorem dX3_numberOf_112 : decode cX3_numberOf 112 = .ok (.ireturn, 1) := by decide +kernel
set_option maxRecDepth 20000 in
theorem ggX3_saveState_X3_dropOldestState : GoodIn wsX3_saveState wsX3_dropOldestState := goodIn_r _ [8, 2, 36, 37, 38, 39, 40] (by decide +kernel) (by decide +kernel)
set_option maxRecDepth 20000 in
theorem gX3_saveState_X3_dropOldestState : GoodIn wsX3_saveState (wsV RX3 311 RX3 yX3_dropOldestState wsX3_dropOldestState) := goodIn_app (goodIn_of _ (by decide +kernel)) ggX3_saveState_X3_dropOldestState
set_option maxRecDepth 20000 in
theorem ggX3_saveState_X1_copyFrom : GoodIn wsX3_saveState wsX1_copyFrom := goodIn_r _ [13, 14, 15, 16, 17, 18, 19, 20, 21, 22, 23, 24, 25, 26, 7, 27, 28, 29, 30, 31, 32, 33, 34, 35, 41, 42, 43, 44, 45, 46, 47, 48, 49, 50, 51, 52] (by decide +kernel) (by decide +kernel)
set_option maxRecDepth 20000 in
theorem gX3_saveState_X1_copyFrom : GoodIn wsX3_saveState (wsV RX3 193 RX1 yX1_copyFrom wsX1_copyFrom) := goodIn_app (goodIn_of _ (by decide +kernel)) ggX3_saveState_X1_copyFrom
theorem dX3_saveState_0 : decode cX3_saveState 0 = .ok (.aload_n 0, 1) := by decide +kernel
theorem dX3_saveState_1 : decode cX3_saveState 1 = .ok (.getfield 188, 3) := by decide +kernel
theorem dX3_saveState_4 : decode cX3_saveState 4 = .ok (.bipush 6, 2) := by decide +kernel
theorem dX3_saveState_6 : decode cX3_saveState 6 = .ok (.if_icmp .ge 16, 3) := by decide +kernel
theorem dX3_saveState_9 : decode cX3_saveState 9 = .ok (.aload_n 0, 1) := by decide +kernel
theorem dX3_saveState_10 : decode cX3_saveState 10 = .ok (.dup, 1) := by decide +kernel
theorem dX3_saveState_11 : decode cX3_saveState 11 = .ok (.getfield 188, 3) := by decide +kernel
theorem dX3_saveState_14 : decode cX3_saveState 14 = .ok (.iconst 1, 1) := by decide +kernel
theorem dX3_saveState_15 : decode cX3_saveState 15 = .ok (.iadd, 1) := by decide +kernel
theorem dX3_saveState_16 : decode cX3_saveState 16 = .ok (.putfield 188, 3) := by decide +kernel
theorem dX3_saveState_19 : decode cX3_saveState 19 = .ok (.goto 7, 3) := by decide +kernel
theorem dX3_saveState_22 : decode cX3_saveState 22 = .ok (.aload_n 0, 1) := by decide +kernel
theorem dX3_saveState_23 : decode cX3_saveState 23 = .ok (.invokevirtual 311, 3) := by decide +kernel
theorem dX3_saveState_26 : decode cX3_saveState 26 = .ok (.aload_n 0, 1) := by decide +kernel
theorem dX3_saveState_27 : decode cX3_saveState 27 = .ok (.getfield 188, 3) := by decide +kernel
theorem dX3_saveState_30 : decode cX3_saveState 30 = .ok (.iconst 1, 1) := by decide +kernel
theorem dX3_saveState_31 : decode cX3_saveState 31 = .ok (.isub, 1) := by decide +kernel
theorem dX3_saveState_32 : decode cX3_saveState 32 = .ok (.istore_n 1, 1) := by decide +kernel
theorem dX3_saveState_33 : decode cX3_saveState 33 = .ok (.iload_n 1, 1) := by decide +kernel
theorem dX3_saveState_34 : decode cX3_saveState 34 = .ok (.ifCond .lt 31, 3) := by decide +kernel
theorem dX3_saveState_37 : decode cX3_saveState 37 = .ok (.iload_n 1, 1) := by decide +kernel
theorem dX3_saveState_38 : decode cX3_saveState 38 = .ok (.bipush 6, 2) := by decide +kernel
theorem dX3_saveState_40 : decode cX3_saveState 40 = .ok (.if_icmp .ge 25, 3) := by decide +kernel
theorem dX3_saveState_43 : decode cX3_saveState 43 = .ok (.aload_n 0, 1) := by decide +kernel
theorem dX3_saveState_44 : decode cX3_saveState 44 = .ok (.getfield 16, 3) := by decide +kernel
theorem dX3_saveState_47 : decode cX3_saveState 47 = .ok (.iload_n 1, 1) := by decide +kernel
theorem dX3_saveState_48 : decode cX3_saveState 48 = .ok (.aaload, 1) := by decide +kernel
theorem dX3_saveState_49 : decode cX3_saveState 49 = .ok (.ifnull 16, 3) := by decide +kernel
theorem dX3_saveState_52 : decode cX3_saveState 52 = .ok (.aload_n 0, 1) := by decide +kernel
theorem dX3_saveState_53 : decode cX3_saveState 53 = .ok (.getfield 16, 3) := by decide +kernel
theorem dX3_saveState_56 : decode cX3_saveState 56 = .ok (.iload_n 1, 1) := by decide +kernel
theorem dX3_saveState_57 : decode cX3_saveState 57 = .ok (.aaload, 1) := by decide +kernel
theorem dX3_saveState_58 : decode cX3_saveState 58 = .ok (.aload_n 0, 1) := by decide +kernel
theorem dX3_saveState_59 : decode cX3_saveState 59 = .ok (.getfield 12, 3) := by decide +kernel
theorem dX3_saveState_62 : decode cX3_saveState 62 = .ok (.invokevirtual 193, 3) := by decide +kernel
theorem dX3_saveState_65 : decode cX3_saveState 65 = .ok (.return_, 1) := by decide +kernel
theorem dX3_dropOldestState_0 : decode cX3_dropOldestState 0 = .ok (.aload_n 0, 1) := by decide +kernel
theorem dX3_dropOldestState_1 : decode cX3_dropOldestState 1 = .ok (.getfield 16, 3) := by decide +kernel
theorem dX3_dropOldestState_4 : decode cX3_dropOldestState 4 = .ok (.iconst 0, 1) := by decide +kernel
theorem dX3_dropOldestState_5 : decode cX3_dropOldestState 5 = .ok (.aaload, 1) := by decide +kernel
theorem dX3_dropOldestState_6 : decode cX3_dropOldestState 6 = .ok (.astore_n 1, 1) := by decide +kernel
theorem dX3_dropOldestState_7 : decode cX3_dropOldestState 7 = .ok (.iconst 1, 1) := by decide +kernel
theorem dX3_dropOldestState_8 : decode cX3_dropOldestState 8 = .ok (.istore_n 2, 1) := by decide +kernel
theorem dX3_dropOldestState_9 : decode cX3_dropOldestState 9 = .ok (.iload_n 2, 1) := by decide +kernel
theorem dX3_dropOldestState_10 : decode cX3_dropOldestState 10 = .ok (.bipush 6, 2) := by decide +kernel
theorem dX3_dropOldestState_12 : decode cX3_dropOldestState 12 = .ok (.if_icmp .ge 23, 3) := by decide +kernel
theorem dX3_dropOldestState_15 : decode cX3_dropOldestState 15 = .ok (.aload_n 0, 1) := by decide +kernel
theorem dX3_dropOldestState_16 : decode cX3_dropOldestState 16 = .ok (.getfield 16, 3) := by decide +kernel
theorem dX3_dropOldestState_19 : decode cX3_dropOldestState 19 = .ok (.iload_n 2, 1) := by decide +kernel
theorem dX3_dropOldestState_20 : decode cX3_dropOldestState 20 = .ok (.iconst 1, 1) := by decide +kernel
theorem dX3_dropOldestState_21 : decode cX3_dropOldestState 21 = .ok (.isub, 1) := by decide +kernel
theorem dX3_dropOldestState_22 : decode cX3_dropOldestState 22 = .ok (.aload_n 0, 1) := by decide +kernel
theorem dX3_dropOldestState_23 : decode cX3_dropOldestState 23 = .ok (.getfield 16, 3) := by decide +kernel
theorem dX3_dropOldestState_26 : decode cX3_dropOldestState 26 = .ok (.iload_n 2, 1) := by decide +kernel
theorem dX3_dropOldestState_27 : decode cX3_dropOldestState 27 = .ok (.aaload, 1) := by decide +kernel
theorem dX3_dropOldestState_28 : decode cX3_dropOldestState 28 = .ok (.aastore, 1) := by decide +kernel
theorem dX3_dropOldestState_29 : decode cX3_dropOldestState 29 = .ok (.iinc 2 1, 3) := by decide +kernel
theorem dX3_dropOldestState_32 : decode cX3_dropOldestState 32 = .ok (.goto (-23), 3) := by decide +kernel
theorem dX3_dropOldestState_35 : decode cX3_dropOldestState 35 = .ok (.aload_n 0, 1) := by decide +kernel
theorem dX3_dropOldestState_36 : decode cX3_dropOldestState 36 = .ok (.getfield 16, 3) := by decide +kernel
theorem dX3_dropOldestState_39 : decode cX3_dropOldestState 39 = .ok (.iconst 5, 1) := by decide +kernel
theorem dX3_dropOldestState_40 : decode cX3_dropOldestState 40 = .ok (.aload_n 1, 1) := by decide +kernel
theorem dX3_dropOldestState_41 : decode cX3_dropOldestState 41 = .ok (.aastore, 1) := by decide +kernel
theorem dX3_dropOldestState_42 : decode cX3_dropOldestState 42 = .ok (.return_, 1) := by decide +kernel
theorem dX3_isSquare_0 : decode cX3_isSquare 0 = .ok (.iload_n 0, 1) := by decide +kernel
theorem dX3_isSquare_1 : decode cX3_isSquare 1 = .ok (.ifCond .lt 13, 3) := by decide +kernel
theorem dX3_isSquare_4 : decode cX3_isSquare 4 = .ok (.iload_n 0, 1) := by decide +kernel
theorem dX3_isSquare_5 : decode cX3_isSquare 5 = .ok (.bipush 80, 2) := by decide +kernel
theorem dX3_isSquare_7 : decode cX3_isSquare 7 = .ok (.if_icmp .ge 7, 3) := by decide +kernel
theorem dX3_isSquare_10 : decode cX3_isSquare 10 = .ok (.iconst 1, 1) := by decide +kernel
theorem dX3_isSquare_11 : decode cX3_isSquare 11 = .ok (.goto 4, 3) := by decide +kernel
theorem dX3_isSquare_14 : decode cX3_isSquare 14 = .ok (.iconst 0, 1) := by decide +kernel
theorem dX3_isSquare_15 : decode cX3_isSquare 15 = .ok (.ireturn, 1) := by decide +kernel
theorem dX3_isPlayer_0 : decode cX3_isPlayer 0 = .ok (.iload_n 0, 1) := by decide +kernel
theorem dX3_isPlayer_1 : decode cX3_isPlayer 1 = .ok (.ifCond .lt 12, 3) := by decide +kernel
theorem dX3_isPlayer_4 : decode cX3_isPlayer 4 = .ok (.iload_n 0, 1) := by decide +kernel
theorem dX3_isPlayer_5 : decode cX3_isPlayer 5 = .ok (.iconst 4, 1) := by decide +kernel
theorem dX3_isPlayer_6 : decode cX3_isPlayer 6 = .ok (.if_icmp .ge 7, 3) := by decide +kernel
theorem dX3_isPlayer_9 : decode cX3_isPlayer 9 = .ok (.iconst 1, 1) := by decide +kernel
theorem dX3_isPlayer_10 : decode cX3_isPlayer 10 = .ok (.goto 4, 3) := by decide +kernel
theorem dX3_isPlayer_13 : decode cX3_isPlayer 13 = .ok (.iconst 0, 1) := by decide +kernel
theorem dX3_isPlayer_14 : decode cX3_isPlayer 14 = .ok (.ireturn, 1) := by decide +kernel
theorem dX3_isStop_0 : decode cX3_isStop 0 = .ok (.iload_n 0, 1) := by decide +kernel
theorem dX3_isStop_1 : decode cX3_isStop 1 = .ok (.ifCond .lt 13, 3) := by decide +kernel
theorem dX3_isStop_4 : decode cX3_isStop 4 = .ok (.iload_n 0, 1) := by decide +kernel
theorem dX3_isStop_5 : decode cX3_isStop 5 = .ok (.bipush 12, 2) := by decide +kernel
theorem dX3_isStop_7 : decode cX3_isStop 7 = .ok (.if_icmp .ge 7, 3) := by decide +kernel
theorem dX3_isStop_10 : decode cX3_isStop 10 = .ok (.iconst 1, 1) := by decide +kernel
theorem dX3_isStop_11 : decode cX3_isStop 11 = .ok (.goto 4, 3) := by decide +kernel
theorem dX3_isStop_14 : decode cX3_isStop 14 = .ok (.iconst 0, 1) := by decide +kernel
theorem dX3_isStop_15 : decode cX3_isStop 15 = .ok (.ireturn, 1) := by decide +kernel
theorem dX3_isDie_0 : decode cX3_isDie 0 = .ok (.iload_n 0, 1) := by decide +kernel
theorem dX3_isDie_1 : decode cX3_isDie 1 = .ok (.iconst 1, 1) := by decide +kernel
theorem dX3_isDie_2 : decode cX3_isDie 2 = .ok (.if_icmp .lt 13, 3) := by decide +kernel
theorem dX3_isDie_5 : decode cX3_isDie 5 = .ok (.iload_n 0, 1) := by decide +kernel
theorem dX3_isDie_6 : decode cX3_isDie 6 = .ok (.bipush 6, 2) := by decide +kernel
theorem dX3_isDie_8 : decode cX3_isDie 8 = .ok (.if_icmp .gt 7, 3) := by decide +kernel
theorem dX3_isDie_11 : decode cX3_isDie 11 = .ok (.iconst 1, 1) := by decide +kernel
theorem dX3_isDie_12 : decode cX3_isDie 12 = .ok (.goto 4, 3) := by decide +kernel
theorem dX3_isDie_15 : decode cX3_isDie 15 = .ok (.iconst 0, 1) := by decide +kernel
theorem dX3_isDie_16 : decode cX3_isDie 16 = .ok (.ireturn, 1) := by decide +kernel
theorem dX3_isDirection_0 : decode cX3_isDirection 0 = .ok (.iload_n 0, 1) := by decide +kernel
theorem dX3_isDirection_1 : decode cX3_isDirection 1 = .ok (.ifCond .lt 12, 3) := by decide +kernel
theorem dX3_isDirection_4 : decode cX3_isDirection 4 = .ok (.iload_n 0, 1) := by decide +kernel
theorem dX3_isDirection_5 : decode cX3_isDirection 5 = .ok (.iconst 4, 1) := by decide +kernel
theorem dX3_isDirection_6 : decode cX3_isDirection 6 = .ok (.if_icmp .ge 7, 3) := by decide +kernel
theorem dX3_isDirection_9 : decode cX3_isDirection 9 = .ok (.iconst 1, 1) := by decide +kernel
theorem dX3_isDirection_10 : decode cX3_isDirection 10 = .ok (.goto 4, 3) := by decide +kernel
theorem dX3_isDirection_13 : decode cX3_isDirection 13 = .ok (.iconst 0, 1) := by decide +kernel
theorem dX3_isDirection_14 : decode cX3_isDirection 14 = .ok (.ireturn, 1) := by decide +kernel
theorem dX3_isSetting_0 : decode cX3_isSetting 0 = .ok (.iload_n 0, 1) := by decide +kernel
theorem dX3_isSetting_1 : decode cX3_isSetting 1 = .ok (.ifCond .lt 12, 3) := by decide +kernel
theorem dX3_isSetting_4 : decode cX3_isSetting 4 = .ok (.iload_n 0, 1) := by decide +kernel
theorem dX3_isSetting_5 : decode cX3_isSetting 5 = .ok (.iconst 3, 1) := by decide +kernel
theorem dX3_isSetting_6 : decode cX3_isSetting 6 = .ok (.if_icmp .ge 7, 3) := by decide +kernel
theorem dX3_isSetting_9 : decode cX3_isSetting 9 = .ok (.iconst 1, 1) := by decide +kernel
theorem dX3_isSetting_10 : decode cX3_isSetting 10 = .ok (.goto 4, 3) := by decide +kernel
theorem dX3_isSetting_13 : decode cX3_isSetting 13 = .ok (.iconst 0, 1) := by decide +kernel
theorem dX3_isSetting_14 : decode cX3_isSetting 14 = .ok (.ireturn, 1) := by decide +kernel
theorem dX3_isSettingValue_0 : decode cX3_isSettingValue 0 = .ok (.iload_n 0, 1) := by decide +kernel
theorem dX3_isSettingValue_1 : decode cX3_isSettingValue 1 = .ok (.iconst 1, 1) := by decide +kernel
theorem dX3_isSettingValue_2 : decode cX3_isSettingValue 2 = .ok (.if_icmp .ne 19, 3) := by decide +kernel
theorem dX3_isSettingValue_5 : decode cX3_isSettingValue 5 = .ok (.iload_n 1, 1) := by decide +kernel
theorem dX3_isSettingValue_6 : decode cX3_isSettingValue 6 = .ok (.iconst 1, 1) := by decide +kernel
theorem dX3_isSettingValue_7 : decode cX3_isSettingValue 7 = .ok (.if_icmp .lt 12, 3) := by decide +kernel
theorem dX3_isSettingValue_10 : decode cX3_isSettingValue 10 = .ok (.iload_n 1, 1) := by decide +kernel
theorem dX3_isSettingValue_11 : decode cX3_isSettingValue 11 = .ok (.iconst 4, 1) := by decide +kernel
theorem dX3_isSettingValue_12 : decode cX3_isSettingValue 12 = .ok (.if_icmp .gt 7, 3) := by decide +kernel
theorem dX3_isSettingValue_15 : decode cX3_isSettingValue 15 = .ok (.iconst 1, 1) := by decide +kernel
theorem dX3_isSettingValue_16 : decode cX3_isSettingValue 16 = .ok (.goto 4, 3) := by decide +kernel
theorem dX3_isSettingValue_19 : decode cX3_isSettingValue 19 = .ok (.iconst 0, 1) := by decide +kernel
theorem dX3_isSettingValue_20 : decode cX3_isSettingValue 20 = .ok (.ireturn, 1) := by decide +kernel
theorem dX3_isSettingValue_21 : decode cX3_isSettingValue 21 = .ok (.iload_n 1, 1) := by decide +kernel
theorem dX3_isSettingValue_22 : decode cX3_isSettingValue 22 = .ok (.ifCond .lt 13, 3) := by decide +kernel
theorem dX3_isSettingValue_25 : decode cX3_isSettingValue 25 = .ok (.iload_n 1, 1) := by decide +kernel
theorem dX3_isSettingValue_26 : decode cX3_isSettingValue 26 = .ok (.bipush 9, 2) := by decide +kernel
theorem dX3_isSettingValue_28 : decode cX3_isSettingValue 28 = .ok (.if_icmp .gt 7, 3) := by decide +kernel
theorem dX3_isSettingValue_31 : decode cX3_isSettingValue 31 = .ok (.iconst 1, 1) := by decide +kernel
theorem dX3_isSettingValue_32 : decode cX3_isSettingValue 32 = .ok (.goto 4, 3) := by decide +kernel
theorem dX3_isSettingValue_35 : decode cX3_isSettingValue 35 = .ok (.iconst 0, 1) := by decide +kernel
theorem dX3_isSettingValue_36 : decode cX3_isSettingValue 36 = .ok (.ireturn, 1) := by decide +kernel
theorem dX3_neighbour_0 : decode cX3_neighbour 0 = .ok (.iload_n 0, 1) := by decide +kernel
theorem dX3_neighbour_1 : decode cX3_neighbour 1 = .ok (.bipush 10, 2) := by decide +kernel
theorem dX3_neighbour_3 : decode cX3_neighbour 3 = .ok (.irem, 1) := by decide +kernel
theorem dX3_neighbour_4 : decode cX3_neighbour 4 = .ok (.istore_n 2, 1) := by decide +kernel
theorem dX3_neighbour_5 : decode cX3_neighbour 5 = .ok (.iload_n 0, 1) := by decide +kernel
theorem dX3_neighbour_6 : decode cX3_neighbour 6 = .ok (.bipush 10, 2) := by decide +kernel
theorem dX3_neighbour_8 : decode cX3_neighbour 8 = .ok (.idiv, 1) := by decide +kernel
theorem dX3_neighbour_9 : decode cX3_neighbour 9 = .ok (.istore_n 3, 1) := by decide +kernel
theorem dX3_neighbour_10 : decode cX3_neighbour 10 = .ok (.iload_n 1, 1) := by decide +kernel
theorem dX3_neighbour_11 : decode cX3_neighbour 11 = .ok (.tableswitch 83 0 3 #[29, 42, 56, 71], 29) := by decide +kernel
theorem dX3_neighbour_40 : decode cX3_neighbour 40 = .ok (.iload_n 3, 1) := by decide +kernel
theorem dX3_neighbour_41 : decode cX3_neighbour 41 = .ok (.ifCond .le 10, 3) := by decide +kernel
theorem dX3_neighbour_44 : decode cX3_neighbour 44 = .ok (.iload_n 0, 1) := by decide +kernel
theorem dX3_neighbour_45 : decode cX3_neighbour 45 = .ok (.bipush 10, 2) := by decide +kernel
theorem dX3_neighbour_47 : decode cX3_neighbour 47 = .ok (.isub, 1) := by decide +kernel
theorem dX3_neighbour_48 : decode cX3_neighbour 48 = .ok (.goto 4, 3) := by decide +kernel
theorem dX3_neighbour_51 : decode cX3_neighbour 51 = .ok (.iconst (-1), 1) := by decide +kernel
theorem dX3_neighbour_52 : decode cX3_neighbour 52 = .ok (.ireturn, 1) := by decide +kernel
theorem dX3_neighbour_53 : decode cX3_neighbour 53 = .ok (.iload_n 2, 1) := by decide +kernel
theorem dX3_neighbour_54 : decode cX3_neighbour 54 = .ok (.bipush 9, 2) := by decide +kernel
theorem dX3_neighbour_56 : decode cX3_neighbour 56 = .ok (.if_icmp .ge 9, 3) := by decide +kernel
theorem dX3_neighbour_59 : decode cX3_neighbour 59 = .ok (.iload_n 0, 1) := by decide +kernel
theorem dX3_neighbour_60 : decode cX3_neighbour 60 = .ok (.iconst 1, 1) := by decide +kernel
theorem dX3_neighbour_61 : decode cX3_neighbour 61 = .ok (.iadd, 1) := by decide +kernel
theorem dX3_neighbour_62 : decode cX3_neighbour 62 = .ok (.goto 4, 3) := by decide +kernel
theorem dX3_neighbour_65 : decode cX3_neighbour 65 = .ok (.iconst (-1), 1) := by decide +kernel
theorem dX3_neighbour_66 : decode cX3_neighbour 66 = .ok (.ireturn, 1) := by decide +kernel
theorem dX3_neighbour_67 : decode cX3_neighbour 67 = .ok (.iload_n 3, 1) := by decide +kernel
theorem dX3_neighbour_68 : decode cX3_neighbour 68 = .ok (.bipush 7, 2) := by decide +kernel
theorem dX3_neighbour_70 : decode cX3_neighbour 70 = .ok (.if_icmp .ge 10, 3) := by decide +kernel
theorem dX3_neighbour_73 : decode cX3_neighbour 73 = .ok (.iload_n 0, 1) := by decide +kernel
theorem dX3_neighbour_74 : decode cX3_neighbour 74 = .ok (.bipush 10, 2) := by decide +kernel
theorem dX3_neighbour_76 : decode cX3_neighbour 76 = .ok (.iadd, 1) := by decide +kernel
theorem dX3_neighbour_77 : decode cX3_neighbour 77 = .ok (.goto 4, 3) := by decide +kernel
theorem dX3_neighbour_80 : decode cX3_neighbour 80 = .ok (.iconst (-1), 1) := by decide +kernel
theorem dX3_neighbour_81 : decode cX3_neighbour 81 = .ok (.ireturn, 1) := by decide +kernel
theorem dX3_neighbour_82 : decode cX3_neighbour 82 = .ok (.iload_n 2, 1) := by decide +kernel
theorem dX3_neighbour_83 : decode cX3_neighbour 83 = .ok (.ifCond .le 9, 3) := by decide +kernel
theorem dX3_neighbour_86 : decode cX3_neighbour 86 = .ok (.iload_n 0, 1) := by decide +kernel
theorem dX3_neighbour_87 : decode cX3_neighbour 87 = .ok (.iconst 1, 1) := by decide +kernel
theorem dX3_neighbour_88 : decode cX3_neighbour 88 = .ok (.isub, 1) := by decide +kernel
theorem dX3_neighbour_89 : decode cX3_neighbour 89 = .ok (.goto 4, 3) := by decide +kernel
theorem dX3_neighbour_92 : decode cX3_neighbour 92 = .ok (.iconst (-1), 1) := by decide +kernel
theorem dX3_neighbour_93 : decode cX3_neighbour 93 = .ok (.ireturn, 1) := by decide +kernel
theorem dX3_neighbour_94 : decode cX3_neighbour 94 = .ok (.iconst (-1), 1) := by decide +kernel
theorem dX3_neighbour_95 : decode cX3_neighbour 95 = .ok (.ireturn, 1) := by decide +kernel
theorem dX3_dieAllows_0 : decode cX3_dieAllows 0 = .ok (.iload_n 1, 1) := by decide +kernel
theorem dX3_dieAllows_1 : decode cX3_dieAllows 1 = .ok (.iconst (-1), 1) := by decide +kernel
theorem dX3_dieAllows_2 : decode cX3_dieAllows 2 = .ok (.if_icmp .eq 9, 3) := by decide +kernel
theorem dX3_dieAllows_5 : decode cX3_dieAllows 5 = .ok (.iload_n 0, 1) := by decide +kernel
theorem dX3_dieAllows_6 : decode cX3_dieAllows 6 = .ok (.bipush 6, 2) := by decide +kernel
theorem dX3_dieAllows_8 : decode cX3_dieAllows 8 = .ok (.if_icmp .ne 5, 3) := by decide +kernel
theorem dX3_dieAllows_11 : decode cX3_dieAllows 11 = .ok (.iconst 1, 1) := by decide +kernel
theorem dX3_dieAllows_12 : decode cX3_dieAllows 12 = .ok (.ireturn, 1) := by decide +kernel
theorem dX3_dieAllows_13 : decode cX3_dieAllows 13 = .ok (.iload_n 2, 1) := by decide +kernel
theorem dX3_dieAllows_14 : decode cX3_dieAllows 14 = .ok (.iload_n 1, 1) := by decide +kernel
theorem dX3_dieAllows_15 : decode cX3_dieAllows 15 = .ok (.if_icmp .ne 7, 3) := by decide +kernel
theorem dX3_dieAllows_18 : decode cX3_dieAllows 18 = .ok (.iconst 1, 1) := by decide +kernel
theorem dX3_dieAllows_19 : decode cX3_dieAllows 19 = .ok (.goto 4, 3) := by decide +kernel
theorem dX3_dieAllows_22 : decode cX3_dieAllows 22 = .ok (.iconst 0, 1) := by decide +kernel
theorem dX3_dieAllows_23 : decode cX3_dieAllows 23 = .ok (.istore_n 3, 1) := by decide +kernel
theorem dX3_dieAllows_24 : decode cX3_dieAllows 24 = .ok (.iload_n 2, 1) := by decide +kernel
theorem dX3_dieAllows_25 : decode cX3_dieAllows 25 = .ok (.iload_n 1, 1) := by decide +kernel
theorem dX3_dieAllows_26 : decode cX3_dieAllows 26 = .ok (.iconst 2, 1) := by decide +kernel
theorem dX3_dieAllows_27 : decode cX3_dieAllows 27 = .ok (.iadd, 1) := by decide +kernel
theorem dX3_dieAllows_28 : decode cX3_dieAllows 28 = .ok (.iconst 4, 1) := by decide +kernel
theorem dX3_dieAllows_29 : decode cX3_dieAllows 29 = .ok (.irem, 1) := by decide +kernel
theorem dX3_dieAllows_30 : decode cX3_dieAllows 30 = .ok (.if_icmp .ne 7, 3) := by decide +kernel
theorem dX3_dieAllows_33 : decode cX3_dieAllows 33 = .ok (.iconst 1, 1) := by decide +kernel
theorem dX3_dieAllows_34 : decode cX3_dieAllows 34 = .ok (.goto 4, 3) := by decide +kernel
theorem dX3_dieAllows_37 : decode cX3_dieAllows 37 = .ok (.iconst 0, 1) := by decide +kernel
theorem dX3_dieAllows_38 : decode cX3_dieAllows 38 = .ok (.istore 4, 2) := by decide +kernel
theorem dX3_dieAllows_40 : decode cX3_dieAllows 40 = .ok (.iload_n 0, 1) := by decide +kernel
theorem dX3_dieAllows_41 : decode cX3_dieAllows 41 = .ok (.iconst 2, 1) := by decide +kernel
theorem dX3_dieAllows_42 : decode cX3_dieAllows 42 = .ok (.if_icmp .gt 14, 3) := by decide +kernel
theorem dX3_dieAllows_45 : decode cX3_dieAllows 45 = .ok (.iload 4, 2) := by decide +kernel
theorem dX3_dieAllows_47 : decode cX3_dieAllows 47 = .ok (.ifCond .ne 7, 3) := by decide +kernel
theorem dX3_dieAllows_50 : decode cX3_dieAllows 50 = .ok (.iconst 1, 1) := by decide +kernel
theorem dX3_dieAllows_51 : decode cX3_dieAllows 51 = .ok (.goto 4, 3) := by decide +kernel
theorem dX3_dieAllows_54 : decode cX3_dieAllows 54 = .ok (.iconst 0, 1) := by decide +kernel
theorem dX3_dieAllows_55 : decode cX3_dieAllows 55 = .ok (.ireturn, 1) := by decide +kernel
theorem dX3_dieAllows_56 : decode cX3_dieAllows 56 = .ok (.iload_n 0, 1) := by decide +kernel
theorem dX3_dieAllows_57 : decode cX3_dieAllows 57 = .ok (.iconst 4, 1) := by decide +kernel
theorem dX3_dieAllows_58 : decode cX3_dieAllows 58 = .ok (.if_icmp .gt 7, 3) := by decide +kernel
theorem dX3_dieAllows_61 : decode cX3_dieAllows 61 = .ok (.iload_n 3, 1) := by decide +kernel
theorem dX3_dieAllows_62 : decode cX3_dieAllows 62 = .ok (.goto 17, 3) := by decide +kernel
theorem dX3_dieAllows_65 : decode cX3_dieAllows 65 = .ok (.iload_n 3, 1) := by decide +kernel
theorem dX3_dieAllows_66 : decode cX3_dieAllows 66 = .ok (.ifCond .ne 12, 3) := by decide +kernel
theorem dX3_dieAllows_69 : decode cX3_dieAllows 69 = .ok (.iload 4, 2) := by decide +kernel
theorem dX3_dieAllows_71 : decode cX3_dieAllows 71 = .ok (.ifCond .ne 7, 3) := by decide +kernel
theorem dX3_dieAllows_74 : decode cX3_dieAllows 74 = .ok (.iconst 1, 1) := by decide +kernel
theorem dX3_dieAllows_75 : decode cX3_dieAllows 75 = .ok (.goto 4, 3) := by decide +kernel
theorem dX3_dieAllows_78 : decode cX3_dieAllows 78 = .ok (.iconst 0, 1) := by decide +kernel
theorem dX3_dieAllows_79 : decode cX3_dieAllows 79 = .ok (.ireturn, 1) := by decide +kernel
theorem dX3_lesser_0 : decode cX3_lesser 0 = .ok (.iload_n 0, 1) := by decide +kernel
theorem dX3_lesser_1 : decode cX3_lesser 1 = .ok (.iconst (-1), 1) := by decide +kernel
theorem dX3_lesser_2 : decode cX3_lesser 2 = .ok (.if_icmp .eq 8, 3) := by decide +kernel
theorem dX3_lesser_5 : decode cX3_lesser 5 = .ok (.iload_n 1, 1) := by decide +kernel
theorem dX3_lesser_6 : decode cX3_lesser 6 = .ok (.iconst (-1), 1) := by decide +kernel
theorem dX3_lesser_7 : decode cX3_lesser 7 = .ok (.if_icmp .ne 14, 3) := by decide +kernel
theorem dX3_lesser_10 : decode cX3_lesser 10 = .ok (.iload_n 0, 1) := by decide +kernel
theorem dX3_lesser_11 : decode cX3_lesser 11 = .ok (.iconst (-1), 1) := by decide +kernel
theorem dX3_lesser_12 : decode cX3_lesser 12 = .ok (.if_icmp .ne 7, 3) := by decide +kernel
theorem dX3_lesser_15 : decode cX3_lesser 15 = .ok (.iload_n 1, 1) := by decide +kernel
theorem dX3_lesser_16 : decode cX3_lesser 16 = .ok (.goto 4, 3) := by decide +kernel
theorem dX3_lesser_19 : decode cX3_lesser 19 = .ok (.iload_n 0, 1) := by decide +kernel
theorem dX3_lesser_20 : decode cX3_lesser 20 = .ok (.ireturn, 1) := by decide +kernel
theorem dX3_lesser_21 : decode cX3_lesser 21 = .ok (.iload_n 0, 1) := by decide +kernel
theorem dX3_lesser_22 : decode cX3_lesser 22 = .ok (.iload_n 1, 1) := by decide +kernel
theorem dX3_lesser_23 : decode cX3_lesser 23 = .ok (.invokestatic 314, 3) := by decide +kernel
theorem dX3_lesser_26 : decode cX3_lesser 26 = .ok (.ireturn, 1) := by decide +kernel
theorem dX3_at_0 : decode cX3_at 0 = .ok (.iload_n 1, 1) := by decide +kernel
theorem dX3_at_1 : decode cX3_at 1 = .ok (.ifCond .lt 15, 3) := by decide +kernel
theorem dX3_at_4 : decode cX3_at 4 = .ok (.iload_n 1, 1) := by decide +kernel
theorem dX3_at_5 : decode cX3_at 5 = .ok (.aload_n 0, 1) := by decide +kernel
theorem dX3_at_6 : decode cX3_at 6 = .ok (.arraylength, 1) := by decide +kernel
theorem dX3_at_7 : decode cX3_at 7 = .ok (.if_icmp .ge 9, 3) := by decide +kernel
