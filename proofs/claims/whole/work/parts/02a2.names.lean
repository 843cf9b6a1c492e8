theorem dX0_init_0 : decode cX0_init 0 = .ok (.aload_n 0, 1) := by decide +kernel
theorem dX0_init_1 : decode cX0_init 1 = .ok (.invokespecial 3, 3) := by decide +kernel
theorem dX0_init_4 : decode cX0_init 4 = .ok (.aload_n 0, 1) := by decide +kernel
theorem dX0_init_5 : decode cX0_init 5 = .ok (.bipush 60, 2) := by decide +kernel
theorem dX0_init_7 : decode cX0_init 7 = .ok (.newarray .int, 2) := by decide +kernel
theorem dX0_init_9 : decode cX0_init 9 = .ok (.putfield 9, 3) := by decide +kernel
theorem dX0_init_12 : decode cX0_init 12 = .ok (.return_, 1) := by decide +kernel
set_option maxRecDepth 20000 in
theorem ggX0_addCode_X3_put : GoodIn wsX0_addCode wsX3_put := goodIn_r _ [5] (by decide +kernel) (by decide +kernel)
set_option maxRecDepth 20000 in
theorem gX0_addCode_X3_put_n19 : GoodIn wsX0_addCode (wsX3_put) := ggX0_addCode_X3_put
theorem dX0_addCode_0 : decode cX0_addCode 0 = .ok (.aload_n 0, 1) := by decide +kernel
theorem dX0_addCode_1 : decode cX0_addCode 1 = .ok (.getfield 9, 3) := by decide +kernel
theorem dX0_addCode_4 : decode cX0_addCode 4 = .ok (.aload_n 0, 1) := by decide +kernel
theorem dX0_addCode_5 : decode cX0_addCode 5 = .ok (.getfield 15, 3) := by decide +kernel
theorem dX0_addCode_8 : decode cX0_addCode 8 = .ok (.iload_n 1, 1) := by decide +kernel
theorem dX0_addCode_9 : decode cX0_addCode 9 = .ok (.invokestatic 19, 3) := by decide +kernel
theorem dX0_addCode_12 : decode cX0_addCode 12 = .ok (.aload_n 0, 1) := by decide +kernel
theorem dX0_addCode_13 : decode cX0_addCode 13 = .ok (.dup, 1) := by decide +kernel
theorem dX0_addCode_14 : decode cX0_addCode 14 = .ok (.getfield 15, 3) := by decide +kernel
theorem dX0_addCode_17 : decode cX0_addCode 17 = .ok (.iconst 1, 1) := by decide +kernel
theorem dX0_addCode_18 : decode cX0_addCode 18 = .ok (.iadd, 1) := by decide +kernel
theorem dX0_addCode_19 : decode cX0_addCode 19 = .ok (.putfield 15, 3) := by decide +kernel
theorem dX0_addCode_22 : decode cX0_addCode 22 = .ok (.return_, 1) := by decide +kernel
set_option maxRecDepth 20000 in
theorem ggX0_errorIndex_X3_at : GoodIn wsX0_errorIndex wsX3_at := goodIn_r _ [5] (by decide +kernel) (by decide +kernel)
set_option maxRecDepth 20000 in
theorem gX0_errorIndex_X3_at_n23 : GoodIn wsX0_errorIndex (wsX3_at) := ggX0_errorIndex_X3_at
set_option maxRecDepth 20000 in
theorem ggX0_errorIndex_X0_nextPlace : GoodIn wsX0_errorIndex wsX0_nextPlace := goodIn_r _ [9, 10, 11, 8, 12, 13, 14, 15] (by decide +kernel) (by decide +kernel)
set_option maxRecDepth 20000 in
theorem gX0_errorIndex_X0_nextPlace : GoodIn wsX0_errorIndex (va_wsS RX0 27 yX0_nextPlace wsX0_nextPlace) := goodIn_app (goodIn_of _ (by decide +kernel)) ggX0_errorIndex_X0_nextPlace
theorem dX0_errorIndex_0 : decode cX0_errorIndex 0 = .ok (.iconst 0, 1) := by decide +kernel
theorem dX0_errorIndex_1 : decode cX0_errorIndex 1 = .ok (.istore_n 1, 1) := by decide +kernel
theorem dX0_errorIndex_2 : decode cX0_errorIndex 2 = .ok (.iconst 0, 1) := by decide +kernel
theorem dX0_errorIndex_3 : decode cX0_errorIndex 3 = .ok (.istore_n 2, 1) := by decide +kernel
theorem dX0_errorIndex_4 : decode cX0_errorIndex 4 = .ok (.iload_n 2, 1) := by decide +kernel
theorem dX0_errorIndex_5 : decode cX0_errorIndex 5 = .ok (.aload_n 0, 1) := by decide +kernel
theorem dX0_errorIndex_6 : decode cX0_errorIndex 6 = .ok (.getfield 15, 3) := by decide +kernel
theorem dX0_errorIndex_9 : decode cX0_errorIndex 9 = .ok (.if_icmp .ge 29, 3) := by decide +kernel
theorem dX0_errorIndex_12 : decode cX0_errorIndex 12 = .ok (.iload_n 1, 1) := by decide +kernel
theorem dX0_errorIndex_13 : decode cX0_errorIndex 13 = .ok (.aload_n 0, 1) := by decide +kernel
theorem dX0_errorIndex_14 : decode cX0_errorIndex 14 = .ok (.getfield 9, 3) := by decide +kernel
theorem dX0_errorIndex_17 : decode cX0_errorIndex 17 = .ok (.iload_n 2, 1) := by decide +kernel
theorem dX0_errorIndex_18 : decode cX0_errorIndex 18 = .ok (.invokestatic 23, 3) := by decide +kernel
theorem dX0_errorIndex_21 : decode cX0_errorIndex 21 = .ok (.invokestatic 27, 3) := by decide +kernel
theorem dX0_errorIndex_24 : decode cX0_errorIndex 24 = .ok (.istore_n 1, 1) := by decide +kernel
theorem dX0_errorIndex_25 : decode cX0_errorIndex 25 = .ok (.iload_n 1, 1) := by decide +kernel
theorem dX0_errorIndex_26 : decode cX0_errorIndex 26 = .ok (.iconst (-1), 1) := by decide +kernel
theorem dX0_errorIndex_27 : decode cX0_errorIndex 27 = .ok (.if_icmp .ne 5, 3) := by decide +kernel
theorem dX0_errorIndex_30 : decode cX0_errorIndex 30 = .ok (.iload_n 2, 1) := by decide +kernel
theorem dX0_errorIndex_31 : decode cX0_errorIndex 31 = .ok (.ireturn, 1) := by decide +kernel
theorem dX0_errorIndex_32 : decode cX0_errorIndex 32 = .ok (.iinc 2 1, 3) := by decide +kernel
theorem dX0_errorIndex_35 : decode cX0_errorIndex 35 = .ok (.goto (-31), 3) := by decide +kernel
theorem dX0_errorIndex_38 : decode cX0_errorIndex 38 = .ok (.aload_n 0, 1) := by decide +kernel
theorem dX0_errorIndex_39 : decode cX0_errorIndex 39 = .ok (.getfield 15, 3) := by decide +kernel
theorem dX0_errorIndex_42 : decode cX0_errorIndex 42 = .ok (.ireturn, 1) := by decide +kernel
set_option maxRecDepth 20000 in
theorem ggX0_isComplete_X3_at : GoodIn wsX0_isComplete wsX3_at := goodIn_r _ [5] (by decide +kernel) (by decide +kernel)
set_option maxRecDepth 20000 in
theorem gX0_isComplete_X3_at_n23 : GoodIn wsX0_isComplete (wsX3_at) := ggX0_isComplete_X3_at
set_option maxRecDepth 20000 in
theorem ggX0_isComplete_X0_nextPlace : GoodIn wsX0_isComplete wsX0_nextPlace := goodIn_r _ [9, 10, 11, 8, 12, 13, 14, 15] (by decide +kernel) (by decide +kernel)
set_option maxRecDepth 20000 in
theorem gX0_isComplete_X0_nextPlace : GoodIn wsX0_isComplete (va_wsS RX0 27 yX0_nextPlace wsX0_nextPlace) := goodIn_app (goodIn_of _ (by decide +kernel)) ggX0_isComplete_X0_nextPlace
theorem dX0_isComplete_0 : decode cX0_isComplete 0 = .ok (.iconst 0, 1) := by decide +kernel
theorem dX0_isComplete_1 : decode cX0_isComplete 1 = .ok (.istore_n 1, 1) := by decide +kernel
theorem dX0_isComplete_2 : decode cX0_isComplete 2 = .ok (.iconst 0, 1) := by decide +kernel
theorem dX0_isComplete_3 : decode cX0_isComplete 3 = .ok (.istore_n 2, 1) := by decide +kernel
theorem dX0_isComplete_4 : decode cX0_isComplete 4 = .ok (.iload_n 2, 1) := by decide +kernel
theorem dX0_isComplete_5 : decode cX0_isComplete 5 = .ok (.aload_n 0, 1) := by decide +kernel
theorem dX0_isComplete_6 : decode cX0_isComplete 6 = .ok (.getfield 15, 3) := by decide +kernel
theorem dX0_isComplete_9 : decode cX0_isComplete 9 = .ok (.if_icmp .ge 27, 3) := by decide +kernel
theorem dX0_isComplete_12 : decode cX0_isComplete 12 = .ok (.iload_n 1, 1) := by decide +kernel
theorem dX0_isComplete_13 : decode cX0_isComplete 13 = .ok (.iconst (-1), 1) := by decide +kernel
theorem dX0_isComplete_14 : decode cX0_isComplete 14 = .ok (.if_icmp .eq 22, 3) := by decide +kernel
theorem dX0_isComplete_17 : decode cX0_isComplete 17 = .ok (.iload_n 1, 1) := by decide +kernel
theorem dX0_isComplete_18 : decode cX0_isComplete 18 = .ok (.aload_n 0, 1) := by decide +kernel
theorem dX0_isComplete_19 : decode cX0_isComplete 19 = .ok (.getfield 9, 3) := by decide +kernel
theorem dX0_isComplete_22 : decode cX0_isComplete 22 = .ok (.iload_n 2, 1) := by decide +kernel
theorem dX0_isComplete_23 : decode cX0_isComplete 23 = .ok (.invokestatic 23, 3) := by decide +kernel
theorem dX0_isComplete_26 : decode cX0_isComplete 26 = .ok (.invokestatic 27, 3) := by decide +kernel
theorem dX0_isComplete_29 : decode cX0_isComplete 29 = .ok (.istore_n 1, 1) := by decide +kernel
theorem dX0_isComplete_30 : decode cX0_isComplete 30 = .ok (.iinc 2 1, 3) := by decide +kernel
theorem dX0_isComplete_33 : decode cX0_isComplete 33 = .ok (.goto (-29), 3) := by decide +kernel
theorem dX0_isComplete_36 : decode cX0_isComplete 36 = .ok (.iload_n 1, 1) := by decide +kernel
theorem dX0_isComplete_37 : decode cX0_isComplete 37 = .ok (.iconst 4, 1) := by decide +kernel
theorem dX0_isComplete_38 : decode cX0_isComplete 38 = .ok (.if_icmp .ne 7, 3) := by decide +kernel
theorem dX0_isComplete_41 : decode cX0_isComplete 41 = .ok (.iconst 1, 1) := by decide +kernel
theorem dX0_isComplete_42 : decode cX0_isComplete 42 = .ok (.goto 4, 3) := by decide +kernel
theorem dX0_isComplete_45 : decode cX0_isComplete 45 = .ok (.iconst 0, 1) := by decide +kernel
theorem dX0_isComplete_46 : decode cX0_isComplete 46 = .ok (.ireturn, 1) := by decide +kernel
set_option maxRecDepth 20000 in
theorem ggX0_nextPlace_X0_isDieCode : GoodIn wsX0_nextPlace wsX0_isDieCode := goodIn_r _ [4] (by decide +kernel) (by decide +kernel)
set_option maxRecDepth 20000 in
theorem gX0_nextPlace_X0_isDieCode : GoodIn wsX0_nextPlace (va_wsS RX0 31 yX0_isDieCode wsX0_isDieCode) := goodIn_app (goodIn_of _ (by decide +kernel)) ggX0_nextPlace_X0_isDieCode
set_option maxRecDepth 20000 in
theorem ggX0_nextPlace_X0_directionOf : GoodIn wsX0_nextPlace wsX0_directionOf := goodIn_r _ [7] (by decide +kernel) (by decide +kernel)
set_option maxRecDepth 20000 in
theorem gX0_nextPlace_X0_directionOf : GoodIn wsX0_nextPlace (va_wsS RX0 35 yX0_directionOf wsX0_directionOf) := goodIn_app (goodIn_of _ (by decide +kernel)) ggX0_nextPlace_X0_directionOf
theorem dX0_nextPlace_0 : decode cX0_nextPlace 0 = .ok (.iload_n 0, 1) := by decide +kernel
theorem dX0_nextPlace_1 : decode cX0_nextPlace 1 = .ok (.tableswitch 113 0 4 #[35, 53, 65, 78, 92], 35) := by decide +kernel
theorem dX0_nextPlace_36 : decode cX0_nextPlace 36 = .ok (.iload_n 1, 1) := by decide +kernel
theorem dX0_nextPlace_37 : decode cX0_nextPlace 37 = .ok (.bipush 48, 2) := by decide +kernel
theorem dX0_nextPlace_39 : decode cX0_nextPlace 39 = .ok (.if_icmp .lt 13, 3) := by decide +kernel
theorem dX0_nextPlace_42 : decode cX0_nextPlace 42 = .ok (.iload_n 1, 1) := by decide +kernel
theorem dX0_nextPlace_43 : decode cX0_nextPlace 43 = .ok (.bipush 51, 2) := by decide +kernel
theorem dX0_nextPlace_45 : decode cX0_nextPlace 45 = .ok (.if_icmp .gt 7, 3) := by decide +kernel
theorem dX0_nextPlace_48 : decode cX0_nextPlace 48 = .ok (.iconst 1, 1) := by decide +kernel
theorem dX0_nextPlace_49 : decode cX0_nextPlace 49 = .ok (.goto 4, 3) := by decide +kernel
theorem dX0_nextPlace_52 : decode cX0_nextPlace 52 = .ok (.iconst (-1), 1) := by decide +kernel
theorem dX0_nextPlace_53 : decode cX0_nextPlace 53 = .ok (.ireturn, 1) := by decide +kernel
theorem dX0_nextPlace_54 : decode cX0_nextPlace 54 = .ok (.iload_n 1, 1) := by decide +kernel
theorem dX0_nextPlace_55 : decode cX0_nextPlace 55 = .ok (.bipush 58, 2) := by decide +kernel
theorem dX0_nextPlace_57 : decode cX0_nextPlace 57 = .ok (.if_icmp .ne 7, 3) := by decide +kernel
theorem dX0_nextPlace_60 : decode cX0_nextPlace 60 = .ok (.iconst 2, 1) := by decide +kernel
theorem dX0_nextPlace_61 : decode cX0_nextPlace 61 = .ok (.goto 4, 3) := by decide +kernel
theorem dX0_nextPlace_64 : decode cX0_nextPlace 64 = .ok (.iconst (-1), 1) := by decide +kernel
theorem dX0_nextPlace_65 : decode cX0_nextPlace 65 = .ok (.ireturn, 1) := by decide +kernel
theorem dX0_nextPlace_66 : decode cX0_nextPlace 66 = .ok (.iload_n 1, 1) := by decide +kernel
theorem dX0_nextPlace_67 : decode cX0_nextPlace 67 = .ok (.invokestatic 31, 3) := by decide +kernel
theorem dX0_nextPlace_70 : decode cX0_nextPlace 70 = .ok (.ifCond .eq 7, 3) := by decide +kernel
theorem dX0_nextPlace_73 : decode cX0_nextPlace 73 = .ok (.iconst 3, 1) := by decide +kernel
theorem dX0_nextPlace_74 : decode cX0_nextPlace 74 = .ok (.goto 4, 3) := by decide +kernel
theorem dX0_nextPlace_77 : decode cX0_nextPlace 77 = .ok (.iconst (-1), 1) := by decide +kernel
theorem dX0_nextPlace_78 : decode cX0_nextPlace 78 = .ok (.ireturn, 1) := by decide +kernel
theorem dX0_nextPlace_79 : decode cX0_nextPlace 79 = .ok (.iload_n 1, 1) := by decide +kernel
theorem dX0_nextPlace_80 : decode cX0_nextPlace 80 = .ok (.invokestatic 35, 3) := by decide +kernel
theorem dX0_nextPlace_83 : decode cX0_nextPlace 83 = .ok (.iconst (-1), 1) := by decide +kernel
theorem dX0_nextPlace_84 : decode cX0_nextPlace 84 = .ok (.if_icmp .eq 7, 3) := by decide +kernel
theorem dX0_nextPlace_87 : decode cX0_nextPlace 87 = .ok (.iconst 4, 1) := by decide +kernel
theorem dX0_nextPlace_88 : decode cX0_nextPlace 88 = .ok (.goto 4, 3) := by decide +kernel
theorem dX0_nextPlace_91 : decode cX0_nextPlace 91 = .ok (.iconst (-1), 1) := by decide +kernel
theorem dX0_nextPlace_92 : decode cX0_nextPlace 92 = .ok (.ireturn, 1) := by decide +kernel
theorem dX0_nextPlace_93 : decode cX0_nextPlace 93 = .ok (.iload_n 1, 1) := by decide +kernel
theorem dX0_nextPlace_94 : decode cX0_nextPlace 94 = .ok (.bipush 59, 2) := by decide +kernel
theorem dX0_nextPlace_96 : decode cX0_nextPlace 96 = .ok (.if_icmp .ne 5, 3) := by decide +kernel
theorem dX0_nextPlace_99 : decode cX0_nextPlace 99 = .ok (.iconst 0, 1) := by decide +kernel
theorem dX0_nextPlace_100 : decode cX0_nextPlace 100 = .ok (.ireturn, 1) := by decide +kernel
theorem dX0_nextPlace_101 : decode cX0_nextPlace 101 = .ok (.iload_n 1, 1) := by decide +kernel
theorem dX0_nextPlace_102 : decode cX0_nextPlace 102 = .ok (.invokestatic 31, 3) := by decide +kernel
theorem dX0_nextPlace_105 : decode cX0_nextPlace 105 = .ok (.ifCond .eq 7, 3) := by decide +kernel
theorem dX0_nextPlace_108 : decode cX0_nextPlace 108 = .ok (.iconst 3, 1) := by decide +kernel
theorem dX0_nextPlace_109 : decode cX0_nextPlace 109 = .ok (.goto 4, 3) := by decide +kernel
theorem dX0_nextPlace_112 : decode cX0_nextPlace 112 = .ok (.iconst (-1), 1) := by decide +kernel
theorem dX0_nextPlace_113 : decode cX0_nextPlace 113 = .ok (.ireturn, 1) := by decide +kernel
theorem dX0_nextPlace_114 : decode cX0_nextPlace 114 = .ok (.iconst (-1), 1) := by decide +kernel
theorem dX0_nextPlace_115 : decode cX0_nextPlace 115 = .ok (.ireturn, 1) := by decide +kernel
theorem dX0_isDieCode_0 : decode cX0_isDieCode 0 = .ok (.iload_n 0, 1) := by decide +kernel
theorem dX0_isDieCode_1 : decode cX0_isDieCode 1 = .ok (.bipush 49, 2) := by decide +kernel
theorem dX0_isDieCode_3 : decode cX0_isDieCode 3 = .ok (.if_icmp .lt 13, 3) := by decide +kernel
theorem dX0_isDieCode_6 : decode cX0_isDieCode 6 = .ok (.iload_n 0, 1) := by decide +kernel
theorem dX0_isDieCode_7 : decode cX0_isDieCode 7 = .ok (.bipush 54, 2) := by decide +kernel
theorem dX0_isDieCode_9 : decode cX0_isDieCode 9 = .ok (.if_icmp .gt 7, 3) := by decide +kernel
theorem dX0_isDieCode_12 : decode cX0_isDieCode 12 = .ok (.iconst 1, 1) := by decide +kernel
theorem dX0_isDieCode_13 : decode cX0_isDieCode 13 = .ok (.goto 4, 3) := by decide +kernel
theorem dX0_isDieCode_16 : decode cX0_isDieCode 16 = .ok (.iconst 0, 1) := by decide +kernel
theorem dX0_isDieCode_17 : decode cX0_isDieCode 17 = .ok (.ireturn, 1) := by decide +kernel
theorem dX0_directionOf_0 : decode cX0_directionOf 0 = .ok (.iload_n 0, 1) := by decide +kernel
theorem dX0_directionOf_1 : decode cX0_directionOf 1 = .ok (.lookupswitch 51 #[(101, 45), (110, 43), (115, 47), (119, 49)], 43) := by decide +kernel
theorem dX0_directionOf_44 : decode cX0_directionOf 44 = .ok (.iconst 0, 1) := by decide +kernel
theorem dX0_directionOf_45 : decode cX0_directionOf 45 = .ok (.ireturn, 1) := by decide +kernel
theorem dX0_directionOf_46 : decode cX0_directionOf 46 = .ok (.iconst 1, 1) := by decide +kernel
theorem dX0_directionOf_47 : decode cX0_directionOf 47 = .ok (.ireturn, 1) := by decide +kernel
theorem dX0_directionOf_48 : decode cX0_directionOf 48 = .ok (.iconst 2, 1) := by decide +kernel
theorem dX0_directionOf_49 : decode cX0_directionOf 49 = .ok (.ireturn, 1) := by decide +kernel
theorem dX0_directionOf_50 : decode cX0_directionOf 50 = .ok (.iconst 3, 1) := by decide +kernel
theorem dX0_directionOf_51 : decode cX0_directionOf 51 = .ok (.ireturn, 1) := by decide +kernel
theorem dX0_directionOf_52 : decode cX0_directionOf 52 = .ok (.iconst (-1), 1) := by decide +kernel
theorem dX0_directionOf_53 : decode cX0_directionOf 53 = .ok (.ireturn, 1) := by decide +kernel
set_option maxRecDepth 20000 in
theorem ggX0_layPieces_X3_at : GoodIn wsX0_layPieces wsX3_at := goodIn_r _ [6] (by decide +kernel) (by decide +kernel)
set_option maxRecDepth 20000 in
theorem gX0_layPieces_X3_at_n23 : GoodIn wsX0_layPieces (wsX3_at) := ggX0_layPieces_X3_at
set_option maxRecDepth 20000 in
theorem ggX0_layPieces_X0_directionOf : GoodIn wsX0_layPieces wsX0_directionOf := goodIn_r _ [10] (by decide +kernel) (by decide +kernel)
set_option maxRecDepth 20000 in
theorem gX0_layPieces_X0_directionOf : GoodIn wsX0_layPieces (va_wsS RX0 35 yX0_directionOf wsX0_directionOf) := goodIn_app (goodIn_of _ (by decide +kernel)) ggX0_layPieces_X0_directionOf
set_option maxRecDepth 20000 in
theorem ggX0_layPieces_X1_reason : GoodIn wsX0_layPieces wsX1_reason := goodIn_r _ [15, 16, 17, 18, 5, 19, 4, 6, 20, 21, 22, 23, 24, 14, 25, 26, 27, 28, 29, 30, 31, 32, 33, 34, 35, 36, 37, 38, 39, 40, 41, 42, 43, 44, 61, 62, 63, 64, 65, 66, 67, 68, 69, 70, 71, 72] (by decide +kernel) (by decide +kernel)
set_option maxRecDepth 20000 in
theorem gX0_layPieces_X1_reason : GoodIn wsX0_layPieces (wsV RX0 44 RX1 yX1_reason wsX1_reason) := goodIn_app (goodIn_of _ (by decide +kernel)) ggX0_layPieces_X1_reason
set_option maxRecDepth 20000 in
theorem ggX0_layPieces_X1_layPiece : GoodIn wsX0_layPieces wsX1_layPiece := goodIn_r _ [48, 40, 17, 49, 28, 50, 26, 51, 16, 52, 18, 5, 19, 36, 37, 38, 14, 39, 4, 6, 41, 42, 43, 44, 29, 30, 31, 32, 33, 34, 35, 53, 54, 55, 56, 57, 58, 61, 62, 63, 64, 65, 66, 67, 68, 69, 70, 71, 72] (by decide +kernel) (by decide +kernel)
set_option maxRecDepth 20000 in
theorem gX0_layPieces_X1_layPiece : GoodIn wsX0_layPieces (wsV RX0 48 RX1 yX1_layPiece wsX1_layPiece) := goodIn_app (goodIn_of _ (by decide +kernel)) ggX0_layPieces_X1_layPiece
theorem dX0_layPieces_0 : decode cX0_layPieces 0 = .ok (.iconst 0, 1) := by decide +kernel
theorem dX0_layPieces_1 : decode cX0_layPieces 1 = .ok (.istore_n 2, 1) := by decide +kernel
theorem dX0_layPieces_2 : decode cX0_layPieces 2 = .ok (.iconst 0, 1) := by decide +kernel
theorem dX0_layPieces_3 : decode cX0_layPieces 3 = .ok (.istore_n 3, 1) := by decide +kernel
theorem dX0_layPieces_4 : decode cX0_layPieces 4 = .ok (.iconst 0, 1) := by decide +kernel
theorem dX0_layPieces_5 : decode cX0_layPieces 5 = .ok (.istore 4, 2) := by decide +kernel
theorem dX0_layPieces_7 : decode cX0_layPieces 7 = .ok (.iconst 0, 1) := by decide +kernel
theorem dX0_layPieces_8 : decode cX0_layPieces 8 = .ok (.istore 5, 2) := by decide +kernel
theorem dX0_layPieces_10 : decode cX0_layPieces 10 = .ok (.iload 5, 2) := by decide +kernel
theorem dX0_layPieces_12 : decode cX0_layPieces 12 = .ok (.aload_n 0, 1) := by decide +kernel
theorem dX0_layPieces_13 : decode cX0_layPieces 13 = .ok (.getfield 15, 3) := by decide +kernel
theorem dX0_layPieces_16 : decode cX0_layPieces 16 = .ok (.if_icmp .ge 95, 3) := by decide +kernel
theorem dX0_layPieces_19 : decode cX0_layPieces 19 = .ok (.aload_n 0, 1) := by decide +kernel
theorem dX0_layPieces_20 : decode cX0_layPieces 20 = .ok (.getfield 9, 3) := by decide +kernel
theorem dX0_layPieces_23 : decode cX0_layPieces 23 = .ok (.iload 5, 2) := by decide +kernel
theorem dX0_layPieces_25 : decode cX0_layPieces 25 = .ok (.invokestatic 23, 3) := by decide +kernel
theorem dX0_layPieces_28 : decode cX0_layPieces 28 = .ok (.istore 6, 2) := by decide +kernel
theorem dX0_layPieces_30 : decode cX0_layPieces 30 = .ok (.iload 6, 2) := by decide +kernel
theorem dX0_layPieces_32 : decode cX0_layPieces 32 = .ok (.invokestatic 35, 3) := by decide +kernel
theorem dX0_layPieces_35 : decode cX0_layPieces 35 = .ok (.istore 7, 2) := by decide +kernel
theorem dX0_layPieces_37 : decode cX0_layPieces 37 = .ok (.iload 6, 2) := by decide +kernel
theorem dX0_layPieces_39 : decode cX0_layPieces 39 = .ok (.bipush 58, 2) := by decide +kernel
theorem dX0_layPieces_41 : decode cX0_layPieces 41 = .ok (.if_icmp .ne 9, 3) := by decide +kernel
theorem dX0_layPieces_44 : decode cX0_layPieces 44 = .ok (.iload 4, 2) := by decide +kernel
theorem dX0_layPieces_46 : decode cX0_layPieces 46 = .ok (.istore_n 3, 1) := by decide +kernel
theorem dX0_layPieces_47 : decode cX0_layPieces 47 = .ok (.goto 58, 3) := by decide +kernel
theorem dX0_layPieces_50 : decode cX0_layPieces 50 = .ok (.iload 7, 2) := by decide +kernel
theorem dX0_layPieces_52 : decode cX0_layPieces 52 = .ok (.iconst (-1), 1) := by decide +kernel
theorem dX0_layPieces_53 : decode cX0_layPieces 53 = .ok (.if_icmp .eq 45, 3) := by decide +kernel
theorem dX0_layPieces_56 : decode cX0_layPieces 56 = .ok (.aload_n 1, 1) := by decide +kernel
theorem dX0_layPieces_57 : decode cX0_layPieces 57 = .ok (.getfield 39, 3) := by decide +kernel
theorem dX0_layPieces_60 : decode cX0_layPieces 60 = .ok (.iload_n 3, 1) := by decide +kernel
theorem dX0_layPieces_61 : decode cX0_layPieces 61 = .ok (.invokestatic 23, 3) := by decide +kernel
theorem dX0_layPieces_64 : decode cX0_layPieces 64 = .ok (.istore 8, 2) := by decide +kernel
theorem dX0_layPieces_66 : decode cX0_layPieces 66 = .ok (.aload_n 1, 1) := by decide +kernel
theorem dX0_layPieces_67 : decode cX0_layPieces 67 = .ok (.iload_n 3, 1) := by decide +kernel
theorem dX0_layPieces_68 : decode cX0_layPieces 68 = .ok (.iload 8, 2) := by decide +kernel
theorem dX0_layPieces_70 : decode cX0_layPieces 70 = .ok (.iload 4, 2) := by decide +kernel
theorem dX0_layPieces_72 : decode cX0_layPieces 72 = .ok (.iload 7, 2) := by decide +kernel
theorem dX0_layPieces_74 : decode cX0_layPieces 74 = .ok (.invokevirtual 44, 3) := by decide +kernel
theorem dX0_layPieces_77 : decode cX0_layPieces 77 = .ok (.ifCond .eq 5, 3) := by decide +kernel
theorem dX0_layPieces_80 : decode cX0_layPieces 80 = .ok (.iload_n 2, 1) := by decide +kernel
theorem dX0_layPieces_81 : decode cX0_layPieces 81 = .ok (.ireturn, 1) := by decide +kernel
theorem dX0_layPieces_82 : decode cX0_layPieces 82 = .ok (.aload_n 1, 1) := by decide +kernel
theorem dX0_layPieces_83 : decode cX0_layPieces 83 = .ok (.iload_n 3, 1) := by decide +kernel
theorem dX0_layPieces_84 : decode cX0_layPieces 84 = .ok (.iload 8, 2) := by decide +kernel
theorem dX0_layPieces_86 : decode cX0_layPieces 86 = .ok (.iload 7, 2) := by decide +kernel
theorem dX0_layPieces_88 : decode cX0_layPieces 88 = .ok (.invokevirtual 48, 3) := by decide +kernel
theorem dX0_layPieces_91 : decode cX0_layPieces 91 = .ok (.pop, 1) := by decide +kernel
theorem dX0_layPieces_92 : decode cX0_layPieces 92 = .ok (.iinc 2 1, 3) := by decide +kernel
theorem dX0_layPieces_95 : decode cX0_layPieces 95 = .ok (.goto 10, 3) := by decide +kernel
theorem dX0_layPieces_98 : decode cX0_layPieces 98 = .ok (.iload 6, 2) := by decide +kernel
theorem dX0_layPieces_100 : decode cX0_layPieces 100 = .ok (.bipush 48, 2) := by decide +kernel
theorem dX0_layPieces_102 : decode cX0_layPieces 102 = .ok (.isub, 1) := by decide +kernel
theorem dX0_layPieces_103 : decode cX0_layPieces 103 = .ok (.istore 4, 2) := by decide +kernel
theorem dX0_layPieces_105 : decode cX0_layPieces 105 = .ok (.iinc 5 1, 3) := by decide +kernel
theorem dX0_layPieces_108 : decode cX0_layPieces 108 = .ok (.goto (-98), 3) := by decide +kernel
theorem dX0_layPieces_111 : decode cX0_layPieces 111 = .ok (.iload_n 2, 1) := by decide +kernel
theorem dX0_layPieces_112 : decode cX0_layPieces 112 = .ok (.ireturn, 1) := by decide +kernel
set_option maxRecDepth 20000 in
theorem ggX1_init_J7_fill_53178 : GoodIn wsX1_init wsJ7_fill_53178 := goodIn_r _ [25] (by decide +kernel) (by decide +kernel)
set_option maxRecDepth 20000 in
theorem gX1_init_J7_fill_53178 : GoodIn wsX1_init (va_wsS RX1 56 yJ7_fill_53178 wsJ7_fill_53178) := goodIn_app (goodIn_of _ (by decide +kernel)) ggX1_init_J7_fill_53178
theorem dX1_init_0 : decode cX1_init 0 = .ok (.aload_n 0, 1) := by decide +kernel
theorem dX1_init_1 : decode cX1_init 1 = .ok (.invokespecial 3, 3) := by decide +kernel
theorem dX1_init_4 : decode cX1_init 4 = .ok (.aload_n 0, 1) := by decide +kernel
theorem dX1_init_5 : decode cX1_init 5 = .ok (.bipush 80, 2) := by decide +kernel
theorem dX1_init_7 : decode cX1_init 7 = .ok (.newarray .int, 2) := by decide +kernel
theorem dX1_init_9 : decode cX1_init 9 = .ok (.putfield 9, 3) := by decide +kernel
theorem dX1_init_12 : decode cX1_init 12 = .ok (.aload_n 0, 1) := by decide +kernel
theorem dX1_init_13 : decode cX1_init 13 = .ok (.bipush 80, 2) := by decide +kernel
theorem dX1_init_15 : decode cX1_init 15 = .ok (.newarray .int, 2) := by decide +kernel
theorem dX1_init_17 : decode cX1_init 17 = .ok (.putfield 15, 3) := by decide +kernel
theorem dX1_init_20 : decode cX1_init 20 = .ok (.aload_n 0, 1) := by decide +kernel
theorem dX1_init_21 : decode cX1_init 21 = .ok (.bipush 80, 2) := by decide +kernel
theorem dX1_init_23 : decode cX1_init 23 = .ok (.newarray .int, 2) := by decide +kernel
theorem dX1_init_25 : decode cX1_init 25 = .ok (.putfield 18, 3) := by decide +kernel
theorem dX1_init_28 : decode cX1_init 28 = .ok (.aload_n 0, 1) := by decide +kernel
theorem dX1_init_29 : decode cX1_init 29 = .ok (.bipush 12, 2) := by decide +kernel
theorem dX1_init_31 : decode cX1_init 31 = .ok (.newarray .int, 2) := by decide +kernel
theorem dX1_init_33 : decode cX1_init 33 = .ok (.putfield 21, 3) := by decide +kernel
theorem dX1_init_36 : decode cX1_init 36 = .ok (.aload_n 0, 1) := by decide +kernel
theorem dX1_init_37 : decode cX1_init 37 = .ok (.bipush 12, 2) := by decide +kernel
theorem dX1_init_39 : decode cX1_init 39 = .ok (.newarray .int, 2) := by decide +kernel
theorem dX1_init_41 : decode cX1_init 41 = .ok (.putfield 24, 3) := by decide +kernel
theorem dX1_init_44 : decode cX1_init 44 = .ok (.aload_n 0, 1) := by decide +kernel
theorem dX1_init_45 : decode cX1_init 45 = .ok (.iconst 4, 1) := by decide +kernel
theorem dX1_init_46 : decode cX1_init 46 = .ok (.newarray .int, 2) := by decide +kernel
theorem dX1_init_48 : decode cX1_init 48 = .ok (.putfield 27, 3) := by decide +kernel
theorem dX1_init_51 : decode cX1_init 51 = .ok (.aload_n 0, 1) := by decide +kernel
theorem dX1_init_52 : decode cX1_init 52 = .ok (.getstatic 30, 3) := by decide +kernel
theorem dX1_init_55 : decode cX1_init 55 = .ok (.invokevirtual 33, 3) := by decide +kernel
theorem dX1_init_58 : decode cX1_init 58 = .ok (.checkcast 34, 3) := by decide +kernel
theorem dX1_init_61 : decode cX1_init 61 = .ok (.putfield 38, 3) := by decide +kernel
theorem dX1_init_64 : decode cX1_init 64 = .ok (.aload_n 0, 1) := by decide +kernel
theorem dX1_init_65 : decode cX1_init 65 = .ok (.iconst 4, 1) := by decide +kernel
theorem dX1_init_66 : decode cX1_init 66 = .ok (.newarray .int, 2) := by decide +kernel
theorem dX1_init_68 : decode cX1_init 68 = .ok (.putfield 41, 3) := by decide +kernel
theorem dX1_init_71 : decode cX1_init 71 = .ok (.aload_n 0, 1) := by decide +kernel
theorem dX1_init_72 : decode cX1_init 72 = .ok (.iconst 4, 1) := by decide +kernel
theorem dX1_init_73 : decode cX1_init 73 = .ok (.newarray .int, 2) := by decide +kernel
theorem dX1_init_75 : decode cX1_init 75 = .ok (.putfield 44, 3) := by decide +kernel
theorem dX1_init_78 : decode cX1_init 78 = .ok (.aload_n 0, 1) := by decide +kernel
theorem dX1_init_79 : decode cX1_init 79 = .ok (.iconst 4, 1) := by decide +kernel
theorem dX1_init_80 : decode cX1_init 80 = .ok (.newarray .int, 2) := by decide +kernel
theorem dX1_init_82 : decode cX1_init 82 = .ok (.putfield 47, 3) := by decide +kernel
theorem dX1_init_85 : decode cX1_init 85 = .ok (.aload_n 0, 1) := by decide +kernel
theorem dX1_init_86 : decode cX1_init 86 = .ok (.getstatic 50, 3) := by decide +kernel
theorem dX1_init_89 : decode cX1_init 89 = .ok (.invokevirtual 33, 3) := by decide +kernel
theorem dX1_init_92 : decode cX1_init 92 = .ok (.checkcast 34, 3) := by decide +kernel
theorem dX1_init_95 : decode cX1_init 95 = .ok (.putfield 53, 3) := by decide +kernel
theorem dX1_init_98 : decode cX1_init 98 = .ok (.aload_n 0, 1) := by decide +kernel
theorem dX1_init_99 : decode cX1_init 99 = .ok (.getfield 18, 3) := by decide +kernel
theorem dX1_init_102 : decode cX1_init 102 = .ok (.iconst (-1), 1) := by decide +kernel
theorem dX1_init_103 : decode cX1_init 103 = .ok (.invokestatic 56, 3) := by decide +kernel
theorem dX1_init_106 : decode cX1_init 106 = .ok (.aload_n 0, 1) := by decide +kernel
theorem dX1_init_107 : decode cX1_init 107 = .ok (.getfield 21, 3) := by decide +kernel
theorem dX1_init_110 : decode cX1_init 110 = .ok (.iconst (-1), 1) := by decide +kernel
theorem dX1_init_111 : decode cX1_init 111 = .ok (.invokestatic 56, 3) := by decide +kernel
theorem dX1_init_114 : decode cX1_init 114 = .ok (.aload_n 0, 1) := by decide +kernel
theorem dX1_init_115 : decode cX1_init 115 = .ok (.getfield 24, 3) := by decide +kernel
theorem dX1_init_118 : decode cX1_init 118 = .ok (.iconst (-1), 1) := by decide +kernel
theorem dX1_init_119 : decode cX1_init 119 = .ok (.invokestatic 56, 3) := by decide +kernel
theorem dX1_init_122 : decode cX1_init 122 = .ok (.aload_n 0, 1) := by decide +kernel
theorem dX1_init_123 : decode cX1_init 123 = .ok (.getfield 27, 3) := by decide +kernel
theorem dX1_init_126 : decode cX1_init 126 = .ok (.bipush 20, 2) := by decide +kernel
theorem dX1_init_128 : decode cX1_init 128 = .ok (.invokestatic 56, 3) := by decide +kernel
theorem dX1_init_131 : decode cX1_init 131 = .ok (.aload_n 0, 1) := by decide +kernel
theorem dX1_init_132 : decode cX1_init 132 = .ok (.getfield 41, 3) := by decide +kernel
theorem dX1_init_135 : decode cX1_init 135 = .ok (.iconst (-1), 1) := by decide +kernel
theorem dX1_init_136 : decode cX1_init 136 = .ok (.invokestatic 56, 3) := by decide +kernel
theorem dX1_init_139 : decode cX1_init 139 = .ok (.iconst 0, 1) := by decide +kernel
theorem dX1_init_140 : decode cX1_init 140 = .ok (.istore_n 1, 1) := by decide +kernel
theorem dX1_init_141 : decode cX1_init 141 = .ok (.iload_n 1, 1) := by decide +kernel
theorem dX1_init_142 : decode cX1_init 142 = .ok (.getstatic 30, 3) := by decide +kernel
theorem dX1_init_145 : decode cX1_init 145 = .ok (.arraylength, 1) := by decide +kernel
theorem dX1_init_146 : decode cX1_init 146 = .ok (.if_icmp .ge 41, 3) := by decide +kernel
theorem dX1_init_149 : decode cX1_init 149 = .ok (.getstatic 30, 3) := by decide +kernel
theorem dX1_init_152 : decode cX1_init 152 = .ok (.iload_n 1, 1) := by decide +kernel
theorem dX1_init_153 : decode cX1_init 153 = .ok (.iaload, 1) := by decide +kernel
theorem dX1_init_154 : decode cX1_init 154 = .ok (.istore_n 2, 1) := by decide +kernel
theorem dX1_init_155 : decode cX1_init 155 = .ok (.iload_n 2, 1) := by decide +kernel
theorem dX1_init_156 : decode cX1_init 156 = .ok (.ifCond .lt 25, 3) := by decide +kernel
theorem dX1_init_159 : decode cX1_init 159 = .ok (.iload_n 2, 1) := by decide +kernel
theorem dX1_init_160 : decode cX1_init 160 = .ok (.bipush 80, 2) := by decide +kernel
theorem dX1_init_162 : decode cX1_init 162 = .ok (.if_icmp .ge 19, 3) := by decide +kernel
theorem dX1_init_165 : decode cX1_init 165 = .ok (.aload_n 0, 1) := by decide +kernel
theorem dX1_init_166 : decode cX1_init 166 = .ok (.getfield 15, 3) := by decide +kernel
theorem dX1_init_169 : decode cX1_init 169 = .ok (.iload_n 2, 1) := by decide +kernel
theorem dX1_init_170 : decode cX1_init 170 = .ok (.iconst 1, 1) := by decide +kernel
theorem dX1_init_171 : decode cX1_init 171 = .ok (.iload_n 1, 1) := by decide +kernel
theorem dX1_init_172 : decode cX1_init 172 = .ok (.ishl, 1) := by decide +kernel
theorem dX1_init_173 : decode cX1_init 173 = .ok (.iastore, 1) := by decide +kernel
theorem dX1_init_174 : decode cX1_init 174 = .ok (.aload_n 0, 1) := by decide +kernel
theorem dX1_init_175 : decode cX1_init 175 = .ok (.getfield 18, 3) := by decide +kernel
theorem dX1_init_178 : decode cX1_init 178 = .ok (.iload_n 2, 1) := by decide +kernel
theorem dX1_init_179 : decode cX1_init 179 = .ok (.iload_n 1, 1) := by decide +kernel
theorem dX1_init_180 : decode cX1_init 180 = .ok (.iastore, 1) := by decide +kernel
theorem dX1_init_181 : decode cX1_init 181 = .ok (.iinc 1 1, 3) := by decide +kernel
theorem dX1_init_184 : decode cX1_init 184 = .ok (.goto (-43), 3) := by decide +kernel
theorem dX1_init_187 : decode cX1_init 187 = .ok (.return_, 1) := by decide +kernel
set_option maxRecDepth 20000 in
theorem ggX1_copyFrom_X3_copyRow : GoodIn wsX1_copyFrom wsX3_copyRow := goodIn_r _ [15, 16, 17, 18, 19, 20, 21, 22, 23] (by decide +kernel) (by decide +kernel)
set_option maxRecDepth 20000 in
theorem gX1_copyFrom_X3_copyRow_n62 : GoodIn wsX1_copyFrom (wsX3_copyRow) := ggX1_copyFrom_X3_copyRow
theorem dX1_copyFrom_0 : decode cX1_copyFrom 0 = .ok (.aload_n 1, 1) := by decide +kernel
theorem dX1_copyFrom_1 : decode cX1_copyFrom 1 = .ok (.getfield 9, 3) := by decide +kernel
theorem dX1_copyFrom_4 : decode cX1_copyFrom 4 = .ok (.aload_n 0, 1) := by decide +kernel
theorem dX1_copyFrom_5 : decode cX1_copyFrom 5 = .ok (.getfield 9, 3) := by decide +kernel
theorem dX1_copyFrom_8 : decode cX1_copyFrom 8 = .ok (.invokestatic 62, 3) := by decide +kernel
theorem dX1_copyFrom_11 : decode cX1_copyFrom 11 = .ok (.aload_n 1, 1) := by decide +kernel
theorem dX1_copyFrom_12 : decode cX1_copyFrom 12 = .ok (.getfield 15, 3) := by decide +kernel
theorem dX1_copyFrom_15 : decode cX1_copyFrom 15 = .ok (.aload_n 0, 1) := by decide +kernel
theorem dX1_copyFrom_16 : decode cX1_copyFrom 16 = .ok (.getfield 15, 3) := by decide +kernel
theorem dX1_copyFrom_19 : decode cX1_copyFrom 19 = .ok (.invokestatic 62, 3) := by decide +kernel
theorem dX1_copyFrom_22 : decode cX1_copyFrom 22 = .ok (.aload_n 1, 1) := by decide +kernel
theorem dX1_copyFrom_23 : decode cX1_copyFrom 23 = .ok (.getfield 18, 3) := by decide +kernel
theorem dX1_copyFrom_26 : decode cX1_copyFrom 26 = .ok (.aload_n 0, 1) := by decide +kernel
theorem dX1_copyFrom_27 : decode cX1_copyFrom 27 = .ok (.getfield 18, 3) := by decide +kernel
theorem dX1_copyFrom_30 : decode cX1_copyFrom 30 = .ok (.invokestatic 62, 3) := by decide +kernel
theorem dX1_copyFrom_33 : decode cX1_copyFrom 33 = .ok (.aload_n 1, 1) := by decide +kernel
theorem dX1_copyFrom_34 : decode cX1_copyFrom 34 = .ok (.getfield 21, 3) := by decide +kernel
theorem dX1_copyFrom_37 : decode cX1_copyFrom 37 = .ok (.aload_n 0, 1) := by decide +kernel
theorem dX1_copyFrom_38 : decode cX1_copyFrom 38 = .ok (.getfield 21, 3) := by decide +kernel
theorem dX1_copyFrom_41 : decode cX1_copyFrom 41 = .ok (.invokestatic 62, 3) := by decide +kernel
theorem dX1_copyFrom_44 : decode cX1_copyFrom 44 = .ok (.aload_n 1, 1) := by decide +kernel
theorem dX1_copyFrom_45 : decode cX1_copyFrom 45 = .ok (.getfield 24, 3) := by decide +kernel
theorem dX1_copyFrom_48 : decode cX1_copyFrom 48 = .ok (.aload_n 0, 1) := by decide +kernel
theorem dX1_copyFrom_49 : decode cX1_copyFrom 49 = .ok (.getfield 24, 3) := by decide +kernel
theorem dX1_copyFrom_52 : decode cX1_copyFrom 52 = .ok (.invokestatic 62, 3) := by decide +kernel
theorem dX1_copyFrom_55 : decode cX1_copyFrom 55 = .ok (.aload_n 1, 1) := by decide +kernel
theorem dX1_copyFrom_56 : decode cX1_copyFrom 56 = .ok (.getfield 27, 3) := by decide +kernel
theorem dX1_copyFrom_59 : decode cX1_copyFrom 59 = .ok (.aload_n 0, 1) := by decide +kernel
theorem dX1_copyFrom_60 : decode cX1_copyFrom 60 = .ok (.getfield 27, 3) := by decide +kernel
theorem dX1_copyFrom_63 : decode cX1_copyFrom 63 = .ok (.invokestatic 62, 3) := by decide +kernel
theorem dX1_copyFrom_66 : decode cX1_copyFrom 66 = .ok (.aload_n 1, 1) := by decide +kernel
theorem dX1_copyFrom_67 : decode cX1_copyFrom 67 = .ok (.getfield 38, 3) := by decide +kernel
theorem dX1_copyFrom_70 : decode cX1_copyFrom 70 = .ok (.aload_n 0, 1) := by decide +kernel
theorem dX1_copyFrom_71 : decode cX1_copyFrom 71 = .ok (.getfield 38, 3) := by decide +kernel
theorem dX1_copyFrom_74 : decode cX1_copyFrom 74 = .ok (.invokestatic 62, 3) := by decide +kernel
theorem dX1_copyFrom_77 : decode cX1_copyFrom 77 = .ok (.aload_n 1, 1) := by decide +kernel
theorem dX1_copyFrom_78 : decode cX1_copyFrom 78 = .ok (.getfield 41, 3) := by decide +kernel
theorem dX1_copyFrom_81 : decode cX1_copyFrom 81 = .ok (.aload_n 0, 1) := by decide +kernel
theorem dX1_copyFrom_82 : decode cX1_copyFrom 82 = .ok (.getfield 41, 3) := by decide +kernel
theorem dX1_copyFrom_85 : decode cX1_copyFrom 85 = .ok (.invokestatic 62, 3) := by decide +kernel
theorem dX1_copyFrom_88 : decode cX1_copyFrom 88 = .ok (.aload_n 1, 1) := by decide +kernel
theorem dX1_copyFrom_89 : decode cX1_copyFrom 89 = .ok (.getfield 44, 3) := by decide +kernel
theorem dX1_copyFrom_92 : decode cX1_copyFrom 92 = .ok (.aload_n 0, 1) := by decide +kernel
theorem dX1_copyFrom_93 : decode cX1_copyFrom 93 = .ok (.getfield 44, 3) := by decide +kernel
theorem dX1_copyFrom_96 : decode cX1_copyFrom 96 = .ok (.invokestatic 62, 3) := by decide +kernel
theorem dX1_copyFrom_99 : decode cX1_copyFrom 99 = .ok (.aload_n 1, 1) := by decide +kernel
theorem dX1_copyFrom_100 : decode cX1_copyFrom 100 = .ok (.getfield 47, 3) := by decide +kernel
theorem dX1_copyFrom_103 : decode cX1_copyFrom 103 = .ok (.aload_n 0, 1) := by decide +kernel
theorem dX1_copyFrom_104 : decode cX1_copyFrom 104 = .ok (.getfield 47, 3) := by decide +kernel
theorem dX1_copyFrom_107 : decode cX1_copyFrom 107 = .ok (.invokestatic 62, 3) := by decide +kernel
theorem dX1_copyFrom_110 : decode cX1_copyFrom 110 = .ok (.aload_n 1, 1) := by decide +kernel
theorem dX1_copyFrom_111 : decode cX1_copyFrom 111 = .ok (.getfield 53, 3) := by decide +kernel
theorem dX1_copyFrom_114 : decode cX1_copyFrom 114 = .ok (.aload_n 0, 1) := by decide +kernel
theorem dX1_copyFrom_115 : decode cX1_copyFrom 115 = .ok (.getfield 53, 3) := by decide +kernel
theorem dX1_copyFrom_118 : decode cX1_copyFrom 118 = .ok (.invokestatic 62, 3) := by decide +kernel
theorem dX1_copyFrom_121 : decode cX1_copyFrom 121 = .ok (.aload_n 0, 1) := by decide +kernel
theorem dX1_copyFrom_122 : decode cX1_copyFrom 122 = .ok (.aload_n 1, 1) := by decide +kernel
theorem dX1_copyFrom_123 : decode cX1_copyFrom 123 = .ok (.getfield 66, 3) := by decide +kernel
theorem dX1_copyFrom_126 : decode cX1_copyFrom 126 = .ok (.putfield 66, 3) := by decide +kernel
theorem dX1_copyFrom_129 : decode cX1_copyFrom 129 = .ok (.return_, 1) := by decide +kernel
set_option maxRecDepth 20000 in
theorem ggX1_hasTrack_X3_at : GoodIn wsX1_hasTrack wsX3_at := goodIn_r _ [4] (by decide +kernel) (by decide +kernel)
set_option maxRecDepth 20000 in
theorem gX1_hasTrack_X3_at_n70 : GoodIn wsX1_hasTrack (wsX3_at) := ggX1_hasTrack_X3_at
theorem dX1_hasTrack_0 : decode cX1_hasTrack 0 = .ok (.aload_n 0, 1) := by decide +kernel
theorem dX1_hasTrack_1 : decode cX1_hasTrack 1 = .ok (.getfield 15, 3) := by decide +kernel
theorem dX1_hasTrack_4 : decode cX1_hasTrack 4 = .ok (.iload_n 2, 1) := by decide +kernel
theorem dX1_hasTrack_5 : decode cX1_hasTrack 5 = .ok (.invokestatic 70, 3) := by decide +kernel
theorem dX1_hasTrack_8 : decode cX1_hasTrack 8 = .ok (.iconst 1, 1) := by decide +kernel
theorem dX1_hasTrack_9 : decode cX1_hasTrack 9 = .ok (.iload_n 1, 1) := by decide +kernel
theorem dX1_hasTrack_10 : decode cX1_hasTrack 10 = .ok (.ishl, 1) := by decide +kernel
theorem dX1_hasTrack_11 : decode cX1_hasTrack 11 = .ok (.iand, 1) := by decide +kernel
theorem dX1_hasTrack_12 : decode cX1_hasTrack 12 = .ok (.ifCond .eq 7, 3) := by decide +kernel
theorem dX1_hasTrack_15 : decode cX1_hasTrack 15 = .ok (.iconst 1, 1) := by decide +kernel
theorem dX1_hasTrack_16 : decode cX1_hasTrack 16 = .ok (.goto 4, 3) := by decide +kernel
theorem dX1_hasTrack_19 : decode cX1_hasTrack 19 = .ok (.iconst 0, 1) := by decide +kernel
theorem dX1_hasTrack_20 : decode cX1_hasTrack 20 = .ok (.ireturn, 1) := by decide +kernel
set_option maxRecDepth 20000 in
theorem ggX1_tracksOn_X3_at : GoodIn wsX1_tracksOn wsX3_at := goodIn_r _ [4] (by decide +kernel) (by decide +kernel)
set_option maxRecDepth 20000 in
theorem gX1_tracksOn_X3_at_n70 : GoodIn wsX1_tracksOn (wsX3_at) := ggX1_tracksOn_X3_at
set_option maxRecDepth 20000 in
theorem ggX1_tracksOn_J6_bitCount_0f7a4 : GoodIn wsX1_tracksOn wsJ6_bitCount_0f7a4 := goodIn_r _ [8, 9, 10, 11] (by decide +kernel) (by decide +kernel)
set_option maxRecDepth 20000 in
theorem gX1_tracksOn_J6_bitCount_0f7a4 : GoodIn wsX1_tracksOn (va_wsS RX1 74 yJ6_bitCount_0f7a4 wsJ6_bitCount_0f7a4) := goodIn_app (goodIn_of _ (by decide +kernel)) ggX1_tracksOn_J6_bitCount_0f7a4
theorem dX1_tracksOn_0 : decode cX1_tracksOn 0 = .ok (.aload_n 0, 1) := by decide +kernel
theorem dX1_tracksOn_1 : decode cX1_tracksOn 1 = .ok (.getfield 15, 3) := by decide +kernel
theorem dX1_tracksOn_4 : decode cX1_tracksOn 4 = .ok (.iload_n 1, 1) := by decide +kernel
theorem dX1_tracksOn_5 : decode cX1_tracksOn 5 = .ok (.invokestatic 70, 3) := by decide +kernel
theorem dX1_tracksOn_8 : decode cX1_tracksOn 8 = .ok (.invokestatic 74, 3) := by decide +kernel
theorem dX1_tracksOn_11 : decode cX1_tracksOn 11 = .ok (.ireturn, 1) := by decide +kernel
set_option maxRecDepth 20000 in
theorem ggX1_tollOn_X3_at : GoodIn wsX1_tollOn wsX3_at := goodIn_r _ [5] (by decide +kernel) (by decide +kernel)

