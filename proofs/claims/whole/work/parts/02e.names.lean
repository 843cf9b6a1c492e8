theorem dX4_append_51 : decode cX4_append 51 = .ok (.iastore, 1) := by decide +kernel
theorem dX4_append_52 : decode cX4_append 52 = .ok (.aload_n 0, 1) := by decide +kernel
theorem dX4_append_53 : decode cX4_append 53 = .ok (.dup, 1) := by decide +kernel
theorem dX4_append_54 : decode cX4_append 54 = .ok (.getfield 101, 3) := by decide +kernel
theorem dX4_append_57 : decode cX4_append 57 = .ok (.iconst 1, 1) := by decide +kernel
theorem dX4_append_58 : decode cX4_append 58 = .ok (.iadd, 1) := by decide +kernel
theorem dX4_append_59 : decode cX4_append 59 = .ok (.putfield 101, 3) := by decide +kernel
theorem dX4_append_62 : decode cX4_append 62 = .ok (.aload_n 0, 1) := by decide +kernel
theorem dX4_append_63 : decode cX4_append 63 = .ok (.getfield 101, 3) := by decide +kernel
theorem dX4_append_66 : decode cX4_append 66 = .ok (.ireturn, 1) := by decide +kernel
theorem dX4_clearBuffer_0 : decode cX4_clearBuffer 0 = .ok (.aload_n 0, 1) := by decide +kernel
theorem dX4_clearBuffer_1 : decode cX4_clearBuffer 1 = .ok (.iconst 0, 1) := by decide +kernel
theorem dX4_clearBuffer_2 : decode cX4_clearBuffer 2 = .ok (.putfield 29, 3) := by decide +kernel
theorem dX4_clearBuffer_5 : decode cX4_clearBuffer 5 = .ok (.aload_n 0, 1) := by decide +kernel
theorem dX4_clearBuffer_6 : decode cX4_clearBuffer 6 = .ok (.getfield 101, 3) := by decide +kernel
theorem dX4_clearBuffer_9 : decode cX4_clearBuffer 9 = .ok (.istore_n 1, 1) := by decide +kernel
theorem dX4_clearBuffer_10 : decode cX4_clearBuffer 10 = .ok (.aload_n 0, 1) := by decide +kernel
theorem dX4_clearBuffer_11 : decode cX4_clearBuffer 11 = .ok (.iconst 0, 1) := by decide +kernel
theorem dX4_clearBuffer_12 : decode cX4_clearBuffer 12 = .ok (.putfield 101, 3) := by decide +kernel
theorem dX4_clearBuffer_15 : decode cX4_clearBuffer 15 = .ok (.iload_n 1, 1) := by decide +kernel
theorem dX4_clearBuffer_16 : decode cX4_clearBuffer 16 = .ok (.ireturn, 1) := by decide +kernel
theorem dX4_directionOf_0 : decode cX4_directionOf 0 = .ok (.iload_n 0, 1) := by decide +kernel
theorem dX4_directionOf_1 : decode cX4_directionOf 1 = .ok (.bipush 110, 2) := by decide +kernel
theorem dX4_directionOf_3 : decode cX4_directionOf 3 = .ok (.if_icmp .ne 7, 3) := by decide +kernel
theorem dX4_directionOf_6 : decode cX4_directionOf 6 = .ok (.iconst 0, 1) := by decide +kernel
theorem dX4_directionOf_7 : decode cX4_directionOf 7 = .ok (.goto 34, 3) := by decide +kernel
theorem dX4_directionOf_10 : decode cX4_directionOf 10 = .ok (.iload_n 0, 1) := by decide +kernel
theorem dX4_directionOf_11 : decode cX4_directionOf 11 = .ok (.bipush 101, 2) := by decide +kernel
theorem dX4_directionOf_13 : decode cX4_directionOf 13 = .ok (.if_icmp .ne 7, 3) := by decide +kernel
theorem dX4_directionOf_16 : decode cX4_directionOf 16 = .ok (.iconst 1, 1) := by decide +kernel
theorem dX4_directionOf_17 : decode cX4_directionOf 17 = .ok (.goto 24, 3) := by decide +kernel
theorem dX4_directionOf_20 : decode cX4_directionOf 20 = .ok (.iload_n 0, 1) := by decide +kernel
theorem dX4_directionOf_21 : decode cX4_directionOf 21 = .ok (.bipush 115, 2) := by decide +kernel
theorem dX4_directionOf_23 : decode cX4_directionOf 23 = .ok (.if_icmp .ne 7, 3) := by decide +kernel
theorem dX4_directionOf_26 : decode cX4_directionOf 26 = .ok (.iconst 2, 1) := by decide +kernel
theorem dX4_directionOf_27 : decode cX4_directionOf 27 = .ok (.goto 14, 3) := by decide +kernel
theorem dX4_directionOf_30 : decode cX4_directionOf 30 = .ok (.iload_n 0, 1) := by decide +kernel
theorem dX4_directionOf_31 : decode cX4_directionOf 31 = .ok (.bipush 119, 2) := by decide +kernel
theorem dX4_directionOf_33 : decode cX4_directionOf 33 = .ok (.if_icmp .ne 7, 3) := by decide +kernel
theorem dX4_directionOf_36 : decode cX4_directionOf 36 = .ok (.iconst 3, 1) := by decide +kernel
theorem dX4_directionOf_37 : decode cX4_directionOf 37 = .ok (.goto 4, 3) := by decide +kernel
theorem dX4_directionOf_40 : decode cX4_directionOf 40 = .ok (.iconst (-1), 1) := by decide +kernel
theorem dX4_directionOf_41 : decode cX4_directionOf 41 = .ok (.ireturn, 1) := by decide +kernel
theorem dX4_goesTo_0 : decode cX4_goesTo 0 = .ok (.aload_n 0, 1) := by decide +kernel
theorem dX4_goesTo_1 : decode cX4_goesTo 1 = .ok (.iload_n 2, 1) := by decide +kernel
theorem dX4_goesTo_2 : decode cX4_goesTo 2 = .ok (.putfield 104, 3) := by decide +kernel
theorem dX4_goesTo_5 : decode cX4_goesTo 5 = .ok (.iload_n 1, 1) := by decide +kernel
theorem dX4_goesTo_6 : decode cX4_goesTo 6 = .ok (.ireturn, 1) := by decide +kernel
set_option maxRecDepth 20000 in
theorem ggX4_stands_X4_isPlayer : GoodIn wsX4_stands wsX4_isPlayer := goodIn_r _ [8, 9, 10, 7, 11] (by decide +kernel) (by decide +kernel)
set_option maxRecDepth 20000 in
theorem gX4_stands_X4_isPlayer : GoodIn wsX4_stands (va_wsS RX4 57 yX4_isPlayer wsX4_isPlayer) := goodIn_app (goodIn_of _ (by decide +kernel)) ggX4_stands_X4_isPlayer
set_option maxRecDepth 20000 in
theorem ggX4_stands_X4_goesTo : GoodIn wsX4_stands wsX4_goesTo := goodIn_r _ [15, 1, 19, 20, 21, 22, 23, 24, 25, 26, 27, 28, 29, 30, 31] (by decide +kernel) (by decide +kernel)
set_option maxRecDepth 20000 in
theorem gX4_stands_X4_goesTo : GoodIn wsX4_stands (wsV RX4 110 RX4 yX4_goesTo wsX4_goesTo) := goodIn_app (goodIn_of _ (by decide +kernel)) ggX4_stands_X4_goesTo
set_option maxRecDepth 20000 in
theorem ggX4_stands_X4_directionOf : GoodIn wsX4_stands wsX4_directionOf := goodIn_r _ [18] (by decide +kernel) (by decide +kernel)
set_option maxRecDepth 20000 in
theorem gX4_stands_X4_directionOf : GoodIn wsX4_stands (va_wsS RX4 117 yX4_directionOf wsX4_directionOf) := goodIn_app (goodIn_of _ (by decide +kernel)) ggX4_stands_X4_directionOf
set_option maxRecDepth 20000 in
theorem ggX4_stands_X4_in : GoodIn wsX4_stands wsX4_in := goodIn_r _ [11] (by decide +kernel) (by decide +kernel)
set_option maxRecDepth 20000 in
theorem gX4_stands_X4_in : GoodIn wsX4_stands (va_wsS RX4 33 yX4_in wsX4_in) := goodIn_app (goodIn_of _ (by decide +kernel)) ggX4_stands_X4_in
theorem dX4_stands_0 : decode cX4_stands 0 = .ok (.aload_n 0, 1) := by decide +kernel
theorem dX4_stands_1 : decode cX4_stands 1 = .ok (.getfield 104, 3) := by decide +kernel
theorem dX4_stands_4 : decode cX4_stands 4 = .ok (.tableswitch 116 0 3 #[32, 53, 116, 70], 32) := by decide +kernel
theorem dX4_stands_36 : decode cX4_stands 36 = .ok (.aload_n 0, 1) := by decide +kernel
theorem dX4_stands_37 : decode cX4_stands 37 = .ok (.iload_n 1, 1) := by decide +kernel
theorem dX4_stands_38 : decode cX4_stands 38 = .ok (.bipush 48, 2) := by decide +kernel
theorem dX4_stands_40 : decode cX4_stands 40 = .ok (.isub, 1) := by decide +kernel
theorem dX4_stands_41 : decode cX4_stands 41 = .ok (.putfield 107, 3) := by decide +kernel
theorem dX4_stands_44 : decode cX4_stands 44 = .ok (.aload_n 0, 1) := by decide +kernel
theorem dX4_stands_45 : decode cX4_stands 45 = .ok (.aload_n 0, 1) := by decide +kernel
theorem dX4_stands_46 : decode cX4_stands 46 = .ok (.getfield 107, 3) := by decide +kernel
theorem dX4_stands_49 : decode cX4_stands 49 = .ok (.invokestatic 57, 3) := by decide +kernel
theorem dX4_stands_52 : decode cX4_stands 52 = .ok (.iconst 1, 1) := by decide +kernel
theorem dX4_stands_53 : decode cX4_stands 53 = .ok (.invokevirtual 110, 3) := by decide +kernel
theorem dX4_stands_56 : decode cX4_stands 56 = .ok (.ireturn, 1) := by decide +kernel
theorem dX4_stands_57 : decode cX4_stands 57 = .ok (.aload_n 0, 1) := by decide +kernel
theorem dX4_stands_58 : decode cX4_stands 58 = .ok (.iload_n 1, 1) := by decide +kernel
theorem dX4_stands_59 : decode cX4_stands 59 = .ok (.bipush 58, 2) := by decide +kernel
theorem dX4_stands_61 : decode cX4_stands 61 = .ok (.if_icmp .ne 7, 3) := by decide +kernel
theorem dX4_stands_64 : decode cX4_stands 64 = .ok (.iconst 1, 1) := by decide +kernel
theorem dX4_stands_65 : decode cX4_stands 65 = .ok (.goto 4, 3) := by decide +kernel
theorem dX4_stands_68 : decode cX4_stands 68 = .ok (.iconst 0, 1) := by decide +kernel
theorem dX4_stands_69 : decode cX4_stands 69 = .ok (.iconst 2, 1) := by decide +kernel
theorem dX4_stands_70 : decode cX4_stands 70 = .ok (.invokevirtual 110, 3) := by decide +kernel
theorem dX4_stands_73 : decode cX4_stands 73 = .ok (.ireturn, 1) := by decide +kernel
theorem dX4_stands_74 : decode cX4_stands 74 = .ok (.aload_n 0, 1) := by decide +kernel
theorem dX4_stands_75 : decode cX4_stands 75 = .ok (.getfield 19, 3) := by decide +kernel
theorem dX4_stands_78 : decode cX4_stands 78 = .ok (.iconst 3, 1) := by decide +kernel
theorem dX4_stands_79 : decode cX4_stands 79 = .ok (.aload_n 0, 1) := by decide +kernel
theorem dX4_stands_80 : decode cX4_stands 80 = .ok (.getfield 114, 3) := by decide +kernel
theorem dX4_stands_83 : decode cX4_stands 83 = .ok (.imul, 1) := by decide +kernel
theorem dX4_stands_84 : decode cX4_stands 84 = .ok (.iconst 2, 1) := by decide +kernel
theorem dX4_stands_85 : decode cX4_stands 85 = .ok (.iadd, 1) := by decide +kernel
theorem dX4_stands_86 : decode cX4_stands 86 = .ok (.iload_n 1, 1) := by decide +kernel
theorem dX4_stands_87 : decode cX4_stands 87 = .ok (.invokestatic 117, 3) := by decide +kernel
theorem dX4_stands_90 : decode cX4_stands 90 = .ok (.iastore, 1) := by decide +kernel
theorem dX4_stands_91 : decode cX4_stands 91 = .ok (.aload_n 0, 1) := by decide +kernel
theorem dX4_stands_92 : decode cX4_stands 92 = .ok (.dup, 1) := by decide +kernel
theorem dX4_stands_93 : decode cX4_stands 93 = .ok (.getfield 114, 3) := by decide +kernel
theorem dX4_stands_96 : decode cX4_stands 96 = .ok (.iconst 1, 1) := by decide +kernel
theorem dX4_stands_97 : decode cX4_stands 97 = .ok (.iadd, 1) := by decide +kernel
theorem dX4_stands_98 : decode cX4_stands 98 = .ok (.putfield 114, 3) := by decide +kernel
theorem dX4_stands_101 : decode cX4_stands 101 = .ok (.aload_n 0, 1) := by decide +kernel
theorem dX4_stands_102 : decode cX4_stands 102 = .ok (.iload_n 1, 1) := by decide +kernel
theorem dX4_stands_103 : decode cX4_stands 103 = .ok (.invokestatic 117, 3) := by decide +kernel
theorem dX4_stands_106 : decode cX4_stands 106 = .ok (.iconst (-1), 1) := by decide +kernel
theorem dX4_stands_107 : decode cX4_stands 107 = .ok (.if_icmp .eq 7, 3) := by decide +kernel
theorem dX4_stands_110 : decode cX4_stands 110 = .ok (.iconst 1, 1) := by decide +kernel
theorem dX4_stands_111 : decode cX4_stands 111 = .ok (.goto 4, 3) := by decide +kernel
theorem dX4_stands_114 : decode cX4_stands 114 = .ok (.iconst 0, 1) := by decide +kernel
theorem dX4_stands_115 : decode cX4_stands 115 = .ok (.iconst 4, 1) := by decide +kernel
theorem dX4_stands_116 : decode cX4_stands 116 = .ok (.invokevirtual 110, 3) := by decide +kernel
theorem dX4_stands_119 : decode cX4_stands 119 = .ok (.ireturn, 1) := by decide +kernel
theorem dX4_stands_120 : decode cX4_stands 120 = .ok (.aload_n 0, 1) := by decide +kernel
theorem dX4_stands_121 : decode cX4_stands 121 = .ok (.getfield 104, 3) := by decide +kernel
theorem dX4_stands_124 : decode cX4_stands 124 = .ok (.iconst 4, 1) := by decide +kernel
theorem dX4_stands_125 : decode cX4_stands 125 = .ok (.if_icmp .ne 16, 3) := by decide +kernel
theorem dX4_stands_128 : decode cX4_stands 128 = .ok (.iload_n 1, 1) := by decide +kernel
theorem dX4_stands_129 : decode cX4_stands 129 = .ok (.bipush 59, 2) := by decide +kernel
theorem dX4_stands_131 : decode cX4_stands 131 = .ok (.if_icmp .ne 10, 3) := by decide +kernel
theorem dX4_stands_134 : decode cX4_stands 134 = .ok (.aload_n 0, 1) := by decide +kernel
theorem dX4_stands_135 : decode cX4_stands 135 = .ok (.iconst 1, 1) := by decide +kernel
theorem dX4_stands_136 : decode cX4_stands 136 = .ok (.iconst 0, 1) := by decide +kernel
theorem dX4_stands_137 : decode cX4_stands 137 = .ok (.invokevirtual 110, 3) := by decide +kernel
theorem dX4_stands_140 : decode cX4_stands 140 = .ok (.ireturn, 1) := by decide +kernel
theorem dX4_stands_141 : decode cX4_stands 141 = .ok (.aload_n 0, 1) := by decide +kernel
theorem dX4_stands_142 : decode cX4_stands 142 = .ok (.getfield 19, 3) := by decide +kernel
theorem dX4_stands_145 : decode cX4_stands 145 = .ok (.iconst 3, 1) := by decide +kernel
theorem dX4_stands_146 : decode cX4_stands 146 = .ok (.aload_n 0, 1) := by decide +kernel
theorem dX4_stands_147 : decode cX4_stands 147 = .ok (.getfield 114, 3) := by decide +kernel
theorem dX4_stands_150 : decode cX4_stands 150 = .ok (.imul, 1) := by decide +kernel
theorem dX4_stands_151 : decode cX4_stands 151 = .ok (.aload_n 0, 1) := by decide +kernel
theorem dX4_stands_152 : decode cX4_stands 152 = .ok (.getfield 107, 3) := by decide +kernel
theorem dX4_stands_155 : decode cX4_stands 155 = .ok (.iastore, 1) := by decide +kernel
theorem dX4_stands_156 : decode cX4_stands 156 = .ok (.aload_n 0, 1) := by decide +kernel
theorem dX4_stands_157 : decode cX4_stands 157 = .ok (.getfield 19, 3) := by decide +kernel
theorem dX4_stands_160 : decode cX4_stands 160 = .ok (.iconst 3, 1) := by decide +kernel
theorem dX4_stands_161 : decode cX4_stands 161 = .ok (.aload_n 0, 1) := by decide +kernel
theorem dX4_stands_162 : decode cX4_stands 162 = .ok (.getfield 114, 3) := by decide +kernel
theorem dX4_stands_165 : decode cX4_stands 165 = .ok (.imul, 1) := by decide +kernel
theorem dX4_stands_166 : decode cX4_stands 166 = .ok (.iconst 1, 1) := by decide +kernel
theorem dX4_stands_167 : decode cX4_stands 167 = .ok (.iadd, 1) := by decide +kernel
theorem dX4_stands_168 : decode cX4_stands 168 = .ok (.iload_n 1, 1) := by decide +kernel
theorem dX4_stands_169 : decode cX4_stands 169 = .ok (.bipush 48, 2) := by decide +kernel
theorem dX4_stands_171 : decode cX4_stands 171 = .ok (.isub, 1) := by decide +kernel
theorem dX4_stands_172 : decode cX4_stands 172 = .ok (.iastore, 1) := by decide +kernel
theorem dX4_stands_173 : decode cX4_stands 173 = .ok (.aload_n 0, 1) := by decide +kernel
theorem dX4_stands_174 : decode cX4_stands 174 = .ok (.iload_n 1, 1) := by decide +kernel
theorem dX4_stands_175 : decode cX4_stands 175 = .ok (.bipush 49, 2) := by decide +kernel
theorem dX4_stands_177 : decode cX4_stands 177 = .ok (.bipush 54, 2) := by decide +kernel
theorem dX4_stands_179 : decode cX4_stands 179 = .ok (.invokestatic 33, 3) := by decide +kernel
theorem dX4_stands_182 : decode cX4_stands 182 = .ok (.iconst 3, 1) := by decide +kernel
theorem dX4_stands_183 : decode cX4_stands 183 = .ok (.invokevirtual 110, 3) := by decide +kernel
theorem dX4_stands_186 : decode cX4_stands 186 = .ok (.ireturn, 1) := by decide +kernel
set_option maxRecDepth 20000 in
theorem ggX4_readBuffer_X4_stands : GoodIn wsX4_readBuffer wsX4_stands := goodIn_r _ [9, 2, 10, 11, 1, 12, 13, 8, 14, 15, 16, 17, 18, 19, 20, 21, 22, 23, 24, 25, 26, 27, 28, 29, 30, 31, 32, 33, 34, 35, 36, 37] (by decide +kernel) (by decide +kernel)
set_option maxRecDepth 20000 in
theorem gX4_readBuffer_X4_stands : GoodIn wsX4_readBuffer (wsV RX4 120 RX4 yX4_stands wsX4_stands) := goodIn_app (goodIn_of _ (by decide +kernel)) ggX4_readBuffer_X4_stands
theorem dX4_readBuffer_0 : decode cX4_readBuffer 0 = .ok (.aload_n 0, 1) := by decide +kernel
theorem dX4_readBuffer_1 : decode cX4_readBuffer 1 = .ok (.iconst 0, 1) := by decide +kernel
theorem dX4_readBuffer_2 : decode cX4_readBuffer 2 = .ok (.putfield 114, 3) := by decide +kernel
theorem dX4_readBuffer_5 : decode cX4_readBuffer 5 = .ok (.aload_n 0, 1) := by decide +kernel
theorem dX4_readBuffer_6 : decode cX4_readBuffer 6 = .ok (.iconst 0, 1) := by decide +kernel
theorem dX4_readBuffer_7 : decode cX4_readBuffer 7 = .ok (.putfield 104, 3) := by decide +kernel
theorem dX4_readBuffer_10 : decode cX4_readBuffer 10 = .ok (.iconst 0, 1) := by decide +kernel
theorem dX4_readBuffer_11 : decode cX4_readBuffer 11 = .ok (.istore_n 1, 1) := by decide +kernel
theorem dX4_readBuffer_12 : decode cX4_readBuffer 12 = .ok (.iload_n 1, 1) := by decide +kernel
theorem dX4_readBuffer_13 : decode cX4_readBuffer 13 = .ok (.aload_n 0, 1) := by decide +kernel
theorem dX4_readBuffer_14 : decode cX4_readBuffer 14 = .ok (.getfield 101, 3) := by decide +kernel
theorem dX4_readBuffer_17 : decode cX4_readBuffer 17 = .ok (.if_icmp .ge 24, 3) := by decide +kernel
theorem dX4_readBuffer_20 : decode cX4_readBuffer 20 = .ok (.aload_n 0, 1) := by decide +kernel
theorem dX4_readBuffer_21 : decode cX4_readBuffer 21 = .ok (.aload_n 0, 1) := by decide +kernel
theorem dX4_readBuffer_22 : decode cX4_readBuffer 22 = .ok (.getfield 16, 3) := by decide +kernel
theorem dX4_readBuffer_25 : decode cX4_readBuffer 25 = .ok (.iload_n 1, 1) := by decide +kernel
theorem dX4_readBuffer_26 : decode cX4_readBuffer 26 = .ok (.iaload, 1) := by decide +kernel
theorem dX4_readBuffer_27 : decode cX4_readBuffer 27 = .ok (.invokevirtual 120, 3) := by decide +kernel
theorem dX4_readBuffer_30 : decode cX4_readBuffer 30 = .ok (.ifCond .ne 5, 3) := by decide +kernel
theorem dX4_readBuffer_33 : decode cX4_readBuffer 33 = .ok (.iload_n 1, 1) := by decide +kernel
theorem dX4_readBuffer_34 : decode cX4_readBuffer 34 = .ok (.ireturn, 1) := by decide +kernel
theorem dX4_readBuffer_35 : decode cX4_readBuffer 35 = .ok (.iinc 1 1, 3) := by decide +kernel
theorem dX4_readBuffer_38 : decode cX4_readBuffer 38 = .ok (.goto (-26), 3) := by decide +kernel
theorem dX4_readBuffer_41 : decode cX4_readBuffer 41 = .ok (.aload_n 0, 1) := by decide +kernel
theorem dX4_readBuffer_42 : decode cX4_readBuffer 42 = .ok (.getfield 101, 3) := by decide +kernel
theorem dX4_readBuffer_45 : decode cX4_readBuffer 45 = .ok (.ireturn, 1) := by decide +kernel
set_option maxRecDepth 20000 in
theorem ggX4_firstError_X4_readBuffer : GoodIn wsX4_firstError wsX4_readBuffer := goodIn_r _ [6, 7, 8, 9, 10, 11, 12, 13, 5, 14, 15, 16, 17, 18, 19, 20, 21, 22, 23, 24, 25, 26, 27, 28, 29, 30, 31, 32, 33, 34, 35, 36, 37, 38, 39, 40, 41, 42] (by decide +kernel) (by decide +kernel)
set_option maxRecDepth 20000 in
theorem gX4_firstError_X4_readBuffer : GoodIn wsX4_firstError (wsV RX4 123 RX4 yX4_readBuffer wsX4_readBuffer) := goodIn_app (goodIn_of _ (by decide +kernel)) ggX4_firstError_X4_readBuffer
theorem dX4_firstError_0 : decode cX4_firstError 0 = .ok (.aload_n 0, 1) := by decide +kernel
theorem dX4_firstError_1 : decode cX4_firstError 1 = .ok (.iconst 0, 1) := by decide +kernel
theorem dX4_firstError_2 : decode cX4_firstError 2 = .ok (.putfield 29, 3) := by decide +kernel
theorem dX4_firstError_5 : decode cX4_firstError 5 = .ok (.aload_n 0, 1) := by decide +kernel
theorem dX4_firstError_6 : decode cX4_firstError 6 = .ok (.invokevirtual 123, 3) := by decide +kernel
theorem dX4_firstError_9 : decode cX4_firstError 9 = .ok (.ireturn, 1) := by decide +kernel
set_option maxRecDepth 20000 in
theorem ggX4_isWhole_X4_readBuffer : GoodIn wsX4_isWhole wsX4_readBuffer := goodIn_r _ [7, 8, 2, 1, 9, 10, 11, 12, 6, 13, 14, 15, 16, 17, 18, 19, 20, 21, 22, 23, 24, 25, 26, 27, 28, 29, 30, 31, 32, 33, 34, 35, 36, 37, 38, 39, 40, 41] (by decide +kernel) (by decide +kernel)
set_option maxRecDepth 20000 in
theorem gX4_isWhole_X4_readBuffer : GoodIn wsX4_isWhole (wsV RX4 123 RX4 yX4_readBuffer wsX4_readBuffer) := goodIn_app (goodIn_of _ (by decide +kernel)) ggX4_isWhole_X4_readBuffer
theorem dX4_isWhole_0 : decode cX4_isWhole 0 = .ok (.aload_n 0, 1) := by decide +kernel
theorem dX4_isWhole_1 : decode cX4_isWhole 1 = .ok (.invokevirtual 123, 3) := by decide +kernel
theorem dX4_isWhole_4 : decode cX4_isWhole 4 = .ok (.aload_n 0, 1) := by decide +kernel
theorem dX4_isWhole_5 : decode cX4_isWhole 5 = .ok (.getfield 101, 3) := by decide +kernel
theorem dX4_isWhole_8 : decode cX4_isWhole 8 = .ok (.if_icmp .ne 15, 3) := by decide +kernel
theorem dX4_isWhole_11 : decode cX4_isWhole 11 = .ok (.aload_n 0, 1) := by decide +kernel
theorem dX4_isWhole_12 : decode cX4_isWhole 12 = .ok (.getfield 104, 3) := by decide +kernel
theorem dX4_isWhole_15 : decode cX4_isWhole 15 = .ok (.iconst 4, 1) := by decide +kernel
theorem dX4_isWhole_16 : decode cX4_isWhole 16 = .ok (.if_icmp .ne 7, 3) := by decide +kernel
theorem dX4_isWhole_19 : decode cX4_isWhole 19 = .ok (.iconst 1, 1) := by decide +kernel
theorem dX4_isWhole_20 : decode cX4_isWhole 20 = .ok (.goto 4, 3) := by decide +kernel
theorem dX4_isWhole_23 : decode cX4_isWhole 23 = .ok (.iconst 0, 1) := by decide +kernel
theorem dX4_isWhole_24 : decode cX4_isWhole 24 = .ok (.ireturn, 1) := by decide +kernel
set_option maxRecDepth 20000 in
theorem ggX4_plays_X4_of : GoodIn wsX4_plays wsX4_of := goodIn_r _ [6, 7, 41, 42, 43, 44, 45, 46, 47, 48, 49, 50, 51, 52, 53] (by decide +kernel) (by decide +kernel)
set_option maxRecDepth 20000 in
theorem gX4_plays_X4_of : GoodIn wsX4_plays (wsV RX4 76 RX4 yX4_of wsX4_of) := goodIn_app (goodIn_of _ (by decide +kernel)) ggX4_plays_X4_of
set_option maxRecDepth 20000 in
theorem ggX4_plays_X4_whyNot : GoodIn wsX4_plays wsX4_whyNot := goodIn_r _ [11, 7, 12, 13, 5, 14, 15, 16, 17, 2, 3, 4, 6, 18, 19, 20, 21, 22, 23, 24, 25, 26, 27, 28, 29, 30, 31, 32, 33, 34, 35, 36, 41, 42, 43, 44, 45, 46, 47, 48, 49, 50, 51, 52, 53] (by decide +kernel) (by decide +kernel)
set_option maxRecDepth 20000 in
theorem gX4_plays_X4_whyNot : GoodIn wsX4_plays (wsV RX4 89 RX4 yX4_whyNot wsX4_whyNot) := goodIn_app (goodIn_of _ (by decide +kernel)) ggX4_plays_X4_whyNot
set_option maxRecDepth 20000 in
theorem ggX4_plays_X4_layIt : GoodIn wsX4_plays wsX4_layIt := goodIn_r _ [40, 7, 12, 13, 5, 14, 15, 16, 17, 33, 34, 35, 36, 29, 30, 31, 32, 41, 42, 43, 44, 45, 46, 47, 48, 49, 50, 51, 52, 53] (by decide +kernel) (by decide +kernel)
set_option maxRecDepth 20000 in
theorem gX4_plays_X4_layIt : GoodIn wsX4_plays (wsV RX4 93 RX4 yX4_layIt wsX4_layIt) := goodIn_app (goodIn_of _ (by decide +kernel)) ggX4_plays_X4_layIt
theorem dX4_plays_0 : decode cX4_plays 0 = .ok (.aload_n 0, 1) := by decide +kernel
theorem dX4_plays_1 : decode cX4_plays 1 = .ok (.getfield 19, 3) := by decide +kernel
theorem dX4_plays_4 : decode cX4_plays 4 = .ok (.iconst 3, 1) := by decide +kernel
theorem dX4_plays_5 : decode cX4_plays 5 = .ok (.iload_n 1, 1) := by decide +kernel
theorem dX4_plays_6 : decode cX4_plays 6 = .ok (.imul, 1) := by decide +kernel
theorem dX4_plays_7 : decode cX4_plays 7 = .ok (.iaload, 1) := by decide +kernel
theorem dX4_plays_8 : decode cX4_plays 8 = .ok (.istore_n 2, 1) := by decide +kernel
theorem dX4_plays_9 : decode cX4_plays 9 = .ok (.aload_n 0, 1) := by decide +kernel
theorem dX4_plays_10 : decode cX4_plays 10 = .ok (.getfield 19, 3) := by decide +kernel
theorem dX4_plays_13 : decode cX4_plays 13 = .ok (.iconst 3, 1) := by decide +kernel
theorem dX4_plays_14 : decode cX4_plays 14 = .ok (.iload_n 1, 1) := by decide +kernel
theorem dX4_plays_15 : decode cX4_plays 15 = .ok (.imul, 1) := by decide +kernel
theorem dX4_plays_16 : decode cX4_plays 16 = .ok (.iconst 2, 1) := by decide +kernel
theorem dX4_plays_17 : decode cX4_plays 17 = .ok (.iadd, 1) := by decide +kernel
theorem dX4_plays_18 : decode cX4_plays 18 = .ok (.iaload, 1) := by decide +kernel
theorem dX4_plays_19 : decode cX4_plays 19 = .ok (.istore_n 3, 1) := by decide +kernel
theorem dX4_plays_20 : decode cX4_plays 20 = .ok (.aload_n 0, 1) := by decide +kernel
theorem dX4_plays_21 : decode cX4_plays 21 = .ok (.iload_n 2, 1) := by decide +kernel
theorem dX4_plays_22 : decode cX4_plays 22 = .ok (.aload_n 0, 1) := by decide +kernel
theorem dX4_plays_23 : decode cX4_plays 23 = .ok (.iload_n 2, 1) := by decide +kernel
theorem dX4_plays_24 : decode cX4_plays 24 = .ok (.iconst 1, 1) := by decide +kernel
theorem dX4_plays_25 : decode cX4_plays 25 = .ok (.invokevirtual 76, 3) := by decide +kernel
theorem dX4_plays_28 : decode cX4_plays 28 = .ok (.aload_n 0, 1) := by decide +kernel
theorem dX4_plays_29 : decode cX4_plays 29 = .ok (.getfield 19, 3) := by decide +kernel
theorem dX4_plays_32 : decode cX4_plays 32 = .ok (.iconst 3, 1) := by decide +kernel
theorem dX4_plays_33 : decode cX4_plays 33 = .ok (.iload_n 1, 1) := by decide +kernel
theorem dX4_plays_34 : decode cX4_plays 34 = .ok (.imul, 1) := by decide +kernel
theorem dX4_plays_35 : decode cX4_plays 35 = .ok (.iconst 1, 1) := by decide +kernel
theorem dX4_plays_36 : decode cX4_plays 36 = .ok (.iadd, 1) := by decide +kernel
theorem dX4_plays_37 : decode cX4_plays 37 = .ok (.iaload, 1) := by decide +kernel
theorem dX4_plays_38 : decode cX4_plays 38 = .ok (.iload_n 3, 1) := by decide +kernel
theorem dX4_plays_39 : decode cX4_plays 39 = .ok (.invokevirtual 89, 3) := by decide +kernel
theorem dX4_plays_42 : decode cX4_plays 42 = .ok (.ifCond .ne 7, 3) := by decide +kernel
theorem dX4_plays_45 : decode cX4_plays 45 = .ok (.iconst 1, 1) := by decide +kernel
theorem dX4_plays_46 : decode cX4_plays 46 = .ok (.goto 4, 3) := by decide +kernel
theorem dX4_plays_49 : decode cX4_plays 49 = .ok (.iconst 0, 1) := by decide +kernel
theorem dX4_plays_50 : decode cX4_plays 50 = .ok (.istore 4, 2) := by decide +kernel
theorem dX4_plays_52 : decode cX4_plays 52 = .ok (.iload 4, 2) := by decide +kernel
theorem dX4_plays_54 : decode cX4_plays 54 = .ok (.ifCond .eq 16, 3) := by decide +kernel
theorem dX4_plays_57 : decode cX4_plays 57 = .ok (.aload_n 0, 1) := by decide +kernel
theorem dX4_plays_58 : decode cX4_plays 58 = .ok (.iload_n 2, 1) := by decide +kernel
theorem dX4_plays_59 : decode cX4_plays 59 = .ok (.aload_n 0, 1) := by decide +kernel
theorem dX4_plays_60 : decode cX4_plays 60 = .ok (.iload_n 2, 1) := by decide +kernel
theorem dX4_plays_61 : decode cX4_plays 61 = .ok (.iconst 1, 1) := by decide +kernel
theorem dX4_plays_62 : decode cX4_plays 62 = .ok (.invokevirtual 76, 3) := by decide +kernel
theorem dX4_plays_65 : decode cX4_plays 65 = .ok (.iload_n 3, 1) := by decide +kernel
theorem dX4_plays_66 : decode cX4_plays 66 = .ok (.invokevirtual 93, 3) := by decide +kernel
theorem dX4_plays_69 : decode cX4_plays 69 = .ok (.pop, 1) := by decide +kernel
theorem dX4_plays_70 : decode cX4_plays 70 = .ok (.iload 4, 2) := by decide +kernel
theorem dX4_plays_72 : decode cX4_plays 72 = .ok (.ireturn, 1) := by decide +kernel
set_option maxRecDepth 20000 in
theorem ggX4_play_X4_isWhole : GoodIn wsX4_play wsX4_isWhole := goodIn_r _ [8, 3, 9, 10, 11, 12, 7, 13, 2, 14, 15, 16, 17, 18, 19, 20, 21, 22, 23, 24, 25, 26, 27, 28, 29, 30, 31, 32, 33, 79, 80, 81, 82, 83, 84, 85, 86, 87, 88, 89, 90, 91] (by decide +kernel) (by decide +kernel)
set_option maxRecDepth 20000 in
theorem gX4_play_X4_isWhole : GoodIn wsX4_play (wsV RX4 126 RX4 yX4_isWhole wsX4_isWhole) := goodIn_app (goodIn_of _ (by decide +kernel)) ggX4_play_X4_isWhole
set_option maxRecDepth 20000 in
theorem ggX4_play_X4_save : GoodIn wsX4_play wsX4_save := goodIn_r _ [37, 38, 39, 40, 79, 80, 81, 82, 83, 84, 85, 86, 87, 88, 89, 90, 91] (by decide +kernel) (by decide +kernel)
set_option maxRecDepth 20000 in
theorem gX4_play_X4_save : GoodIn wsX4_play (wsV RX4 54 RX4 yX4_save wsX4_save) := goodIn_app (goodIn_of _ (by decide +kernel)) ggX4_play_X4_save
set_option maxRecDepth 20000 in
theorem ggX4_play_X4_plays : GoodIn wsX4_play wsX4_plays := goodIn_r _ [44, 20, 45, 46, 47, 7, 48, 40, 49, 50, 51, 52, 53, 54, 55, 24, 25, 26, 56, 57, 58, 59, 60, 61, 62, 63, 64, 65, 66, 67, 68, 69, 70, 71, 72, 73, 74, 75, 76, 77, 78, 79, 80, 81, 82, 83, 84, 85, 86, 87, 88, 89, 90, 91] (by decide +kernel) (by decide +kernel)
set_option maxRecDepth 20000 in
theorem gX4_play_X4_plays : GoodIn wsX4_play (wsV RX4 130 RX4 yX4_plays wsX4_plays) := goodIn_app (goodIn_of _ (by decide +kernel)) ggX4_play_X4_plays
theorem dX4_play_0 : decode cX4_play 0 = .ok (.aload_n 0, 1) := by decide +kernel
theorem dX4_play_1 : decode cX4_play 1 = .ok (.aload_n 0, 1) := by decide +kernel
theorem dX4_play_2 : decode cX4_play 2 = .ok (.invokevirtual 126, 3) := by decide +kernel
theorem dX4_play_5 : decode cX4_play 5 = .ok (.ifCond .eq 7, 3) := by decide +kernel
theorem dX4_play_8 : decode cX4_play 8 = .ok (.iconst 0, 1) := by decide +kernel
theorem dX4_play_9 : decode cX4_play 9 = .ok (.goto 4, 3) := by decide +kernel
theorem dX4_play_12 : decode cX4_play 12 = .ok (.iconst 1, 1) := by decide +kernel
theorem dX4_play_13 : decode cX4_play 13 = .ok (.putfield 29, 3) := by decide +kernel
theorem dX4_play_16 : decode cX4_play 16 = .ok (.aload_n 0, 1) := by decide +kernel
theorem dX4_play_17 : decode cX4_play 17 = .ok (.getfield 29, 3) := by decide +kernel
theorem dX4_play_20 : decode cX4_play 20 = .ok (.ifCond .le 5, 3) := by decide +kernel
theorem dX4_play_23 : decode cX4_play 23 = .ok (.iconst 0, 1) := by decide +kernel
theorem dX4_play_24 : decode cX4_play 24 = .ok (.ireturn, 1) := by decide +kernel
theorem dX4_play_25 : decode cX4_play 25 = .ok (.aload_n 0, 1) := by decide +kernel
theorem dX4_play_26 : decode cX4_play 26 = .ok (.invokevirtual 54, 3) := by decide +kernel
theorem dX4_play_29 : decode cX4_play 29 = .ok (.iconst 0, 1) := by decide +kernel
theorem dX4_play_30 : decode cX4_play 30 = .ok (.istore_n 1, 1) := by decide +kernel
theorem dX4_play_31 : decode cX4_play 31 = .ok (.iload_n 1, 1) := by decide +kernel
theorem dX4_play_32 : decode cX4_play 32 = .ok (.aload_n 0, 1) := by decide +kernel
theorem dX4_play_33 : decode cX4_play 33 = .ok (.getfield 114, 3) := by decide +kernel
theorem dX4_play_36 : decode cX4_play 36 = .ok (.if_icmp .ge 17, 3) := by decide +kernel
theorem dX4_play_39 : decode cX4_play 39 = .ok (.aload_n 0, 1) := by decide +kernel
theorem dX4_play_40 : decode cX4_play 40 = .ok (.iload_n 1, 1) := by decide +kernel
theorem dX4_play_41 : decode cX4_play 41 = .ok (.invokevirtual 130, 3) := by decide +kernel
theorem dX4_play_44 : decode cX4_play 44 = .ok (.ifCond .eq 9, 3) := by decide +kernel
theorem dX4_play_47 : decode cX4_play 47 = .ok (.iinc 1 1, 3) := by decide +kernel
theorem dX4_play_50 : decode cX4_play 50 = .ok (.goto (-19), 3) := by decide +kernel
theorem dX4_play_53 : decode cX4_play 53 = .ok (.aload_n 0, 1) := by decide +kernel
theorem dX4_play_54 : decode cX4_play 54 = .ok (.iconst 0, 1) := by decide +kernel
theorem dX4_play_55 : decode cX4_play 55 = .ok (.putfield 101, 3) := by decide +kernel
theorem dX4_play_58 : decode cX4_play 58 = .ok (.iload_n 1, 1) := by decide +kernel
theorem dX4_play_59 : decode cX4_play 59 = .ok (.ireturn, 1) := by decide +kernel
set_option maxRecDepth 20000 in
theorem ggX4_toldSquare_X4_stopOn : GoodIn wsX4_toldSquare wsX4_stopOn := goodIn_r _ [6, 7, 8, 9, 5, 10, 1, 11, 12, 13, 14, 15, 16, 17, 18, 19, 20, 21, 22, 23, 24, 25, 26, 27] (by decide +kernel) (by decide +kernel)
set_option maxRecDepth 20000 in
theorem gX4_toldSquare_X4_stopOn : GoodIn wsX4_toldSquare (wsV RX4 50 RX4 yX4_stopOn wsX4_stopOn) := goodIn_app (goodIn_of _ (by decide +kernel)) ggX4_toldSquare_X4_stopOn
theorem dX4_toldSquare_0 : decode cX4_toldSquare 0 = .ok (.iload_n 2, 1) := by decide +kernel
theorem dX4_toldSquare_1 : decode cX4_toldSquare 1 = .ok (.ifCond .ne 15, 3) := by decide +kernel
theorem dX4_toldSquare_4 : decode cX4_toldSquare 4 = .ok (.aload_n 0, 1) := by decide +kernel
theorem dX4_toldSquare_5 : decode cX4_toldSquare 5 = .ok (.getfield 7, 3) := by decide +kernel
theorem dX4_toldSquare_8 : decode cX4_toldSquare 8 = .ok (.bipush 84, 2) := by decide +kernel
theorem dX4_toldSquare_10 : decode cX4_toldSquare 10 = .ok (.iload_n 1, 1) := by decide +kernel
theorem dX4_toldSquare_11 : decode cX4_toldSquare 11 = .ok (.iadd, 1) := by decide +kernel
theorem dX4_toldSquare_12 : decode cX4_toldSquare 12 = .ok (.iaload, 1) := by decide +kernel
theorem dX4_toldSquare_13 : decode cX4_toldSquare 13 = .ok (.goto 43, 3) := by decide +kernel
theorem dX4_toldSquare_16 : decode cX4_toldSquare 16 = .ok (.iload_n 2, 1) := by decide +kernel
theorem dX4_toldSquare_17 : decode cX4_toldSquare 17 = .ok (.iconst 1, 1) := by decide +kernel
theorem dX4_toldSquare_18 : decode cX4_toldSquare 18 = .ok (.if_icmp .ne 16, 3) := by decide +kernel
theorem dX4_toldSquare_21 : decode cX4_toldSquare 21 = .ok (.aload_n 0, 1) := by decide +kernel
theorem dX4_toldSquare_22 : decode cX4_toldSquare 22 = .ok (.getfield 7, 3) := by decide +kernel
theorem dX4_toldSquare_25 : decode cX4_toldSquare 25 = .ok (.sipush 164, 3) := by decide +kernel
theorem dX4_toldSquare_28 : decode cX4_toldSquare 28 = .ok (.iload_n 1, 1) := by decide +kernel
theorem dX4_toldSquare_29 : decode cX4_toldSquare 29 = .ok (.iadd, 1) := by decide +kernel
theorem dX4_toldSquare_30 : decode cX4_toldSquare 30 = .ok (.iaload, 1) := by decide +kernel
theorem dX4_toldSquare_31 : decode cX4_toldSquare 31 = .ok (.goto 25, 3) := by decide +kernel
theorem dX4_toldSquare_34 : decode cX4_toldSquare 34 = .ok (.iload_n 2, 1) := by decide +kernel
theorem dX4_toldSquare_35 : decode cX4_toldSquare 35 = .ok (.iconst 2, 1) := by decide +kernel
theorem dX4_toldSquare_36 : decode cX4_toldSquare 36 = .ok (.if_icmp .ne 14, 3) := by decide +kernel
theorem dX4_toldSquare_39 : decode cX4_toldSquare 39 = .ok (.aload_n 0, 1) := by decide +kernel
theorem dX4_toldSquare_40 : decode cX4_toldSquare 40 = .ok (.getfield 7, 3) := by decide +kernel
theorem dX4_toldSquare_43 : decode cX4_toldSquare 43 = .ok (.iconst 4, 1) := by decide +kernel
theorem dX4_toldSquare_44 : decode cX4_toldSquare 44 = .ok (.iload_n 1, 1) := by decide +kernel
theorem dX4_toldSquare_45 : decode cX4_toldSquare 45 = .ok (.iadd, 1) := by decide +kernel
theorem dX4_toldSquare_46 : decode cX4_toldSquare 46 = .ok (.iaload, 1) := by decide +kernel
theorem dX4_toldSquare_47 : decode cX4_toldSquare 47 = .ok (.goto 9, 3) := by decide +kernel
theorem dX4_toldSquare_50 : decode cX4_toldSquare 50 = .ok (.aload_n 0, 1) := by decide +kernel
theorem dX4_toldSquare_51 : decode cX4_toldSquare 51 = .ok (.iload_n 1, 1) := by decide +kernel
theorem dX4_toldSquare_52 : decode cX4_toldSquare 52 = .ok (.iconst (-1), 1) := by decide +kernel
theorem dX4_toldSquare_53 : decode cX4_toldSquare 53 = .ok (.invokevirtual 50, 3) := by decide +kernel
theorem dX4_toldSquare_56 : decode cX4_toldSquare 56 = .ok (.ireturn, 1) := by decide +kernel
set_option maxRecDepth 20000 in
theorem ggX4_square_X4_isSquare : GoodIn wsX4_square wsX4_isSquare := goodIn_r _ [5, 6, 7, 4, 8] (by decide +kernel) (by decide +kernel)
set_option maxRecDepth 20000 in
theorem gX4_square_X4_isSquare : GoodIn wsX4_square (va_wsS RX4 46 yX4_isSquare wsX4_isSquare) := goodIn_app (goodIn_of _ (by decide +kernel)) ggX4_square_X4_isSquare
set_option maxRecDepth 20000 in
theorem ggX4_square_X4_in : GoodIn wsX4_square wsX4_in := goodIn_r _ [8] (by decide +kernel) (by decide +kernel)
set_option maxRecDepth 20000 in
theorem gX4_square_X4_in : GoodIn wsX4_square (va_wsS RX4 33 yX4_in wsX4_in) := goodIn_app (goodIn_of _ (by decide +kernel)) ggX4_square_X4_in
set_option maxRecDepth 20000 in
theorem ggX4_square_X4_toldSquare : GoodIn wsX4_square wsX4_toldSquare := goodIn_r _ [12, 13, 14, 15, 16, 4, 17, 18, 19, 20, 21, 22, 23, 24, 25, 26, 27, 28, 29, 30, 31, 32, 33, 34, 35, 36, 37, 38] (by decide +kernel) (by decide +kernel)
set_option maxRecDepth 20000 in
theorem gX4_square_X4_toldSquare : GoodIn wsX4_square (wsV RX4 133 RX4 yX4_toldSquare wsX4_toldSquare) := goodIn_app (goodIn_of _ (by decide +kernel)) ggX4_square_X4_toldSquare
theorem dX4_square_0 : decode cX4_square 0 = .ok (.aload_n 0, 1) := by decide +kernel
theorem dX4_square_1 : decode cX4_square 1 = .ok (.iload_n 1, 1) := by decide +kernel
theorem dX4_square_2 : decode cX4_square 2 = .ok (.invokestatic 46, 3) := by decide +kernel
theorem dX4_square_5 : decode cX4_square 5 = .ok (.ifCond .ne 7, 3) := by decide +kernel
theorem dX4_square_8 : decode cX4_square 8 = .ok (.iconst 1, 1) := by decide +kernel
theorem dX4_square_9 : decode cX4_square 9 = .ok (.goto 17, 3) := by decide +kernel
theorem dX4_square_12 : decode cX4_square 12 = .ok (.iload_n 2, 1) := by decide +kernel
theorem dX4_square_13 : decode cX4_square 13 = .ok (.iconst 0, 1) := by decide +kernel
theorem dX4_square_14 : decode cX4_square 14 = .ok (.iconst 3, 1) := by decide +kernel
theorem dX4_square_15 : decode cX4_square 15 = .ok (.invokestatic 33, 3) := by decide +kernel
theorem dX4_square_18 : decode cX4_square 18 = .ok (.ifCond .eq 7, 3) := by decide +kernel
theorem dX4_square_21 : decode cX4_square 21 = .ok (.iconst 0, 1) := by decide +kernel
theorem dX4_square_22 : decode cX4_square 22 = .ok (.goto 4, 3) := by decide +kernel
theorem dX4_square_25 : decode cX4_square 25 = .ok (.iconst 2, 1) := by decide +kernel
theorem dX4_square_26 : decode cX4_square 26 = .ok (.putfield 29, 3) := by decide +kernel
theorem dX4_square_29 : decode cX4_square 29 = .ok (.aload_n 0, 1) := by decide +kernel
theorem dX4_square_30 : decode cX4_square 30 = .ok (.getfield 29, 3) := by decide +kernel
theorem dX4_square_33 : decode cX4_square 33 = .ok (.ifCond .le 7, 3) := by decide +kernel
theorem dX4_square_36 : decode cX4_square 36 = .ok (.iconst 0, 1) := by decide +kernel
theorem dX4_square_37 : decode cX4_square 37 = .ok (.goto 9, 3) := by decide +kernel
theorem dX4_square_40 : decode cX4_square 40 = .ok (.aload_n 0, 1) := by decide +kernel
theorem dX4_square_41 : decode cX4_square 41 = .ok (.iload_n 1, 1) := by decide +kernel
theorem dX4_square_42 : decode cX4_square 42 = .ok (.iload_n 2, 1) := by decide +kernel
theorem dX4_square_43 : decode cX4_square 43 = .ok (.invokevirtual 133, 3) := by decide +kernel
theorem dX4_square_46 : decode cX4_square 46 = .ok (.ireturn, 1) := by decide +kernel
set_option maxRecDepth 20000 in
theorem ggX4_isReached_X4_stopPlayer : GoodIn wsX4_isReached wsX4_stopPlayer := goodIn_r _ [5, 6, 15, 16, 17, 18, 19, 20, 21, 22, 23, 24, 25, 26, 27] (by decide +kernel) (by decide +kernel)
set_option maxRecDepth 20000 in
theorem gX4_isReached_X4_stopPlayer : GoodIn wsX4_isReached (wsV RX4 43 RX4 yX4_stopPlayer wsX4_stopPlayer) := goodIn_app (goodIn_of _ (by decide +kernel)) ggX4_isReached_X4_stopPlayer
set_option maxRecDepth 20000 in
theorem ggX4_isReached_X4_stopSquare : GoodIn wsX4_isReached wsX4_stopSquare := goodIn_r _ [10, 6, 15, 16, 17, 18, 19, 20, 21, 22, 23, 24, 25, 26, 27] (by decide +kernel) (by decide +kernel)
set_option maxRecDepth 20000 in
theorem gX4_isReached_X4_stopSquare : GoodIn wsX4_isReached (wsV RX4 37 RX4 yX4_stopSquare wsX4_stopSquare) := goodIn_app (goodIn_of _ (by decide +kernel)) ggX4_isReached_X4_stopSquare
set_option maxRecDepth 20000 in
theorem ggX4_isReached_X4_hasTrack : GoodIn wsX4_isReached wsX4_hasTrack := goodIn_r _ [14, 6, 15, 16, 17, 18, 19, 20, 21, 22, 23, 24, 25, 26, 27] (by decide +kernel) (by decide +kernel)
set_option maxRecDepth 20000 in
theorem gX4_isReached_X4_hasTrack : GoodIn wsX4_isReached (wsV RX4 82 RX4 yX4_hasTrack wsX4_hasTrack) := goodIn_app (goodIn_of _ (by decide +kernel)) ggX4_isReached_X4_hasTrack
theorem dX4_isReached_0 : decode cX4_isReached 0 = .ok (.aload_n 0, 1) := by decide +kernel
theorem dX4_isReached_1 : decode cX4_isReached 1 = .ok (.aload_n 0, 1) := by decide +kernel
theorem dX4_isReached_2 : decode cX4_isReached 2 = .ok (.iload_n 1, 1) := by decide +kernel
theorem dX4_isReached_3 : decode cX4_isReached 3 = .ok (.invokevirtual 43, 3) := by decide +kernel
theorem dX4_isReached_6 : decode cX4_isReached 6 = .ok (.aload_n 0, 1) := by decide +kernel
theorem dX4_isReached_7 : decode cX4_isReached 7 = .ok (.iload_n 1, 1) := by decide +kernel
theorem dX4_isReached_8 : decode cX4_isReached 8 = .ok (.invokevirtual 37, 3) := by decide +kernel
theorem dX4_isReached_11 : decode cX4_isReached 11 = .ok (.invokevirtual 82, 3) := by decide +kernel
theorem dX4_isReached_14 : decode cX4_isReached 14 = .ok (.ireturn, 1) := by decide +kernel
set_option maxRecDepth 20000 in
theorem ggX4_toldStop_X4_isStop : GoodIn wsX4_toldStop wsX4_isStop := goodIn_r _ [6, 7, 8, 5, 9, 10, 11, 12, 13, 1, 26, 27, 28, 29, 30, 31, 32, 33, 34, 35, 36, 37, 38] (by decide +kernel) (by decide +kernel)
set_option maxRecDepth 20000 in
theorem gX4_toldStop_X4_isStop : GoodIn wsX4_toldStop (wsV RX4 67 RX4 yX4_isStop wsX4_isStop) := goodIn_app (goodIn_of _ (by decide +kernel)) ggX4_toldStop_X4_isStop
set_option maxRecDepth 20000 in
theorem ggX4_toldStop_X4_isReached : GoodIn wsX4_toldStop wsX4_isReached := goodIn_r _ [17, 18, 19, 20, 5, 21, 1, 10, 11, 12, 13, 22, 23, 24, 25, 26, 27, 28, 29, 30, 31, 32, 33, 34, 35, 36, 37, 38] (by decide +kernel) (by decide +kernel)
set_option maxRecDepth 20000 in
theorem gX4_toldStop_X4_isReached : GoodIn wsX4_toldStop (wsV RX4 136 RX4 yX4_isReached wsX4_isReached) := goodIn_app (goodIn_of _ (by decide +kernel)) ggX4_toldStop_X4_isReached
theorem dX4_toldStop_0 : decode cX4_toldStop 0 = .ok (.aload_n 0, 1) := by decide +kernel
theorem dX4_toldStop_1 : decode cX4_toldStop 1 = .ok (.iload_n 1, 1) := by decide +kernel
theorem dX4_toldStop_2 : decode cX4_toldStop 2 = .ok (.invokevirtual 67, 3) := by decide +kernel
theorem dX4_toldStop_5 : decode cX4_toldStop 5 = .ok (.ifCond .ne 5, 3) := by decide +kernel
theorem dX4_toldStop_8 : decode cX4_toldStop 8 = .ok (.iconst (-1), 1) := by decide +kernel
theorem dX4_toldStop_9 : decode cX4_toldStop 9 = .ok (.ireturn, 1) := by decide +kernel
theorem dX4_toldStop_10 : decode cX4_toldStop 10 = .ok (.iload_n 2, 1) := by decide +kernel
theorem dX4_toldStop_11 : decode cX4_toldStop 11 = .ok (.iconst 2, 1) := by decide +kernel
theorem dX4_toldStop_12 : decode cX4_toldStop 12 = .ok (.if_icmp .ne 19, 3) := by decide +kernel
theorem dX4_toldStop_15 : decode cX4_toldStop 15 = .ok (.aload_n 0, 1) := by decide +kernel
theorem dX4_toldStop_16 : decode cX4_toldStop 16 = .ok (.iload_n 1, 1) := by decide +kernel
theorem dX4_toldStop_17 : decode cX4_toldStop 17 = .ok (.invokevirtual 136, 3) := by decide +kernel
theorem dX4_toldStop_20 : decode cX4_toldStop 20 = .ok (.ifCond .eq 7, 3) := by decide +kernel
theorem dX4_toldStop_23 : decode cX4_toldStop 23 = .ok (.iconst 1, 1) := by decide +kernel
theorem dX4_toldStop_24 : decode cX4_toldStop 24 = .ok (.goto 21, 3) := by decide +kernel
theorem dX4_toldStop_27 : decode cX4_toldStop 27 = .ok (.iconst 0, 1) := by decide +kernel
theorem dX4_toldStop_28 : decode cX4_toldStop 28 = .ok (.goto 17, 3) := by decide +kernel
theorem dX4_toldStop_31 : decode cX4_toldStop 31 = .ok (.aload_n 0, 1) := by decide +kernel
theorem dX4_toldStop_32 : decode cX4_toldStop 32 = .ok (.getfield 7, 3) := by decide +kernel
theorem dX4_toldStop_35 : decode cX4_toldStop 35 = .ok (.sipush 244, 3) := by decide +kernel
theorem dX4_toldStop_38 : decode cX4_toldStop 38 = .ok (.iconst 2, 1) := by decide +kernel
theorem dX4_toldStop_39 : decode cX4_toldStop 39 = .ok (.iload_n 1, 1) := by decide +kernel
theorem dX4_toldStop_40 : decode cX4_toldStop 40 = .ok (.imul, 1) := by decide +kernel
theorem dX4_toldStop_41 : decode cX4_toldStop 41 = .ok (.iadd, 1) := by decide +kernel
theorem dX4_toldStop_42 : decode cX4_toldStop 42 = .ok (.iload_n 2, 1) := by decide +kernel
theorem dX4_toldStop_43 : decode cX4_toldStop 43 = .ok (.iadd, 1) := by decide +kernel
theorem dX4_toldStop_44 : decode cX4_toldStop 44 = .ok (.iaload, 1) := by decide +kernel
theorem dX4_toldStop_45 : decode cX4_toldStop 45 = .ok (.ireturn, 1) := by decide +kernel
set_option maxRecDepth 20000 in
theorem ggX4_stopOf_X4_in : GoodIn wsX4_stopOf wsX4_in := goodIn_r _ [5] (by decide +kernel) (by decide +kernel)
set_option maxRecDepth 20000 in
theorem gX4_stopOf_X4_in : GoodIn wsX4_stopOf (va_wsS RX4 33 yX4_in wsX4_in) := goodIn_app (goodIn_of _ (by decide +kernel)) ggX4_stopOf_X4_in
set_option maxRecDepth 20000 in
theorem ggX4_stopOf_X4_toldStop : GoodIn wsX4_stopOf wsX4_toldStop := goodIn_r _ [9, 10, 11, 12, 13, 4, 14, 2, 3, 5, 15, 16, 17, 18, 19, 20, 21, 22, 23, 24, 25, 26, 27, 28, 29, 30, 31, 32, 33, 34, 35, 36, 37, 38, 39, 40, 41, 42, 43] (by decide +kernel) (by decide +kernel)
set_option maxRecDepth 20000 in
theorem gX4_stopOf_X4_toldStop : GoodIn wsX4_stopOf (wsV RX4 139 RX4 yX4_toldStop wsX4_toldStop) := goodIn_app (goodIn_of _ (by decide +kernel)) ggX4_stopOf_X4_toldStop
theorem dX4_stopOf_0 : decode cX4_stopOf 0 = .ok (.aload_n 0, 1) := by decide +kernel
theorem dX4_stopOf_1 : decode cX4_stopOf 1 = .ok (.iload_n 1, 1) := by decide +kernel
theorem dX4_stopOf_2 : decode cX4_stopOf 2 = .ok (.iconst 0, 1) := by decide +kernel
theorem dX4_stopOf_3 : decode cX4_stopOf 3 = .ok (.bipush 11, 2) := by decide +kernel
theorem dX4_stopOf_5 : decode cX4_stopOf 5 = .ok (.invokestatic 33, 3) := by decide +kernel
theorem dX4_stopOf_8 : decode cX4_stopOf 8 = .ok (.ifCond .ne 7, 3) := by decide +kernel
theorem dX4_stopOf_11 : decode cX4_stopOf 11 = .ok (.iconst 1, 1) := by decide +kernel
theorem dX4_stopOf_12 : decode cX4_stopOf 12 = .ok (.goto 17, 3) := by decide +kernel
theorem dX4_stopOf_15 : decode cX4_stopOf 15 = .ok (.iload_n 2, 1) := by decide +kernel
theorem dX4_stopOf_16 : decode cX4_stopOf 16 = .ok (.iconst 0, 1) := by decide +kernel
theorem dX4_stopOf_17 : decode cX4_stopOf 17 = .ok (.iconst 2, 1) := by decide +kernel
theorem dX4_stopOf_18 : decode cX4_stopOf 18 = .ok (.invokestatic 33, 3) := by decide +kernel
theorem dX4_stopOf_21 : decode cX4_stopOf 21 = .ok (.ifCond .eq 7, 3) := by decide +kernel
theorem dX4_stopOf_24 : decode cX4_stopOf 24 = .ok (.iconst 0, 1) := by decide +kernel
theorem dX4_stopOf_25 : decode cX4_stopOf 25 = .ok (.goto 4, 3) := by decide +kernel
theorem dX4_stopOf_28 : decode cX4_stopOf 28 = .ok (.iconst 2, 1) := by decide +kernel
theorem dX4_stopOf_29 : decode cX4_stopOf 29 = .ok (.putfield 29, 3) := by decide +kernel
theorem dX4_stopOf_32 : decode cX4_stopOf 32 = .ok (.aload_n 0, 1) := by decide +kernel
theorem dX4_stopOf_33 : decode cX4_stopOf 33 = .ok (.getfield 29, 3) := by decide +kernel
theorem dX4_stopOf_36 : decode cX4_stopOf 36 = .ok (.ifCond .le 7, 3) := by decide +kernel
theorem dX4_stopOf_39 : decode cX4_stopOf 39 = .ok (.iconst 0, 1) := by decide +kernel
theorem dX4_stopOf_40 : decode cX4_stopOf 40 = .ok (.goto 9, 3) := by decide +kernel
theorem dX4_stopOf_43 : decode cX4_stopOf 43 = .ok (.aload_n 0, 1) := by decide +kernel
theorem dX4_stopOf_44 : decode cX4_stopOf 44 = .ok (.iload_n 1, 1) := by decide +kernel
theorem dX4_stopOf_45 : decode cX4_stopOf 45 = .ok (.iload_n 2, 1) := by decide +kernel
theorem dX4_stopOf_46 : decode cX4_stopOf 46 = .ok (.invokevirtual 139, 3) := by decide +kernel
theorem dX4_stopOf_49 : decode cX4_stopOf 49 = .ok (.ireturn, 1) := by decide +kernel
set_option maxRecDepth 20000 in
theorem ggX4_squaresOf_X4_hasTrack : GoodIn wsX4_squaresOf wsX4_hasTrack := goodIn_r _ [6, 1, 7, 8, 9, 10, 11, 12, 13, 14, 15, 16, 17, 18, 19] (by decide +kernel) (by decide +kernel)
set_option maxRecDepth 20000 in
theorem gX4_squaresOf_X4_hasTrack : GoodIn wsX4_squaresOf (wsV RX4 82 RX4 yX4_hasTrack wsX4_hasTrack) := goodIn_app (goodIn_of _ (by decide +kernel)) ggX4_squaresOf_X4_hasTrack
theorem dX4_squaresOf_0 : decode cX4_squaresOf 0 = .ok (.iconst 0, 1) := by decide +kernel
theorem dX4_squaresOf_1 : decode cX4_squaresOf 1 = .ok (.istore_n 3, 1) := by decide +kernel
theorem dX4_squaresOf_2 : decode cX4_squaresOf 2 = .ok (.iconst 0, 1) := by decide +kernel
theorem dX4_squaresOf_3 : decode cX4_squaresOf 3 = .ok (.istore 4, 2) := by decide +kernel
theorem dX4_squaresOf_5 : decode cX4_squaresOf 5 = .ok (.iload 4, 2) := by decide +kernel
theorem dX4_squaresOf_7 : decode cX4_squaresOf 7 = .ok (.bipush 80, 2) := by decide +kernel
theorem dX4_squaresOf_9 : decode cX4_squaresOf 9 = .ok (.if_icmp .ge 49, 3) := by decide +kernel
theorem dX4_squaresOf_12 : decode cX4_squaresOf 12 = .ok (.iload_n 3, 1) := by decide +kernel
theorem dX4_squaresOf_13 : decode cX4_squaresOf 13 = .ok (.iload_n 2, 1) := by decide +kernel
theorem dX4_squaresOf_14 : decode cX4_squaresOf 14 = .ok (.ifCond .eq 21, 3) := by decide +kernel
theorem dX4_squaresOf_17 : decode cX4_squaresOf 17 = .ok (.aload_n 0, 1) := by decide +kernel
theorem dX4_squaresOf_18 : decode cX4_squaresOf 18 = .ok (.getfield 7, 3) := by decide +kernel
theorem dX4_squaresOf_21 : decode cX4_squaresOf 21 = .ok (.sipush 164, 3) := by decide +kernel
theorem dX4_squaresOf_24 : decode cX4_squaresOf 24 = .ok (.iload 4, 2) := by decide +kernel
theorem dX4_squaresOf_26 : decode cX4_squaresOf 26 = .ok (.iadd, 1) := by decide +kernel
theorem dX4_squaresOf_27 : decode cX4_squaresOf 27 = .ok (.iaload, 1) := by decide +kernel
theorem dX4_squaresOf_28 : decode cX4_squaresOf 28 = .ok (.iload_n 1, 1) := by decide +kernel
theorem dX4_squaresOf_29 : decode cX4_squaresOf 29 = .ok (.if_icmp .ne 20, 3) := by decide +kernel
theorem dX4_squaresOf_32 : decode cX4_squaresOf 32 = .ok (.goto 13, 3) := by decide +kernel
theorem dX4_squaresOf_35 : decode cX4_squaresOf 35 = .ok (.aload_n 0, 1) := by decide +kernel
theorem dX4_squaresOf_36 : decode cX4_squaresOf 36 = .ok (.iload_n 1, 1) := by decide +kernel
theorem dX4_squaresOf_37 : decode cX4_squaresOf 37 = .ok (.iload 4, 2) := by decide +kernel
theorem dX4_squaresOf_39 : decode cX4_squaresOf 39 = .ok (.invokevirtual 82, 3) := by decide +kernel
theorem dX4_squaresOf_42 : decode cX4_squaresOf 42 = .ok (.ifCond .eq 7, 3) := by decide +kernel
theorem dX4_squaresOf_45 : decode cX4_squaresOf 45 = .ok (.iconst 1, 1) := by decide +kernel
theorem dX4_squaresOf_46 : decode cX4_squaresOf 46 = .ok (.goto 4, 3) := by decide +kernel
theorem dX4_squaresOf_49 : decode cX4_squaresOf 49 = .ok (.iconst 0, 1) := by decide +kernel
theorem dX4_squaresOf_50 : decode cX4_squaresOf 50 = .ok (.iadd, 1) := by decide +kernel
theorem dX4_squaresOf_51 : decode cX4_squaresOf 51 = .ok (.istore_n 3, 1) := by decide +kernel
theorem dX4_squaresOf_52 : decode cX4_squaresOf 52 = .ok (.iinc 4 1, 3) := by decide +kernel
theorem dX4_squaresOf_55 : decode cX4_squaresOf 55 = .ok (.goto (-50), 3) := by decide +kernel
theorem dX4_squaresOf_58 : decode cX4_squaresOf 58 = .ok (.iload_n 3, 1) := by decide +kernel
theorem dX4_squaresOf_59 : decode cX4_squaresOf 59 = .ok (.ireturn, 1) := by decide +kernel
set_option maxRecDepth 20000 in
theorem ggX4_stopsOf_X4_isStop : GoodIn wsX4_stopsOf wsX4_isStop := goodIn_r _ [5, 6, 7, 4, 8, 9, 10, 11, 12, 13, 26, 27, 28, 29, 30, 31, 32, 33, 34, 35, 36, 37, 38] (by decide +kernel) (by decide +kernel)
set_option maxRecDepth 20000 in
theorem gX4_stopsOf_X4_isStop : GoodIn wsX4_stopsOf (wsV RX4 67 RX4 yX4_isStop wsX4_isStop) := goodIn_app (goodIn_of _ (by decide +kernel)) ggX4_stopsOf_X4_isStop
set_option maxRecDepth 20000 in
theorem ggX4_stopsOf_X4_stopPlayer : GoodIn wsX4_stopsOf wsX4_stopPlayer := goodIn_r _ [17, 13, 26, 27, 28, 29, 30, 31, 32, 33, 34, 35, 36, 37, 38] (by decide +kernel) (by decide +kernel)
set_option maxRecDepth 20000 in
theorem gX4_stopsOf_X4_stopPlayer : GoodIn wsX4_stopsOf (wsV RX4 43 RX4 yX4_stopPlayer wsX4_stopPlayer) := goodIn_app (goodIn_of _ (by decide +kernel)) ggX4_stopsOf_X4_stopPlayer
set_option maxRecDepth 20000 in
theorem ggX4_stopsOf_X4_isReached : GoodIn wsX4_stopsOf wsX4_isReached := goodIn_r _ [21, 14, 15, 16, 4, 17, 13, 9, 10, 11, 12, 22, 23, 24, 25, 26, 27, 28, 29, 30, 31, 32, 33, 34, 35, 36, 37, 38] (by decide +kernel) (by decide +kernel)
set_option maxRecDepth 20000 in
theorem gX4_stopsOf_X4_isReached : GoodIn wsX4_stopsOf (wsV RX4 136 RX4 yX4_isReached wsX4_isReached) := goodIn_app (goodIn_of _ (by decide +kernel)) ggX4_stopsOf_X4_isReached
theorem dX4_stopsOf_0 : decode cX4_stopsOf 0 = .ok (.iconst 0, 1) := by decide +kernel
theorem dX4_stopsOf_1 : decode cX4_stopsOf 1 = .ok (.istore_n 3, 1) := by decide +kernel
theorem dX4_stopsOf_2 : decode cX4_stopsOf 2 = .ok (.iconst 0, 1) := by decide +kernel
theorem dX4_stopsOf_3 : decode cX4_stopsOf 3 = .ok (.istore 4, 2) := by decide +kernel
theorem dX4_stopsOf_5 : decode cX4_stopsOf 5 = .ok (.iload 4, 2) := by decide +kernel
theorem dX4_stopsOf_7 : decode cX4_stopsOf 7 = .ok (.bipush 12, 2) := by decide +kernel
theorem dX4_stopsOf_9 : decode cX4_stopsOf 9 = .ok (.if_icmp .ge 49, 3) := by decide +kernel
theorem dX4_stopsOf_12 : decode cX4_stopsOf 12 = .ok (.iload_n 3, 1) := by decide +kernel
theorem dX4_stopsOf_13 : decode cX4_stopsOf 13 = .ok (.aload_n 0, 1) := by decide +kernel
theorem dX4_stopsOf_14 : decode cX4_stopsOf 14 = .ok (.iload 4, 2) := by decide +kernel
theorem dX4_stopsOf_16 : decode cX4_stopsOf 16 = .ok (.invokevirtual 67, 3) := by decide +kernel
theorem dX4_stopsOf_19 : decode cX4_stopsOf 19 = .ok (.ifCond .eq 30, 3) := by decide +kernel
theorem dX4_stopsOf_22 : decode cX4_stopsOf 22 = .ok (.aload_n 0, 1) := by decide +kernel
theorem dX4_stopsOf_23 : decode cX4_stopsOf 23 = .ok (.iload 4, 2) := by decide +kernel
theorem dX4_stopsOf_25 : decode cX4_stopsOf 25 = .ok (.invokevirtual 43, 3) := by decide +kernel
theorem dX4_stopsOf_28 : decode cX4_stopsOf 28 = .ok (.iload_n 1, 1) := by decide +kernel
theorem dX4_stopsOf_29 : decode cX4_stopsOf 29 = .ok (.if_icmp .ne 20, 3) := by decide +kernel
theorem dX4_stopsOf_32 : decode cX4_stopsOf 32 = .ok (.iload_n 2, 1) := by decide +kernel
theorem dX4_stopsOf_33 : decode cX4_stopsOf 33 = .ok (.ifCond .eq 12, 3) := by decide +kernel
theorem dX4_stopsOf_36 : decode cX4_stopsOf 36 = .ok (.aload_n 0, 1) := by decide +kernel
theorem dX4_stopsOf_37 : decode cX4_stopsOf 37 = .ok (.iload 4, 2) := by decide +kernel
theorem dX4_stopsOf_39 : decode cX4_stopsOf 39 = .ok (.invokevirtual 136, 3) := by decide +kernel
theorem dX4_stopsOf_42 : decode cX4_stopsOf 42 = .ok (.ifCond .eq 7, 3) := by decide +kernel
theorem dX4_stopsOf_45 : decode cX4_stopsOf 45 = .ok (.iconst 1, 1) := by decide +kernel
theorem dX4_stopsOf_46 : decode cX4_stopsOf 46 = .ok (.goto 4, 3) := by decide +kernel
theorem dX4_stopsOf_49 : decode cX4_stopsOf 49 = .ok (.iconst 0, 1) := by decide +kernel
theorem dX4_stopsOf_50 : decode cX4_stopsOf 50 = .ok (.iadd, 1) := by decide +kernel
theorem dX4_stopsOf_51 : decode cX4_stopsOf 51 = .ok (.istore_n 3, 1) := by decide +kernel
theorem dX4_stopsOf_52 : decode cX4_stopsOf 52 = .ok (.iinc 4 1, 3) := by decide +kernel
theorem dX4_stopsOf_55 : decode cX4_stopsOf 55 = .ok (.goto (-50), 3) := by decide +kernel
theorem dX4_stopsOf_58 : decode cX4_stopsOf 58 = .ok (.iload_n 3, 1) := by decide +kernel
theorem dX4_stopsOf_59 : decode cX4_stopsOf 59 = .ok (.ireturn, 1) := by decide +kernel
set_option maxRecDepth 20000 in
theorem ggX4_isJoined_X4_stopsOf : GoodIn wsX4_isJoined wsX4_stopsOf := goodIn_r _ [5, 6, 7, 8, 4, 9, 10, 11, 12, 13, 14, 15, 16, 17, 18, 19, 20, 21, 22, 23, 24, 25, 26, 27, 28, 29, 30, 31, 32, 33, 34, 35, 36, 37, 38, 39, 40, 41, 42] (by decide +kernel) (by decide +kernel)
set_option maxRecDepth 20000 in
theorem gX4_isJoined_X4_stopsOf : GoodIn wsX4_isJoined (wsV RX4 142 RX4 yX4_stopsOf wsX4_stopsOf) := goodIn_app (goodIn_of _ (by decide +kernel)) ggX4_isJoined_X4_stopsOf
theorem dX4_isJoined_0 : decode cX4_isJoined 0 = .ok (.aload_n 0, 1) := by decide +kernel
theorem dX4_isJoined_1 : decode cX4_isJoined 1 = .ok (.iload_n 1, 1) := by decide +kernel
theorem dX4_isJoined_2 : decode cX4_isJoined 2 = .ok (.iconst 0, 1) := by decide +kernel
theorem dX4_isJoined_3 : decode cX4_isJoined 3 = .ok (.invokevirtual 142, 3) := by decide +kernel
theorem dX4_isJoined_6 : decode cX4_isJoined 6 = .ok (.aload_n 0, 1) := by decide +kernel
theorem dX4_isJoined_7 : decode cX4_isJoined 7 = .ok (.iload_n 1, 1) := by decide +kernel
theorem dX4_isJoined_8 : decode cX4_isJoined 8 = .ok (.iconst 1, 1) := by decide +kernel
theorem dX4_isJoined_9 : decode cX4_isJoined 9 = .ok (.invokevirtual 142, 3) := by decide +kernel
theorem dX4_isJoined_12 : decode cX4_isJoined 12 = .ok (.if_icmp .ne 7, 3) := by decide +kernel
theorem dX4_isJoined_15 : decode cX4_isJoined 15 = .ok (.iconst 1, 1) := by decide +kernel
theorem dX4_isJoined_16 : decode cX4_isJoined 16 = .ok (.goto 4, 3) := by decide +kernel
theorem dX4_isJoined_19 : decode cX4_isJoined 19 = .ok (.iconst 0, 1) := by decide +kernel
theorem dX4_isJoined_20 : decode cX4_isJoined 20 = .ok (.ireturn, 1) := by decide +kernel
set_option maxRecDepth 20000 in
theorem ggX4_toldPlayer_X4_of : GoodIn wsX4_toldPlayer wsX4_of := goodIn_r _ [5, 6, 42, 43, 44, 45, 46, 47, 48, 49, 50, 51, 52, 53, 54] (by decide +kernel) (by decide +kernel)
set_option maxRecDepth 20000 in
theorem gX4_toldPlayer_X4_of : GoodIn wsX4_toldPlayer (wsV RX4 76 RX4 yX4_of wsX4_of) := goodIn_app (goodIn_of _ (by decide +kernel)) ggX4_toldPlayer_X4_of
set_option maxRecDepth 20000 in
theorem ggX4_toldPlayer_X4_squaresOf : GoodIn wsX4_toldPlayer wsX4_squaresOf := goodIn_r _ [10, 6, 11, 12, 13, 4, 14, 42, 43, 44, 45, 46, 47, 48, 49, 50, 51, 52, 53, 54] (by decide +kernel) (by decide +kernel)
set_option maxRecDepth 20000 in
theorem gX4_toldPlayer_X4_squaresOf : GoodIn wsX4_toldPlayer (wsV RX4 146 RX4 yX4_squaresOf wsX4_squaresOf) := goodIn_app (goodIn_of _ (by decide +kernel)) ggX4_toldPlayer_X4_squaresOf
set_option maxRecDepth 20000 in
theorem ggX4_toldPlayer_X4_stopsOf : GoodIn wsX4_toldPlayer wsX4_stopsOf := goodIn_r _ [18, 19, 20, 21, 4, 22, 23, 24, 25, 26, 27, 28, 29, 6, 30, 31, 32, 33, 34, 35, 36, 37, 11, 12, 13, 14, 42, 43, 44, 45, 46, 47, 48, 49, 50, 51, 52, 53, 54] (by decide +kernel) (by decide +kernel)
set_option maxRecDepth 20000 in
theorem gX4_toldPlayer_X4_stopsOf : GoodIn wsX4_toldPlayer (wsV RX4 142 RX4 yX4_stopsOf wsX4_stopsOf) := goodIn_app (goodIn_of _ (by decide +kernel)) ggX4_toldPlayer_X4_stopsOf
set_option maxRecDepth 20000 in
theorem ggX4_toldPlayer_X4_isJoined : GoodIn wsX4_toldPlayer wsX4_isJoined := goodIn_r _ [41, 15, 16, 17, 4, 18, 19, 20, 21, 22, 23, 24, 25, 26, 27, 28, 29, 6, 30, 31, 32, 33, 34, 35, 36, 37, 11, 12, 13, 14, 42, 43, 44, 45, 46, 47, 48, 49, 50, 51, 52, 53, 54] (by decide +kernel) (by decide +kernel)
set_option maxRecDepth 20000 in
theorem gX4_toldPlayer_X4_isJoined : GoodIn wsX4_toldPlayer (wsV RX4 149 RX4 yX4_isJoined wsX4_isJoined) := goodIn_app (goodIn_of _ (by decide +kernel)) ggX4_toldPlayer_X4_isJoined
theorem dX4_toldPlayer_0 : decode cX4_toldPlayer 0 = .ok (.iload_n 2, 1) := by decide +kernel
theorem dX4_toldPlayer_1 : decode cX4_toldPlayer 1 = .ok (.tableswitch 121 0 8 #[51, 58, 65, 72, 79, 86, 93, 100, 114], 51) := by decide +kernel
theorem dX4_toldPlayer_52 : decode cX4_toldPlayer 52 = .ok (.aload_n 0, 1) := by decide +kernel
theorem dX4_toldPlayer_53 : decode cX4_toldPlayer 53 = .ok (.iload_n 1, 1) := by decide +kernel
theorem dX4_toldPlayer_54 : decode cX4_toldPlayer 54 = .ok (.iconst 0, 1) := by decide +kernel
theorem dX4_toldPlayer_55 : decode cX4_toldPlayer 55 = .ok (.invokevirtual 76, 3) := by decide +kernel
theorem dX4_toldPlayer_58 : decode cX4_toldPlayer 58 = .ok (.ireturn, 1) := by decide +kernel
theorem dX4_toldPlayer_59 : decode cX4_toldPlayer 59 = .ok (.aload_n 0, 1) := by decide +kernel
theorem dX4_toldPlayer_60 : decode cX4_toldPlayer 60 = .ok (.iload_n 1, 1) := by decide +kernel
theorem dX4_toldPlayer_61 : decode cX4_toldPlayer 61 = .ok (.iconst 0, 1) := by decide +kernel
theorem dX4_toldPlayer_62 : decode cX4_toldPlayer 62 = .ok (.invokevirtual 146, 3) := by decide +kernel
theorem dX4_toldPlayer_65 : decode cX4_toldPlayer 65 = .ok (.ireturn, 1) := by decide +kernel
theorem dX4_toldPlayer_66 : decode cX4_toldPlayer 66 = .ok (.aload_n 0, 1) := by decide +kernel
theorem dX4_toldPlayer_67 : decode cX4_toldPlayer 67 = .ok (.iload_n 1, 1) := by decide +kernel
theorem dX4_toldPlayer_68 : decode cX4_toldPlayer 68 = .ok (.iconst 1, 1) := by decide +kernel
theorem dX4_toldPlayer_69 : decode cX4_toldPlayer 69 = .ok (.invokevirtual 76, 3) := by decide +kernel
theorem dX4_toldPlayer_72 : decode cX4_toldPlayer 72 = .ok (.ireturn, 1) := by decide +kernel
theorem dX4_toldPlayer_73 : decode cX4_toldPlayer 73 = .ok (.aload_n 0, 1) := by decide +kernel
theorem dX4_toldPlayer_74 : decode cX4_toldPlayer 74 = .ok (.iload_n 1, 1) := by decide +kernel
theorem dX4_toldPlayer_75 : decode cX4_toldPlayer 75 = .ok (.iconst 2, 1) := by decide +kernel
theorem dX4_toldPlayer_76 : decode cX4_toldPlayer 76 = .ok (.invokevirtual 76, 3) := by decide +kernel
theorem dX4_toldPlayer_79 : decode cX4_toldPlayer 79 = .ok (.ireturn, 1) := by decide +kernel
theorem dX4_toldPlayer_80 : decode cX4_toldPlayer 80 = .ok (.aload_n 0, 1) := by decide +kernel
theorem dX4_toldPlayer_81 : decode cX4_toldPlayer 81 = .ok (.iload_n 1, 1) := by decide +kernel
theorem dX4_toldPlayer_82 : decode cX4_toldPlayer 82 = .ok (.iconst 1, 1) := by decide +kernel
theorem dX4_toldPlayer_83 : decode cX4_toldPlayer 83 = .ok (.invokevirtual 146, 3) := by decide +kernel
theorem dX4_toldPlayer_86 : decode cX4_toldPlayer 86 = .ok (.ireturn, 1) := by decide +kernel
theorem dX4_toldPlayer_87 : decode cX4_toldPlayer 87 = .ok (.aload_n 0, 1) := by decide +kernel
theorem dX4_toldPlayer_88 : decode cX4_toldPlayer 88 = .ok (.iload_n 1, 1) := by decide +kernel
theorem dX4_toldPlayer_89 : decode cX4_toldPlayer 89 = .ok (.iconst 0, 1) := by decide +kernel
theorem dX4_toldPlayer_90 : decode cX4_toldPlayer 90 = .ok (.invokevirtual 142, 3) := by decide +kernel
theorem dX4_toldPlayer_93 : decode cX4_toldPlayer 93 = .ok (.ireturn, 1) := by decide +kernel
theorem dX4_toldPlayer_94 : decode cX4_toldPlayer 94 = .ok (.aload_n 0, 1) := by decide +kernel
theorem dX4_toldPlayer_95 : decode cX4_toldPlayer 95 = .ok (.iload_n 1, 1) := by decide +kernel
theorem dX4_toldPlayer_96 : decode cX4_toldPlayer 96 = .ok (.iconst 1, 1) := by decide +kernel
theorem dX4_toldPlayer_97 : decode cX4_toldPlayer 97 = .ok (.invokevirtual 142, 3) := by decide +kernel
theorem dX4_toldPlayer_100 : decode cX4_toldPlayer 100 = .ok (.ireturn, 1) := by decide +kernel
theorem dX4_toldPlayer_101 : decode cX4_toldPlayer 101 = .ok (.aload_n 0, 1) := by decide +kernel
theorem dX4_toldPlayer_102 : decode cX4_toldPlayer 102 = .ok (.iload_n 1, 1) := by decide +kernel
theorem dX4_toldPlayer_103 : decode cX4_toldPlayer 103 = .ok (.invokevirtual 149, 3) := by decide +kernel
theorem dX4_toldPlayer_106 : decode cX4_toldPlayer 106 = .ok (.ifCond .eq 7, 3) := by decide +kernel
theorem dX4_toldPlayer_109 : decode cX4_toldPlayer 109 = .ok (.iconst 1, 1) := by decide +kernel
theorem dX4_toldPlayer_110 : decode cX4_toldPlayer 110 = .ok (.goto 4, 3) := by decide +kernel
theorem dX4_toldPlayer_113 : decode cX4_toldPlayer 113 = .ok (.iconst 0, 1) := by decide +kernel
theorem dX4_toldPlayer_114 : decode cX4_toldPlayer 114 = .ok (.ireturn, 1) := by decide +kernel
theorem dX4_toldPlayer_115 : decode cX4_toldPlayer 115 = .ok (.aload_n 0, 1) := by decide +kernel
theorem dX4_toldPlayer_116 : decode cX4_toldPlayer 116 = .ok (.iload_n 1, 1) := by decide +kernel
theorem dX4_toldPlayer_117 : decode cX4_toldPlayer 117 = .ok (.iconst 3, 1) := by decide +kernel
theorem dX4_toldPlayer_118 : decode cX4_toldPlayer 118 = .ok (.invokevirtual 76, 3) := by decide +kernel
theorem dX4_toldPlayer_121 : decode cX4_toldPlayer 121 = .ok (.ireturn, 1) := by decide +kernel
theorem dX4_toldPlayer_122 : decode cX4_toldPlayer 122 = .ok (.aload_n 0, 1) := by decide +kernel
theorem dX4_toldPlayer_123 : decode cX4_toldPlayer 123 = .ok (.iload_n 1, 1) := by decide +kernel
theorem dX4_toldPlayer_124 : decode cX4_toldPlayer 124 = .ok (.iconst 4, 1) := by decide +kernel
theorem dX4_toldPlayer_125 : decode cX4_toldPlayer 125 = .ok (.invokevirtual 76, 3) := by decide +kernel
theorem dX4_toldPlayer_128 : decode cX4_toldPlayer 128 = .ok (.ireturn, 1) := by decide +kernel
set_option maxRecDepth 20000 in
theorem ggX4_player_X4_isPlayer : GoodIn wsX4_player wsX4_isPlayer := goodIn_r _ [5, 6, 7, 4, 8] (by decide +kernel) (by decide +kernel)
set_option maxRecDepth 20000 in
theorem gX4_player_X4_isPlayer : GoodIn wsX4_player (va_wsS RX4 57 yX4_isPlayer wsX4_isPlayer) := goodIn_app (goodIn_of _ (by decide +kernel)) ggX4_player_X4_isPlayer
set_option maxRecDepth 20000 in
theorem ggX4_player_X4_in : GoodIn wsX4_player wsX4_in := goodIn_r _ [8] (by decide +kernel) (by decide +kernel)
set_option maxRecDepth 20000 in
theorem gX4_player_X4_in : GoodIn wsX4_player (va_wsS RX4 33 yX4_in wsX4_in) := goodIn_app (goodIn_of _ (by decide +kernel)) ggX4_player_X4_in
set_option maxRecDepth 20000 in
theorem ggX4_player_X4_toldPlayer : GoodIn wsX4_player wsX4_toldPlayer := goodIn_r _ [12, 13, 14, 15, 4, 16, 17, 18, 19, 20, 21, 22, 23, 24, 25, 26, 27, 28, 29, 30, 31, 32, 33, 6, 7, 8, 34, 35, 36, 37, 38, 39, 40, 41, 42, 43, 44, 45, 46, 47, 48, 49, 50, 51, 52, 53, 54, 55, 56, 57, 58, 59, 60, 61, 62] (by decide +kernel) (by decide +kernel)
set_option maxRecDepth 20000 in
theorem gX4_player_X4_toldPlayer : GoodIn wsX4_player (wsV RX4 152 RX4 yX4_toldPlayer wsX4_toldPlayer) := goodIn_app (goodIn_of _ (by decide +kernel)) ggX4_player_X4_toldPlayer
theorem dX4_player_0 : decode cX4_player 0 = .ok (.aload_n 0, 1) := by decide +kernel
theorem dX4_player_1 : decode cX4_player 1 = .ok (.iload_n 1, 1) := by decide +kernel
theorem dX4_player_2 : decode cX4_player 2 = .ok (.invokestatic 57, 3) := by decide +kernel
theorem dX4_player_5 : decode cX4_player 5 = .ok (.ifCond .ne 7, 3) := by decide +kernel
theorem dX4_player_8 : decode cX4_player 8 = .ok (.iconst 1, 1) := by decide +kernel
theorem dX4_player_9 : decode cX4_player 9 = .ok (.goto 18, 3) := by decide +kernel
theorem dX4_player_12 : decode cX4_player 12 = .ok (.iload_n 2, 1) := by decide +kernel
theorem dX4_player_13 : decode cX4_player 13 = .ok (.iconst 0, 1) := by decide +kernel
theorem dX4_player_14 : decode cX4_player 14 = .ok (.bipush 9, 2) := by decide +kernel
theorem dX4_player_16 : decode cX4_player 16 = .ok (.invokestatic 33, 3) := by decide +kernel
theorem dX4_player_19 : decode cX4_player 19 = .ok (.ifCond .eq 7, 3) := by decide +kernel
theorem dX4_player_22 : decode cX4_player 22 = .ok (.iconst 0, 1) := by decide +kernel
theorem dX4_player_23 : decode cX4_player 23 = .ok (.goto 4, 3) := by decide +kernel
theorem dX4_player_26 : decode cX4_player 26 = .ok (.iconst 2, 1) := by decide +kernel
theorem dX4_player_27 : decode cX4_player 27 = .ok (.putfield 29, 3) := by decide +kernel
theorem dX4_player_30 : decode cX4_player 30 = .ok (.aload_n 0, 1) := by decide +kernel
theorem dX4_player_31 : decode cX4_player 31 = .ok (.getfield 29, 3) := by decide +kernel
theorem dX4_player_34 : decode cX4_player 34 = .ok (.ifCond .le 7, 3) := by decide +kernel
theorem dX4_player_37 : decode cX4_player 37 = .ok (.iconst 0, 1) := by decide +kernel
theorem dX4_player_38 : decode cX4_player 38 = .ok (.goto 9, 3) := by decide +kernel
theorem dX4_player_41 : decode cX4_player 41 = .ok (.aload_n 0, 1) := by decide +kernel
theorem dX4_player_42 : decode cX4_player 42 = .ok (.iload_n 1, 1) := by decide +kernel
theorem dX4_player_43 : decode cX4_player 43 = .ok (.iload_n 2, 1) := by decide +kernel
theorem dX4_player_44 : decode cX4_player 44 = .ok (.invokevirtual 152, 3) := by decide +kernel
theorem dX4_player_47 : decode cX4_player 47 = .ok (.ireturn, 1) := by decide +kernel
set_option maxRecDepth 20000 in
theorem ggX4_refusal_X4_isPlayer : GoodIn wsX4_refusal wsX4_isPlayer := goodIn_r _ [5, 6, 7, 4, 8] (by decide +kernel) (by decide +kernel)
set_option maxRecDepth 20000 in
theorem gX4_refusal_X4_isPlayer : GoodIn wsX4_refusal (va_wsS RX4 57 yX4_isPlayer wsX4_isPlayer) := goodIn_app (goodIn_of _ (by decide +kernel)) ggX4_refusal_X4_isPlayer
set_option maxRecDepth 20000 in
theorem ggX4_refusal_X4_in : GoodIn wsX4_refusal wsX4_in := goodIn_r _ [8] (by decide +kernel) (by decide +kernel)
set_option maxRecDepth 20000 in
theorem gX4_refusal_X4_in : GoodIn wsX4_refusal (va_wsS RX4 33 yX4_in wsX4_in) := goodIn_app (goodIn_of _ (by decide +kernel)) ggX4_refusal_X4_in
set_option maxRecDepth 20000 in
theorem ggX4_refusal_X4_of : GoodIn wsX4_refusal wsX4_of := goodIn_r _ [12, 13, 40, 41, 42, 43, 44, 45, 46, 47, 48, 49, 50, 51, 52] (by decide +kernel) (by decide +kernel)
set_option maxRecDepth 20000 in
theorem gX4_refusal_X4_of : GoodIn wsX4_refusal (wsV RX4 76 RX4 yX4_of wsX4_of) := goodIn_app (goodIn_of _ (by decide +kernel)) ggX4_refusal_X4_of
set_option maxRecDepth 20000 in
theorem ggX4_refusal_X4_whyNot : GoodIn wsX4_refusal wsX4_whyNot := goodIn_r _ [17, 13, 18, 19, 4, 20, 6, 7, 8, 9, 10, 11, 12, 21, 22, 23, 24, 25, 26, 27, 28, 29, 30, 31, 32, 33, 34, 35, 36, 37, 38, 39, 40, 41, 42, 43, 44, 45, 46, 47, 48, 49, 50, 51, 52] (by decide +kernel) (by decide +kernel)
set_option maxRecDepth 20000 in
theorem gX4_refusal_X4_whyNot : GoodIn wsX4_refusal (wsV RX4 89 RX4 yX4_whyNot wsX4_whyNot) := goodIn_app (goodIn_of _ (by decide +kernel)) ggX4_refusal_X4_whyNot
theorem dX4_refusal_0 : decode cX4_refusal 0 = .ok (.aload_n 0, 1) := by decide +kernel
theorem dX4_refusal_1 : decode cX4_refusal 1 = .ok (.iload_n 1, 1) := by decide +kernel
theorem dX4_refusal_2 : decode cX4_refusal 2 = .ok (.invokestatic 57, 3) := by decide +kernel
theorem dX4_refusal_5 : decode cX4_refusal 5 = .ok (.ifCond .ne 7, 3) := by decide +kernel
theorem dX4_refusal_8 : decode cX4_refusal 8 = .ok (.iconst 1, 1) := by decide +kernel
theorem dX4_refusal_9 : decode cX4_refusal 9 = .ok (.goto 27, 3) := by decide +kernel
theorem dX4_refusal_12 : decode cX4_refusal 12 = .ok (.iload_n 2, 1) := by decide +kernel
theorem dX4_refusal_13 : decode cX4_refusal 13 = .ok (.iconst 1, 1) := by decide +kernel
theorem dX4_refusal_14 : decode cX4_refusal 14 = .ok (.bipush 6, 2) := by decide +kernel
theorem dX4_refusal_16 : decode cX4_refusal 16 = .ok (.invokestatic 33, 3) := by decide +kernel
theorem dX4_refusal_19 : decode cX4_refusal 19 = .ok (.ifCond .eq 16, 3) := by decide +kernel
theorem dX4_refusal_22 : decode cX4_refusal 22 = .ok (.iload_n 3, 1) := by decide +kernel
theorem dX4_refusal_23 : decode cX4_refusal 23 = .ok (.iconst 0, 1) := by decide +kernel
theorem dX4_refusal_24 : decode cX4_refusal 24 = .ok (.iconst 3, 1) := by decide +kernel
theorem dX4_refusal_25 : decode cX4_refusal 25 = .ok (.invokestatic 33, 3) := by decide +kernel
theorem dX4_refusal_28 : decode cX4_refusal 28 = .ok (.ifCond .eq 7, 3) := by decide +kernel
theorem dX4_refusal_31 : decode cX4_refusal 31 = .ok (.iconst 0, 1) := by decide +kernel
theorem dX4_refusal_32 : decode cX4_refusal 32 = .ok (.goto 4, 3) := by decide +kernel
theorem dX4_refusal_35 : decode cX4_refusal 35 = .ok (.iconst 2, 1) := by decide +kernel
theorem dX4_refusal_36 : decode cX4_refusal 36 = .ok (.putfield 29, 3) := by decide +kernel
theorem dX4_refusal_39 : decode cX4_refusal 39 = .ok (.aload_n 0, 1) := by decide +kernel
theorem dX4_refusal_40 : decode cX4_refusal 40 = .ok (.getfield 29, 3) := by decide +kernel
theorem dX4_refusal_43 : decode cX4_refusal 43 = .ok (.ifCond .le 7, 3) := by decide +kernel
theorem dX4_refusal_46 : decode cX4_refusal 46 = .ok (.iconst 0, 1) := by decide +kernel
theorem dX4_refusal_47 : decode cX4_refusal 47 = .ok (.goto 16, 3) := by decide +kernel
theorem dX4_refusal_50 : decode cX4_refusal 50 = .ok (.aload_n 0, 1) := by decide +kernel
theorem dX4_refusal_51 : decode cX4_refusal 51 = .ok (.iload_n 1, 1) := by decide +kernel
theorem dX4_refusal_52 : decode cX4_refusal 52 = .ok (.aload_n 0, 1) := by decide +kernel
theorem dX4_refusal_53 : decode cX4_refusal 53 = .ok (.iload_n 1, 1) := by decide +kernel
theorem dX4_refusal_54 : decode cX4_refusal 54 = .ok (.iconst 1, 1) := by decide +kernel
theorem dX4_refusal_55 : decode cX4_refusal 55 = .ok (.invokevirtual 76, 3) := by decide +kernel
theorem dX4_refusal_58 : decode cX4_refusal 58 = .ok (.iload_n 2, 1) := by decide +kernel
theorem dX4_refusal_59 : decode cX4_refusal 59 = .ok (.iload_n 3, 1) := by decide +kernel
theorem dX4_refusal_60 : decode cX4_refusal 60 = .ok (.invokevirtual 89, 3) := by decide +kernel
theorem dX4_refusal_63 : decode cX4_refusal 63 = .ok (.ireturn, 1) := by decide +kernel
set_option maxRecDepth 20000 in
theorem ggX4_squaresWith_X4_tracks : GoodIn wsX4_squaresWith wsX4_tracks := goodIn_r _ [5, 6, 7, 8, 9, 10, 11, 12, 13, 14, 15, 16, 17, 18, 19] (by decide +kernel) (by decide +kernel)
set_option maxRecDepth 20000 in
theorem gX4_squaresWith_X4_tracks : GoodIn wsX4_squaresWith (wsV RX4 70 RX4 yX4_tracks wsX4_tracks) := goodIn_app (goodIn_of _ (by decide +kernel)) ggX4_squaresWith_X4_tracks
theorem dX4_squaresWith_0 : decode cX4_squaresWith 0 = .ok (.iconst 0, 1) := by decide +kernel
theorem dX4_squaresWith_1 : decode cX4_squaresWith 1 = .ok (.istore_n 2, 1) := by decide +kernel
theorem dX4_squaresWith_2 : decode cX4_squaresWith 2 = .ok (.iconst 0, 1) := by decide +kernel
theorem dX4_squaresWith_3 : decode cX4_squaresWith 3 = .ok (.istore_n 3, 1) := by decide +kernel
theorem dX4_squaresWith_4 : decode cX4_squaresWith 4 = .ok (.iload_n 3, 1) := by decide +kernel
theorem dX4_squaresWith_5 : decode cX4_squaresWith 5 = .ok (.bipush 80, 2) := by decide +kernel
theorem dX4_squaresWith_7 : decode cX4_squaresWith 7 = .ok (.if_icmp .ge 26, 3) := by decide +kernel
theorem dX4_squaresWith_10 : decode cX4_squaresWith 10 = .ok (.iload_n 2, 1) := by decide +kernel
theorem dX4_squaresWith_11 : decode cX4_squaresWith 11 = .ok (.aload_n 0, 1) := by decide +kernel
theorem dX4_squaresWith_12 : decode cX4_squaresWith 12 = .ok (.iload_n 3, 1) := by decide +kernel
theorem dX4_squaresWith_13 : decode cX4_squaresWith 13 = .ok (.invokevirtual 70, 3) := by decide +kernel
theorem dX4_squaresWith_16 : decode cX4_squaresWith 16 = .ok (.iload_n 1, 1) := by decide +kernel
theorem dX4_squaresWith_17 : decode cX4_squaresWith 17 = .ok (.if_icmp .lt 7, 3) := by decide +kernel
theorem dX4_squaresWith_20 : decode cX4_squaresWith 20 = .ok (.iconst 1, 1) := by decide +kernel
theorem dX4_squaresWith_21 : decode cX4_squaresWith 21 = .ok (.goto 4, 3) := by decide +kernel
theorem dX4_squaresWith_24 : decode cX4_squaresWith 24 = .ok (.iconst 0, 1) := by decide +kernel
theorem dX4_squaresWith_25 : decode cX4_squaresWith 25 = .ok (.iadd, 1) := by decide +kernel
theorem dX4_squaresWith_26 : decode cX4_squaresWith 26 = .ok (.istore_n 2, 1) := by decide +kernel
theorem dX4_squaresWith_27 : decode cX4_squaresWith 27 = .ok (.iinc 3 1, 3) := by decide +kernel
theorem dX4_squaresWith_30 : decode cX4_squaresWith 30 = .ok (.goto (-26), 3) := by decide +kernel
theorem dX4_squaresWith_33 : decode cX4_squaresWith 33 = .ok (.iload_n 2, 1) := by decide +kernel
theorem dX4_squaresWith_34 : decode cX4_squaresWith 34 = .ok (.ireturn, 1) := by decide +kernel
theorem dX4_houses_0 : decode cX4_houses 0 = .ok (.iconst 0, 1) := by decide +kernel
theorem dX4_houses_1 : decode cX4_houses 1 = .ok (.istore_n 1, 1) := by decide +kernel
theorem dX4_houses_2 : decode cX4_houses 2 = .ok (.iconst 0, 1) := by decide +kernel
theorem dX4_houses_3 : decode cX4_houses 3 = .ok (.istore_n 2, 1) := by decide +kernel
theorem dX4_houses_4 : decode cX4_houses 4 = .ok (.iload_n 2, 1) := by decide +kernel
theorem dX4_houses_5 : decode cX4_houses 5 = .ok (.bipush 80, 2) := by decide +kernel
theorem dX4_houses_7 : decode cX4_houses 7 = .ok (.if_icmp .ge 20, 3) := by decide +kernel
theorem dX4_houses_10 : decode cX4_houses 10 = .ok (.iload_n 1, 1) := by decide +kernel
theorem dX4_houses_11 : decode cX4_houses 11 = .ok (.aload_n 0, 1) := by decide +kernel
theorem dX4_houses_12 : decode cX4_houses 12 = .ok (.getfield 7, 3) := by decide +kernel
theorem dX4_houses_15 : decode cX4_houses 15 = .ok (.iconst 4, 1) := by decide +kernel
theorem dX4_houses_16 : decode cX4_houses 16 = .ok (.iload_n 2, 1) := by decide +kernel
theorem dX4_houses_17 : decode cX4_houses 17 = .ok (.iadd, 1) := by decide +kernel
theorem dX4_houses_18 : decode cX4_houses 18 = .ok (.iaload, 1) := by decide +kernel
theorem dX4_houses_19 : decode cX4_houses 19 = .ok (.iadd, 1) := by decide +kernel
theorem dX4_houses_20 : decode cX4_houses 20 = .ok (.istore_n 1, 1) := by decide +kernel
theorem dX4_houses_21 : decode cX4_houses 21 = .ok (.iinc 2 1, 3) := by decide +kernel
theorem dX4_houses_24 : decode cX4_houses 24 = .ok (.goto (-20), 3) := by decide +kernel
theorem dX4_houses_27 : decode cX4_houses 27 = .ok (.iload_n 1, 1) := by decide +kernel
theorem dX4_houses_28 : decode cX4_houses 28 = .ok (.ireturn, 1) := by decide +kernel
set_option maxRecDepth 20000 in
theorem ggX4_stops_X4_isStop : GoodIn wsX4_stops wsX4_isStop := goodIn_r _ [5, 6, 7, 4, 8, 9, 10, 11, 12, 13, 14, 15, 16, 17, 18, 19, 20, 21, 22, 23, 24, 25, 26] (by decide +kernel) (by decide +kernel)
set_option maxRecDepth 20000 in
theorem gX4_stops_X4_isStop : GoodIn wsX4_stops (wsV RX4 67 RX4 yX4_isStop wsX4_isStop) := goodIn_app (goodIn_of _ (by decide +kernel)) ggX4_stops_X4_isStop
theorem dX4_stops_0 : decode cX4_stops 0 = .ok (.iconst 0, 1) := by decide +kernel
theorem dX4_stops_1 : decode cX4_stops 1 = .ok (.istore_n 1, 1) := by decide +kernel
theorem dX4_stops_2 : decode cX4_stops 2 = .ok (.iconst 0, 1) := by decide +kernel
theorem dX4_stops_3 : decode cX4_stops 3 = .ok (.istore_n 2, 1) := by decide +kernel
theorem dX4_stops_4 : decode cX4_stops 4 = .ok (.iload_n 2, 1) := by decide +kernel
theorem dX4_stops_5 : decode cX4_stops 5 = .ok (.bipush 12, 2) := by decide +kernel
theorem dX4_stops_7 : decode cX4_stops 7 = .ok (.if_icmp .ge 25, 3) := by decide +kernel
theorem dX4_stops_10 : decode cX4_stops 10 = .ok (.iload_n 1, 1) := by decide +kernel
theorem dX4_stops_11 : decode cX4_stops 11 = .ok (.aload_n 0, 1) := by decide +kernel
theorem dX4_stops_12 : decode cX4_stops 12 = .ok (.iload_n 2, 1) := by decide +kernel
theorem dX4_stops_13 : decode cX4_stops 13 = .ok (.invokevirtual 67, 3) := by decide +kernel
theorem dX4_stops_16 : decode cX4_stops 16 = .ok (.ifCond .eq 7, 3) := by decide +kernel
theorem dX4_stops_19 : decode cX4_stops 19 = .ok (.iconst 1, 1) := by decide +kernel
theorem dX4_stops_20 : decode cX4_stops 20 = .ok (.goto 4, 3) := by decide +kernel
theorem dX4_stops_23 : decode cX4_stops 23 = .ok (.iconst 0, 1) := by decide +kernel
theorem dX4_stops_24 : decode cX4_stops 24 = .ok (.iadd, 1) := by decide +kernel
theorem dX4_stops_25 : decode cX4_stops 25 = .ok (.istore_n 1, 1) := by decide +kernel
theorem dX4_stops_26 : decode cX4_stops 26 = .ok (.iinc 2 1, 3) := by decide +kernel
theorem dX4_stops_29 : decode cX4_stops 29 = .ok (.goto (-25), 3) := by decide +kernel
theorem dX4_stops_32 : decode cX4_stops 32 = .ok (.iload_n 1, 1) := by decide +kernel
theorem dX4_stops_33 : decode cX4_stops 33 = .ok (.ireturn, 1) := by decide +kernel
set_option maxRecDepth 20000 in
theorem ggX4_paid_X4_of : GoodIn wsX4_paid wsX4_of := goodIn_r _ [5, 6, 7, 8, 9, 10, 11, 12, 13, 14, 15, 16, 17, 18, 19] (by decide +kernel) (by decide +kernel)
set_option maxRecDepth 20000 in
theorem gX4_paid_X4_of : GoodIn wsX4_paid (wsV RX4 76 RX4 yX4_of wsX4_of) := goodIn_app (goodIn_of _ (by decide +kernel)) ggX4_paid_X4_of
theorem dX4_paid_0 : decode cX4_paid 0 = .ok (.iconst 0, 1) := by decide +kernel
theorem dX4_paid_1 : decode cX4_paid 1 = .ok (.istore_n 1, 1) := by decide +kernel
theorem dX4_paid_2 : decode cX4_paid 2 = .ok (.iconst 0, 1) := by decide +kernel
theorem dX4_paid_3 : decode cX4_paid 3 = .ok (.istore_n 2, 1) := by decide +kernel
theorem dX4_paid_4 : decode cX4_paid 4 = .ok (.iload_n 2, 1) := by decide +kernel
theorem dX4_paid_5 : decode cX4_paid 5 = .ok (.iconst 4, 1) := by decide +kernel
theorem dX4_paid_6 : decode cX4_paid 6 = .ok (.if_icmp .ge 18, 3) := by decide +kernel
theorem dX4_paid_9 : decode cX4_paid 9 = .ok (.iload_n 1, 1) := by decide +kernel
theorem dX4_paid_10 : decode cX4_paid 10 = .ok (.aload_n 0, 1) := by decide +kernel
theorem dX4_paid_11 : decode cX4_paid 11 = .ok (.iload_n 2, 1) := by decide +kernel
theorem dX4_paid_12 : decode cX4_paid 12 = .ok (.iconst 3, 1) := by decide +kernel
theorem dX4_paid_13 : decode cX4_paid 13 = .ok (.invokevirtual 76, 3) := by decide +kernel
theorem dX4_paid_16 : decode cX4_paid 16 = .ok (.iadd, 1) := by decide +kernel
theorem dX4_paid_17 : decode cX4_paid 17 = .ok (.istore_n 1, 1) := by decide +kernel
theorem dX4_paid_18 : decode cX4_paid 18 = .ok (.iinc 2 1, 3) := by decide +kernel
theorem dX4_paid_21 : decode cX4_paid 21 = .ok (.goto (-17), 3) := by decide +kernel
theorem dX4_paid_24 : decode cX4_paid 24 = .ok (.iload_n 1, 1) := by decide +kernel
theorem dX4_paid_25 : decode cX4_paid 25 = .ok (.ireturn, 1) := by decide +kernel
set_option maxRecDepth 20000 in
theorem ggX4_joined_X4_isJoined : GoodIn wsX4_joined wsX4_isJoined := goodIn_r _ [5, 6, 7, 8, 4, 9, 10, 11, 12, 13, 14, 15, 16, 17, 18, 19, 20, 21, 22, 23, 24, 25, 26, 27, 28, 29, 30, 31, 32, 33, 34, 35, 36, 37, 38, 39, 40, 41, 42, 43, 44, 45, 46] (by decide +kernel) (by decide +kernel)
set_option maxRecDepth 20000 in
theorem gX4_joined_X4_isJoined : GoodIn wsX4_joined (wsV RX4 149 RX4 yX4_isJoined wsX4_isJoined) := goodIn_app (goodIn_of _ (by decide +kernel)) ggX4_joined_X4_isJoined
theorem dX4_joined_0 : decode cX4_joined 0 = .ok (.iconst 0, 1) := by decide +kernel
theorem dX4_joined_1 : decode cX4_joined 1 = .ok (.istore_n 1, 1) := by decide +kernel
theorem dX4_joined_2 : decode cX4_joined 2 = .ok (.iconst 0, 1) := by decide +kernel
theorem dX4_joined_3 : decode cX4_joined 3 = .ok (.istore_n 2, 1) := by decide +kernel
theorem dX4_joined_4 : decode cX4_joined 4 = .ok (.iload_n 2, 1) := by decide +kernel
theorem dX4_joined_5 : decode cX4_joined 5 = .ok (.iconst 4, 1) := by decide +kernel
theorem dX4_joined_6 : decode cX4_joined 6 = .ok (.if_icmp .ge 25, 3) := by decide +kernel
theorem dX4_joined_9 : decode cX4_joined 9 = .ok (.iload_n 1, 1) := by decide +kernel
theorem dX4_joined_10 : decode cX4_joined 10 = .ok (.aload_n 0, 1) := by decide +kernel
theorem dX4_joined_11 : decode cX4_joined 11 = .ok (.iload_n 2, 1) := by decide +kernel
theorem dX4_joined_12 : decode cX4_joined 12 = .ok (.invokevirtual 149, 3) := by decide +kernel
theorem dX4_joined_15 : decode cX4_joined 15 = .ok (.ifCond .eq 7, 3) := by decide +kernel
theorem dX4_joined_18 : decode cX4_joined 18 = .ok (.iconst 1, 1) := by decide +kernel
theorem dX4_joined_19 : decode cX4_joined 19 = .ok (.goto 4, 3) := by decide +kernel
theorem dX4_joined_22 : decode cX4_joined 22 = .ok (.iconst 0, 1) := by decide +kernel
theorem dX4_joined_23 : decode cX4_joined 23 = .ok (.iadd, 1) := by decide +kernel
theorem dX4_joined_24 : decode cX4_joined 24 = .ok (.istore_n 1, 1) := by decide +kernel
theorem dX4_joined_25 : decode cX4_joined 25 = .ok (.iinc 2 1, 3) := by decide +kernel
theorem dX4_joined_28 : decode cX4_joined 28 = .ok (.goto (-24), 3) := by decide +kernel
theorem dX4_joined_31 : decode cX4_joined 31 = .ok (.iload_n 1, 1) := by decide +kernel
theorem dX4_joined_32 : decode cX4_joined 32 = .ok (.ireturn, 1) := by decide +kernel
set_option maxRecDepth 20000 in
theorem ggX4_counted_X4_houses : GoodIn wsX4_counted wsX4_houses := goodIn_r _ [7, 1, 63, 64, 65, 66, 67, 68, 69, 70, 71, 72, 73, 74, 75] (by decide +kernel) (by decide +kernel)
set_option maxRecDepth 20000 in
theorem gX4_counted_X4_houses : GoodIn wsX4_counted (wsV RX4 155 RX4 yX4_houses wsX4_houses) := goodIn_app (goodIn_of _ (by decide +kernel)) ggX4_counted_X4_houses
set_option maxRecDepth 20000 in
theorem ggX4_counted_X4_stops : GoodIn wsX4_counted wsX4_stops := goodIn_r _ [11, 12, 13, 14, 6, 15, 16, 17, 18, 19, 20, 21, 22, 1, 63, 64, 65, 66, 67, 68, 69, 70, 71, 72, 73, 74, 75] (by decide +kernel) (by decide +kernel)
set_option maxRecDepth 20000 in
theorem gX4_counted_X4_stops : GoodIn wsX4_counted (wsV RX4 158 RX4 yX4_stops wsX4_stops) := goodIn_app (goodIn_of _ (by decide +kernel)) ggX4_counted_X4_stops
set_option maxRecDepth 20000 in
theorem ggX4_counted_X4_squaresWith : GoodIn wsX4_counted wsX4_squaresWith := goodIn_r _ [26, 27, 28, 29, 6, 30, 1, 63, 64, 65, 66, 67, 68, 69, 70, 71, 72, 73, 74, 75] (by decide +kernel) (by decide +kernel)
set_option maxRecDepth 20000 in
theorem gX4_counted_X4_squaresWith : GoodIn wsX4_counted (wsV RX4 161 RX4 yX4_squaresWith wsX4_squaresWith) := goodIn_app (goodIn_of _ (by decide +kernel)) ggX4_counted_X4_squaresWith
set_option maxRecDepth 20000 in
theorem ggX4_counted_X4_paid : GoodIn wsX4_counted wsX4_paid := goodIn_r _ [34, 35, 36, 37, 6, 38, 1, 63, 64, 65, 66, 67, 68, 69, 70, 71, 72, 73, 74, 75] (by decide +kernel) (by decide +kernel)
set_option maxRecDepth 20000 in
theorem gX4_counted_X4_paid : GoodIn wsX4_counted (wsV RX4 164 RX4 yX4_paid wsX4_paid) := goodIn_app (goodIn_of _ (by decide +kernel)) ggX4_counted_X4_paid
set_option maxRecDepth 20000 in
theorem ggX4_counted_X4_joined : GoodIn wsX4_counted wsX4_joined := goodIn_r _ [42, 43, 44, 45, 6, 46, 47, 48, 49, 50, 12, 13, 14, 15, 16, 17, 18, 19, 20, 21, 22, 1, 51, 52, 53, 54, 55, 56, 57, 58, 59, 60, 61, 62, 63, 64, 65, 66, 67, 68, 69, 70, 71, 72, 73, 74, 75] (by decide +kernel) (by decide +kernel)
set_option maxRecDepth 20000 in
theorem gX4_counted_X4_joined : GoodIn wsX4_counted (wsV RX4 167 RX4 yX4_joined wsX4_joined) := goodIn_app (goodIn_of _ (by decide +kernel)) ggX4_counted_X4_joined
theorem dX4_counted_0 : decode cX4_counted 0 = .ok (.iload_n 1, 1) := by decide +kernel
theorem dX4_counted_1 : decode cX4_counted 1 = .ok (.tableswitch 82 0 6 #[43, 48, 53, 59, 65, 72, 77], 43) := by decide +kernel
theorem dX4_counted_44 : decode cX4_counted 44 = .ok (.aload_n 0, 1) := by decide +kernel
theorem dX4_counted_45 : decode cX4_counted 45 = .ok (.invokevirtual 155, 3) := by decide +kernel
theorem dX4_counted_48 : decode cX4_counted 48 = .ok (.ireturn, 1) := by decide +kernel
theorem dX4_counted_49 : decode cX4_counted 49 = .ok (.aload_n 0, 1) := by decide +kernel
theorem dX4_counted_50 : decode cX4_counted 50 = .ok (.invokevirtual 158, 3) := by decide +kernel
theorem dX4_counted_53 : decode cX4_counted 53 = .ok (.ireturn, 1) := by decide +kernel
theorem dX4_counted_54 : decode cX4_counted 54 = .ok (.aload_n 0, 1) := by decide +kernel
theorem dX4_counted_55 : decode cX4_counted 55 = .ok (.iconst 1, 1) := by decide +kernel
theorem dX4_counted_56 : decode cX4_counted 56 = .ok (.invokevirtual 161, 3) := by decide +kernel
theorem dX4_counted_59 : decode cX4_counted 59 = .ok (.ireturn, 1) := by decide +kernel
theorem dX4_counted_60 : decode cX4_counted 60 = .ok (.aload_n 0, 1) := by decide +kernel
theorem dX4_counted_61 : decode cX4_counted 61 = .ok (.iconst 2, 1) := by decide +kernel
theorem dX4_counted_62 : decode cX4_counted 62 = .ok (.invokevirtual 161, 3) := by decide +kernel
theorem dX4_counted_65 : decode cX4_counted 65 = .ok (.ireturn, 1) := by decide +kernel
theorem dX4_counted_66 : decode cX4_counted 66 = .ok (.aload_n 0, 1) := by decide +kernel
theorem dX4_counted_67 : decode cX4_counted 67 = .ok (.getfield 7, 3) := by decide +kernel
theorem dX4_counted_70 : decode cX4_counted 70 = .ok (.iconst 3, 1) := by decide +kernel
theorem dX4_counted_71 : decode cX4_counted 71 = .ok (.iaload, 1) := by decide +kernel
theorem dX4_counted_72 : decode cX4_counted 72 = .ok (.ireturn, 1) := by decide +kernel
theorem dX4_counted_73 : decode cX4_counted 73 = .ok (.aload_n 0, 1) := by decide +kernel
theorem dX4_counted_74 : decode cX4_counted 74 = .ok (.invokevirtual 164, 3) := by decide +kernel
theorem dX4_counted_77 : decode cX4_counted 77 = .ok (.ireturn, 1) := by decide +kernel
theorem dX4_counted_78 : decode cX4_counted 78 = .ok (.aload_n 0, 1) := by decide +kernel
theorem dX4_counted_79 : decode cX4_counted 79 = .ok (.invokevirtual 167, 3) := by decide +kernel
theorem dX4_counted_82 : decode cX4_counted 82 = .ok (.ireturn, 1) := by decide +kernel
theorem dX4_counted_83 : decode cX4_counted 83 = .ok (.aload_n 0, 1) := by decide +kernel
theorem dX4_counted_84 : decode cX4_counted 84 = .ok (.getfield 40, 3) := by decide +kernel
theorem dX4_counted_87 : decode cX4_counted 87 = .ok (.ireturn, 1) := by decide +kernel
set_option maxRecDepth 20000 in
theorem ggX4_count_X4_in : GoodIn wsX4_count wsX4_in := goodIn_r _ [5] (by decide +kernel) (by decide +kernel)
set_option maxRecDepth 20000 in
theorem gX4_count_X4_in : GoodIn wsX4_count (va_wsS RX4 33 yX4_in wsX4_in) := goodIn_app (goodIn_of _ (by decide +kernel)) ggX4_count_X4_in
set_option maxRecDepth 20000 in
theorem ggX4_count_X4_counted : GoodIn wsX4_count wsX4_counted := goodIn_r _ [9, 10, 11, 12, 13, 14, 4, 15, 16, 17, 18, 19, 20, 21, 22, 23, 2, 3, 5, 24, 25, 26, 27, 28, 29, 30, 31, 32, 33, 34, 35, 36, 37, 38, 39, 40, 41, 42, 43, 44, 45, 46, 47, 48, 49, 50, 51, 52, 53, 54, 55, 56, 57, 58, 59, 60, 61, 62, 63, 64, 65, 66, 67, 68, 69, 70, 71, 72, 73, 74, 75, 76, 77, 78, 79, 80] (by decide +kernel) (by decide +kernel)
set_option maxRecDepth 20000 in
theorem gX4_count_X4_counted : GoodIn wsX4_count (wsV RX4 170 RX4 yX4_counted wsX4_counted) := goodIn_app (goodIn_of _ (by decide +kernel)) ggX4_count_X4_counted
theorem dX4_count_0 : decode cX4_count 0 = .ok (.aload_n 0, 1) := by decide +kernel
theorem dX4_count_1 : decode cX4_count 1 = .ok (.iload_n 1, 1) := by decide +kernel
theorem dX4_count_2 : decode cX4_count 2 = .ok (.iconst 0, 1) := by decide +kernel
theorem dX4_count_3 : decode cX4_count 3 = .ok (.bipush 7, 2) := by decide +kernel
theorem dX4_count_5 : decode cX4_count 5 = .ok (.invokestatic 33, 3) := by decide +kernel
theorem dX4_count_8 : decode cX4_count 8 = .ok (.ifCond .eq 7, 3) := by decide +kernel
theorem dX4_count_11 : decode cX4_count 11 = .ok (.iconst 0, 1) := by decide +kernel
theorem dX4_count_12 : decode cX4_count 12 = .ok (.goto 4, 3) := by decide +kernel
theorem dX4_count_15 : decode cX4_count 15 = .ok (.iconst 1, 1) := by decide +kernel
theorem dX4_count_16 : decode cX4_count 16 = .ok (.putfield 29, 3) := by decide +kernel
theorem dX4_count_19 : decode cX4_count 19 = .ok (.aload_n 0, 1) := by decide +kernel
theorem dX4_count_20 : decode cX4_count 20 = .ok (.getfield 29, 3) := by decide +kernel
theorem dX4_count_23 : decode cX4_count 23 = .ok (.ifCond .le 7, 3) := by decide +kernel
theorem dX4_count_26 : decode cX4_count 26 = .ok (.iconst 0, 1) := by decide +kernel
theorem dX4_count_27 : decode cX4_count 27 = .ok (.goto 8, 3) := by decide +kernel
theorem dX4_count_30 : decode cX4_count 30 = .ok (.aload_n 0, 1) := by decide +kernel
theorem dX4_count_31 : decode cX4_count 31 = .ok (.iload_n 1, 1) := by decide +kernel
theorem dX4_count_32 : decode cX4_count 32 = .ok (.invokevirtual 170, 3) := by decide +kernel
theorem dX4_count_35 : decode cX4_count 35 = .ok (.ireturn, 1) := by decide +kernel
set_option maxRecDepth 20000 in
theorem ggX4_setting_X4_in : GoodIn wsX4_setting wsX4_in := goodIn_r _ [6] (by decide +kernel) (by decide +kernel)
set_option maxRecDepth 20000 in
theorem gX4_setting_X4_in : GoodIn wsX4_setting (va_wsS RX4 33 yX4_in wsX4_in) := goodIn_app (goodIn_of _ (by decide +kernel)) ggX4_setting_X4_in
theorem dX4_setting_0 : decode cX4_setting 0 = .ok (.aload_n 0, 1) := by decide +kernel
theorem dX4_setting_1 : decode cX4_setting 1 = .ok (.iload_n 1, 1) := by decide +kernel
theorem dX4_setting_2 : decode cX4_setting 2 = .ok (.iconst 0, 1) := by decide +kernel
theorem dX4_setting_3 : decode cX4_setting 3 = .ok (.iconst 2, 1) := by decide +kernel
theorem dX4_setting_4 : decode cX4_setting 4 = .ok (.invokestatic 33, 3) := by decide +kernel
theorem dX4_setting_7 : decode cX4_setting 7 = .ok (.ifCond .eq 7, 3) := by decide +kernel
theorem dX4_setting_10 : decode cX4_setting 10 = .ok (.iconst 0, 1) := by decide +kernel
theorem dX4_setting_11 : decode cX4_setting 11 = .ok (.goto 4, 3) := by decide +kernel
theorem dX4_setting_14 : decode cX4_setting 14 = .ok (.iconst 1, 1) := by decide +kernel
theorem dX4_setting_15 : decode cX4_setting 15 = .ok (.putfield 29, 3) := by decide +kernel
theorem dX4_setting_18 : decode cX4_setting 18 = .ok (.aload_n 0, 1) := by decide +kernel
theorem dX4_setting_19 : decode cX4_setting 19 = .ok (.getfield 29, 3) := by decide +kernel
theorem dX4_setting_22 : decode cX4_setting 22 = .ok (.ifCond .le 7, 3) := by decide +kernel
theorem dX4_setting_25 : decode cX4_setting 25 = .ok (.iconst 0, 1) := by decide +kernel
theorem dX4_setting_26 : decode cX4_setting 26 = .ok (.goto 11, 3) := by decide +kernel
theorem dX4_setting_29 : decode cX4_setting 29 = .ok (.aload_n 0, 1) := by decide +kernel
theorem dX4_setting_30 : decode cX4_setting 30 = .ok (.getfield 7, 3) := by decide +kernel
theorem dX4_setting_33 : decode cX4_setting 33 = .ok (.iconst 0, 1) := by decide +kernel
theorem dX4_setting_34 : decode cX4_setting 34 = .ok (.iload_n 1, 1) := by decide +kernel
theorem dX4_setting_35 : decode cX4_setting 35 = .ok (.iadd, 1) := by decide +kernel
theorem dX4_setting_36 : decode cX4_setting 36 = .ok (.iaload, 1) := by decide +kernel
theorem dX4_setting_37 : decode cX4_setting 37 = .ok (.ireturn, 1) := by decide +kernel
set_option maxRecDepth 20000 in
theorem ggX4_isOpen_X4_isHouse : GoodIn wsX4_isOpen wsX4_isHouse := goodIn_r _ [6, 1, 15, 16, 17, 18, 19, 20, 21, 22, 23, 24, 25, 26, 27] (by decide +kernel) (by decide +kernel)
set_option maxRecDepth 20000 in
theorem gX4_isOpen_X4_isHouse : GoodIn wsX4_isOpen (wsV RX4 60 RX4 yX4_isHouse wsX4_isHouse) := goodIn_app (goodIn_of _ (by decide +kernel)) ggX4_isOpen_X4_isHouse
set_option maxRecDepth 20000 in
theorem ggX4_isOpen_X4_hasTrack : GoodIn wsX4_isOpen wsX4_hasTrack := goodIn_r _ [10, 1, 15, 16, 17, 18, 19, 20, 21, 22, 23, 24, 25, 26, 27] (by decide +kernel) (by decide +kernel)
set_option maxRecDepth 20000 in
theorem gX4_isOpen_X4_hasTrack : GoodIn wsX4_isOpen (wsV RX4 82 RX4 yX4_hasTrack wsX4_hasTrack) := goodIn_app (goodIn_of _ (by decide +kernel)) ggX4_isOpen_X4_hasTrack
set_option maxRecDepth 20000 in
theorem ggX4_isOpen_X4_tracks : GoodIn wsX4_isOpen wsX4_tracks := goodIn_r _ [14, 1, 15, 16, 17, 18, 19, 20, 21, 22, 23, 24, 25, 26, 27] (by decide +kernel) (by decide +kernel)
set_option maxRecDepth 20000 in
theorem gX4_isOpen_X4_tracks : GoodIn wsX4_isOpen (wsV RX4 70 RX4 yX4_tracks wsX4_tracks) := goodIn_app (goodIn_of _ (by decide +kernel)) ggX4_isOpen_X4_tracks
theorem dX4_isOpen_0 : decode cX4_isOpen 0 = .ok (.aload_n 0, 1) := by decide +kernel
theorem dX4_isOpen_1 : decode cX4_isOpen 1 = .ok (.iload_n 2, 1) := by decide +kernel
theorem dX4_isOpen_2 : decode cX4_isOpen 2 = .ok (.invokevirtual 60, 3) := by decide +kernel
theorem dX4_isOpen_5 : decode cX4_isOpen 5 = .ok (.ifCond .ne 30, 3) := by decide +kernel
theorem dX4_isOpen_8 : decode cX4_isOpen 8 = .ok (.aload_n 0, 1) := by decide +kernel
theorem dX4_isOpen_9 : decode cX4_isOpen 9 = .ok (.iload_n 1, 1) := by decide +kernel
theorem dX4_isOpen_10 : decode cX4_isOpen 10 = .ok (.iload_n 2, 1) := by decide +kernel
theorem dX4_isOpen_11 : decode cX4_isOpen 11 = .ok (.invokevirtual 82, 3) := by decide +kernel
theorem dX4_isOpen_14 : decode cX4_isOpen 14 = .ok (.ifCond .ne 21, 3) := by decide +kernel
theorem dX4_isOpen_17 : decode cX4_isOpen 17 = .ok (.aload_n 0, 1) := by decide +kernel
theorem dX4_isOpen_18 : decode cX4_isOpen 18 = .ok (.iload_n 2, 1) := by decide +kernel
theorem dX4_isOpen_19 : decode cX4_isOpen 19 = .ok (.invokevirtual 70, 3) := by decide +kernel
theorem dX4_isOpen_22 : decode cX4_isOpen 22 = .ok (.aload_n 0, 1) := by decide +kernel
theorem dX4_isOpen_23 : decode cX4_isOpen 23 = .ok (.getfield 7, 3) := by decide +kernel
theorem dX4_isOpen_26 : decode cX4_isOpen 26 = .ok (.iconst 1, 1) := by decide +kernel
theorem dX4_isOpen_27 : decode cX4_isOpen 27 = .ok (.iaload, 1) := by decide +kernel
theorem dX4_isOpen_28 : decode cX4_isOpen 28 = .ok (.if_icmp .ge 7, 3) := by decide +kernel
theorem dX4_isOpen_31 : decode cX4_isOpen 31 = .ok (.iconst 1, 1) := by decide +kernel
theorem dX4_isOpen_32 : decode cX4_isOpen 32 = .ok (.goto 4, 3) := by decide +kernel
theorem dX4_isOpen_35 : decode cX4_isOpen 35 = .ok (.iconst 0, 1) := by decide +kernel
theorem dX4_isOpen_36 : decode cX4_isOpen 36 = .ok (.ireturn, 1) := by decide +kernel
set_option maxRecDepth 20000 in
theorem ggX4_layWays_X4_hasTrack : GoodIn wsX4_layWays wsX4_hasTrack := goodIn_r _ [7, 8, 31, 32, 33, 34, 35, 36, 37, 38, 39, 40, 41, 42, 43] (by decide +kernel) (by decide +kernel)
set_option maxRecDepth 20000 in
theorem gX4_layWays_X4_hasTrack : GoodIn wsX4_layWays (wsV RX4 82 RX4 yX4_hasTrack wsX4_hasTrack) := goodIn_app (goodIn_of _ (by decide +kernel)) ggX4_layWays_X4_hasTrack
set_option maxRecDepth 20000 in
theorem ggX4_layWays_X4_beside : GoodIn wsX4_layWays wsX4_beside := goodIn_r _ [11, 12, 13, 6, 14] (by decide +kernel) (by decide +kernel)
set_option maxRecDepth 20000 in
theorem gX4_layWays_X4_beside : GoodIn wsX4_layWays (va_wsS RX4 73 yX4_beside wsX4_beside) := goodIn_app (goodIn_of _ (by decide +kernel)) ggX4_layWays_X4_beside
set_option maxRecDepth 20000 in
theorem ggX4_layWays_X4_toll : GoodIn wsX4_layWays wsX4_toll := goodIn_r _ [18, 8, 19, 20, 21, 6, 22, 31, 32, 33, 34, 35, 36, 37, 38, 39, 40, 41, 42, 43] (by decide +kernel) (by decide +kernel)
set_option maxRecDepth 20000 in
theorem gX4_layWays_X4_toll : GoodIn wsX4_layWays (wsV RX4 86 RX4 yX4_toll wsX4_toll) := goodIn_app (goodIn_of _ (by decide +kernel)) ggX4_layWays_X4_toll
set_option maxRecDepth 20000 in
theorem ggX4_layWays_X4_isOpen : GoodIn wsX4_layWays wsX4_isOpen := goodIn_r _ [26, 8, 27, 28, 29, 6, 30, 3, 4, 5, 7, 19, 20, 21, 22, 31, 32, 33, 34, 35, 36, 37, 38, 39, 40, 41, 42, 43] (by decide +kernel) (by decide +kernel)
set_option maxRecDepth 20000 in
theorem gX4_layWays_X4_isOpen : GoodIn wsX4_layWays (wsV RX4 174 RX4 yX4_isOpen wsX4_isOpen) := goodIn_app (goodIn_of _ (by decide +kernel)) ggX4_layWays_X4_isOpen
theorem dX4_layWays_0 : decode cX4_layWays 0 = .ok (.iconst 0, 1) := by decide +kernel
theorem dX4_layWays_1 : decode cX4_layWays 1 = .ok (.istore_n 3, 1) := by decide +kernel
theorem dX4_layWays_2 : decode cX4_layWays 2 = .ok (.iload_n 3, 1) := by decide +kernel
theorem dX4_layWays_3 : decode cX4_layWays 3 = .ok (.bipush 80, 2) := by decide +kernel
theorem dX4_layWays_5 : decode cX4_layWays 5 = .ok (.if_icmp .ge 30, 3) := by decide +kernel
theorem dX4_layWays_8 : decode cX4_layWays 8 = .ok (.aload_n 0, 1) := by decide +kernel
theorem dX4_layWays_9 : decode cX4_layWays 9 = .ok (.getfield 22, 3) := by decide +kernel
theorem dX4_layWays_12 : decode cX4_layWays 12 = .ok (.iload_n 3, 1) := by decide +kernel
theorem dX4_layWays_13 : decode cX4_layWays 13 = .ok (.aload_n 0, 1) := by decide +kernel
theorem dX4_layWays_14 : decode cX4_layWays 14 = .ok (.iload_n 1, 1) := by decide +kernel
theorem dX4_layWays_15 : decode cX4_layWays 15 = .ok (.iload_n 3, 1) := by decide +kernel
theorem dX4_layWays_16 : decode cX4_layWays 16 = .ok (.invokevirtual 82, 3) := by decide +kernel
theorem dX4_layWays_19 : decode cX4_layWays 19 = .ok (.ifCond .eq 7, 3) := by decide +kernel
theorem dX4_layWays_22 : decode cX4_layWays 22 = .ok (.iconst 0, 1) := by decide +kernel
theorem dX4_layWays_23 : decode cX4_layWays 23 = .ok (.goto 5, 3) := by decide +kernel
theorem dX4_layWays_26 : decode cX4_layWays 26 = .ok (.ldc 173, 2) := by decide +kernel
theorem dX4_layWays_28 : decode cX4_layWays 28 = .ok (.iastore, 1) := by decide +kernel
theorem dX4_layWays_29 : decode cX4_layWays 29 = .ok (.iinc 3 1, 3) := by decide +kernel
theorem dX4_layWays_32 : decode cX4_layWays 32 = .ok (.goto (-30), 3) := by decide +kernel
theorem dX4_layWays_35 : decode cX4_layWays 35 = .ok (.iconst 1, 1) := by decide +kernel
theorem dX4_layWays_36 : decode cX4_layWays 36 = .ok (.istore_n 3, 1) := by decide +kernel
theorem dX4_layWays_37 : decode cX4_layWays 37 = .ok (.iload_n 3, 1) := by decide +kernel
theorem dX4_layWays_38 : decode cX4_layWays 38 = .ok (.ifCond .eq 129, 3) := by decide +kernel
theorem dX4_layWays_41 : decode cX4_layWays 41 = .ok (.iconst 0, 1) := by decide +kernel
theorem dX4_layWays_42 : decode cX4_layWays 42 = .ok (.istore_n 3, 1) := by decide +kernel
theorem dX4_layWays_43 : decode cX4_layWays 43 = .ok (.iconst 0, 1) := by decide +kernel
theorem dX4_layWays_44 : decode cX4_layWays 44 = .ok (.istore 4, 2) := by decide +kernel
theorem dX4_layWays_46 : decode cX4_layWays 46 = .ok (.iload 4, 2) := by decide +kernel
theorem dX4_layWays_48 : decode cX4_layWays 48 = .ok (.sipush 320, 3) := by decide +kernel
theorem dX4_layWays_51 : decode cX4_layWays 51 = .ok (.if_icmp .ge 113, 3) := by decide +kernel
theorem dX4_layWays_54 : decode cX4_layWays 54 = .ok (.iload 4, 2) := by decide +kernel
theorem dX4_layWays_56 : decode cX4_layWays 56 = .ok (.iconst 4, 1) := by decide +kernel
theorem dX4_layWays_57 : decode cX4_layWays 57 = .ok (.idiv, 1) := by decide +kernel
theorem dX4_layWays_58 : decode cX4_layWays 58 = .ok (.iload 4, 2) := by decide +kernel
theorem dX4_layWays_60 : decode cX4_layWays 60 = .ok (.iconst 4, 1) := by decide +kernel
theorem dX4_layWays_61 : decode cX4_layWays 61 = .ok (.irem, 1) := by decide +kernel
theorem dX4_layWays_62 : decode cX4_layWays 62 = .ok (.invokestatic 73, 3) := by decide +kernel
theorem dX4_layWays_65 : decode cX4_layWays 65 = .ok (.istore 5, 2) := by decide +kernel
theorem dX4_layWays_67 : decode cX4_layWays 67 = .ok (.iload_n 2, 1) := by decide +kernel
theorem dX4_layWays_68 : decode cX4_layWays 68 = .ok (.ifCond .eq 14, 3) := by decide +kernel
theorem dX4_layWays_71 : decode cX4_layWays 71 = .ok (.aload_n 0, 1) := by decide +kernel
theorem dX4_layWays_72 : decode cX4_layWays 72 = .ok (.iload 4, 2) := by decide +kernel
theorem dX4_layWays_74 : decode cX4_layWays 74 = .ok (.iconst 4, 1) := by decide +kernel
theorem dX4_layWays_75 : decode cX4_layWays 75 = .ok (.idiv, 1) := by decide +kernel
theorem dX4_layWays_76 : decode cX4_layWays 76 = .ok (.invokevirtual 86, 3) := by decide +kernel
theorem dX4_layWays_79 : decode cX4_layWays 79 = .ok (.goto 4, 3) := by decide +kernel
theorem dX4_layWays_82 : decode cX4_layWays 82 = .ok (.iconst 1, 1) := by decide +kernel
theorem dX4_layWays_83 : decode cX4_layWays 83 = .ok (.istore 6, 2) := by decide +kernel
theorem dX4_layWays_85 : decode cX4_layWays 85 = .ok (.iload 5, 2) := by decide +kernel
theorem dX4_layWays_87 : decode cX4_layWays 87 = .ok (.iconst (-1), 1) := by decide +kernel
theorem dX4_layWays_88 : decode cX4_layWays 88 = .ok (.if_icmp .eq 70, 3) := by decide +kernel
theorem dX4_layWays_91 : decode cX4_layWays 91 = .ok (.aload_n 0, 1) := by decide +kernel
theorem dX4_layWays_92 : decode cX4_layWays 92 = .ok (.getfield 22, 3) := by decide +kernel
theorem dX4_layWays_95 : decode cX4_layWays 95 = .ok (.iload 5, 2) := by decide +kernel
theorem dX4_layWays_97 : decode cX4_layWays 97 = .ok (.iaload, 1) := by decide +kernel
theorem dX4_layWays_98 : decode cX4_layWays 98 = .ok (.ldc 173, 2) := by decide +kernel
theorem dX4_layWays_100 : decode cX4_layWays 100 = .ok (.if_icmp .ge 58, 3) := by decide +kernel
theorem dX4_layWays_103 : decode cX4_layWays 103 = .ok (.aload_n 0, 1) := by decide +kernel
theorem dX4_layWays_104 : decode cX4_layWays 104 = .ok (.iload_n 1, 1) := by decide +kernel
theorem dX4_layWays_105 : decode cX4_layWays 105 = .ok (.iload 4, 2) := by decide +kernel
theorem dX4_layWays_107 : decode cX4_layWays 107 = .ok (.iconst 4, 1) := by decide +kernel
theorem dX4_layWays_108 : decode cX4_layWays 108 = .ok (.idiv, 1) := by decide +kernel
theorem dX4_layWays_109 : decode cX4_layWays 109 = .ok (.invokevirtual 174, 3) := by decide +kernel
theorem dX4_layWays_112 : decode cX4_layWays 112 = .ok (.ifCond .eq 46, 3) := by decide +kernel
theorem dX4_layWays_115 : decode cX4_layWays 115 = .ok (.aload_n 0, 1) := by decide +kernel
theorem dX4_layWays_116 : decode cX4_layWays 116 = .ok (.getfield 22, 3) := by decide +kernel
theorem dX4_layWays_119 : decode cX4_layWays 119 = .ok (.iload 5, 2) := by decide +kernel
theorem dX4_layWays_121 : decode cX4_layWays 121 = .ok (.iaload, 1) := by decide +kernel
theorem dX4_layWays_122 : decode cX4_layWays 122 = .ok (.iload 6, 2) := by decide +kernel
theorem dX4_layWays_124 : decode cX4_layWays 124 = .ok (.iadd, 1) := by decide +kernel
theorem dX4_layWays_125 : decode cX4_layWays 125 = .ok (.aload_n 0, 1) := by decide +kernel
theorem dX4_layWays_126 : decode cX4_layWays 126 = .ok (.getfield 22, 3) := by decide +kernel
theorem dX4_layWays_129 : decode cX4_layWays 129 = .ok (.iload 4, 2) := by decide +kernel
theorem dX4_layWays_131 : decode cX4_layWays 131 = .ok (.iconst 4, 1) := by decide +kernel
theorem dX4_layWays_132 : decode cX4_layWays 132 = .ok (.idiv, 1) := by decide +kernel
theorem dX4_layWays_133 : decode cX4_layWays 133 = .ok (.iaload, 1) := by decide +kernel
theorem dX4_layWays_134 : decode cX4_layWays 134 = .ok (.if_icmp .ge 24, 3) := by decide +kernel
theorem dX4_layWays_137 : decode cX4_layWays 137 = .ok (.aload_n 0, 1) := by decide +kernel
theorem dX4_layWays_138 : decode cX4_layWays 138 = .ok (.getfield 22, 3) := by decide +kernel
theorem dX4_layWays_141 : decode cX4_layWays 141 = .ok (.iload 4, 2) := by decide +kernel
theorem dX4_layWays_143 : decode cX4_layWays 143 = .ok (.iconst 4, 1) := by decide +kernel
theorem dX4_layWays_144 : decode cX4_layWays 144 = .ok (.idiv, 1) := by decide +kernel
theorem dX4_layWays_145 : decode cX4_layWays 145 = .ok (.aload_n 0, 1) := by decide +kernel
theorem dX4_layWays_146 : decode cX4_layWays 146 = .ok (.getfield 22, 3) := by decide +kernel
theorem dX4_layWays_149 : decode cX4_layWays 149 = .ok (.iload 5, 2) := by decide +kernel
theorem dX4_layWays_151 : decode cX4_layWays 151 = .ok (.iaload, 1) := by decide +kernel
theorem dX4_layWays_152 : decode cX4_layWays 152 = .ok (.iload 6, 2) := by decide +kernel
theorem dX4_layWays_154 : decode cX4_layWays 154 = .ok (.iadd, 1) := by decide +kernel
theorem dX4_layWays_155 : decode cX4_layWays 155 = .ok (.iastore, 1) := by decide +kernel
theorem dX4_layWays_156 : decode cX4_layWays 156 = .ok (.iconst 1, 1) := by decide +kernel
theorem dX4_layWays_157 : decode cX4_layWays 157 = .ok (.istore_n 3, 1) := by decide +kernel
theorem dX4_layWays_158 : decode cX4_layWays 158 = .ok (.iinc 4 1, 3) := by decide +kernel
theorem dX4_layWays_161 : decode cX4_layWays 161 = .ok (.goto (-115), 3) := by decide +kernel
theorem dX4_layWays_164 : decode cX4_layWays 164 = .ok (.goto (-127), 3) := by decide +kernel
theorem dX4_layWays_167 : decode cX4_layWays 167 = .ok (.return_, 1) := by decide +kernel
set_option maxRecDepth 20000 in
theorem ggX4_wayTo_X4_layWays : GoodIn wsX4_wayTo wsX4_layWays := goodIn_r _ [7, 1, 2, 8, 9, 10, 6, 11, 12, 13, 14, 15, 16, 17, 18, 19, 20, 21, 22, 23, 24, 25, 26, 27, 28, 29, 30, 31, 32, 33, 34, 35, 36, 37, 38, 39, 40, 41, 42, 43, 44, 45, 46, 47] (by decide +kernel) (by decide +kernel)
set_option maxRecDepth 20000 in
theorem gX4_wayTo_X4_layWays : GoodIn wsX4_wayTo (wsV RX4 177 RX4 yX4_layWays wsX4_layWays) := goodIn_app (goodIn_of _ (by decide +kernel)) ggX4_wayTo_X4_layWays
theorem dX4_wayTo_0 : decode cX4_wayTo 0 = .ok (.aload_n 0, 1) := by decide +kernel
theorem dX4_wayTo_1 : decode cX4_wayTo 1 = .ok (.iload_n 1, 1) := by decide +kernel
theorem dX4_wayTo_2 : decode cX4_wayTo 2 = .ok (.iload_n 3, 1) := by decide +kernel
theorem dX4_wayTo_3 : decode cX4_wayTo 3 = .ok (.invokevirtual 177, 3) := by decide +kernel
theorem dX4_wayTo_6 : decode cX4_wayTo 6 = .ok (.aload_n 0, 1) := by decide +kernel
theorem dX4_wayTo_7 : decode cX4_wayTo 7 = .ok (.getfield 22, 3) := by decide +kernel
theorem dX4_wayTo_10 : decode cX4_wayTo 10 = .ok (.iload_n 2, 1) := by decide +kernel
theorem dX4_wayTo_11 : decode cX4_wayTo 11 = .ok (.iaload, 1) := by decide +kernel
theorem dX4_wayTo_12 : decode cX4_wayTo 12 = .ok (.ldc 173, 2) := by decide +kernel
theorem dX4_wayTo_14 : decode cX4_wayTo 14 = .ok (.if_icmp .ge 12, 3) := by decide +kernel
theorem dX4_wayTo_17 : decode cX4_wayTo 17 = .ok (.aload_n 0, 1) := by decide +kernel
theorem dX4_wayTo_18 : decode cX4_wayTo 18 = .ok (.getfield 22, 3) := by decide +kernel
theorem dX4_wayTo_21 : decode cX4_wayTo 21 = .ok (.iload_n 2, 1) := by decide +kernel
theorem dX4_wayTo_22 : decode cX4_wayTo 22 = .ok (.iaload, 1) := by decide +kernel
theorem dX4_wayTo_23 : decode cX4_wayTo 23 = .ok (.goto 4, 3) := by decide +kernel
theorem dX4_wayTo_26 : decode cX4_wayTo 26 = .ok (.iconst (-1), 1) := by decide +kernel
theorem dX4_wayTo_27 : decode cX4_wayTo 27 = .ok (.ireturn, 1) := by decide +kernel
set_option maxRecDepth 20000 in
theorem ggX4_away_X4_isPlayer : GoodIn wsX4_away wsX4_isPlayer := goodIn_r _ [5, 6, 7, 4, 8] (by decide +kernel) (by decide +kernel)
set_option maxRecDepth 20000 in
theorem gX4_away_X4_isPlayer : GoodIn wsX4_away (va_wsS RX4 57 yX4_isPlayer wsX4_isPlayer) := goodIn_app (goodIn_of _ (by decide +kernel)) ggX4_away_X4_isPlayer
set_option maxRecDepth 20000 in
theorem ggX4_away_X4_isSquare : GoodIn wsX4_away wsX4_isSquare := goodIn_r _ [11, 6, 7, 4, 8] (by decide +kernel) (by decide +kernel)
set_option maxRecDepth 20000 in
theorem gX4_away_X4_isSquare : GoodIn wsX4_away (va_wsS RX4 46 yX4_isSquare wsX4_isSquare) := goodIn_app (goodIn_of _ (by decide +kernel)) ggX4_away_X4_isSquare
set_option maxRecDepth 20000 in
theorem ggX4_away_X4_wayTo : GoodIn wsX4_away wsX4_wayTo := goodIn_r _ [15, 16, 17, 18, 19, 20, 4, 21, 22, 23, 24, 25, 26, 27, 28, 29, 6, 7, 8, 30, 31, 32, 33, 34, 35, 36, 37, 38, 39, 40, 41, 42, 43, 44, 45, 46, 47, 48, 49, 50, 51, 52, 53, 54, 55, 56, 57, 58] (by decide +kernel) (by decide +kernel)
set_option maxRecDepth 20000 in
theorem gX4_away_X4_wayTo : GoodIn wsX4_away (wsV RX4 181 RX4 yX4_wayTo wsX4_wayTo) := goodIn_app (goodIn_of _ (by decide +kernel)) ggX4_away_X4_wayTo
theorem dX4_away_0 : decode cX4_away 0 = .ok (.aload_n 0, 1) := by decide +kernel
theorem dX4_away_1 : decode cX4_away 1 = .ok (.iload_n 1, 1) := by decide +kernel
theorem dX4_away_2 : decode cX4_away 2 = .ok (.invokestatic 57, 3) := by decide +kernel
theorem dX4_away_5 : decode cX4_away 5 = .ok (.ifCond .eq 14, 3) := by decide +kernel
theorem dX4_away_8 : decode cX4_away 8 = .ok (.iload_n 2, 1) := by decide +kernel
theorem dX4_away_9 : decode cX4_away 9 = .ok (.invokestatic 46, 3) := by decide +kernel
theorem dX4_away_12 : decode cX4_away 12 = .ok (.ifCond .eq 7, 3) := by decide +kernel
theorem dX4_away_15 : decode cX4_away 15 = .ok (.iconst 0, 1) := by decide +kernel
theorem dX4_away_16 : decode cX4_away 16 = .ok (.goto 4, 3) := by decide +kernel
theorem dX4_away_19 : decode cX4_away 19 = .ok (.iconst 1, 1) := by decide +kernel
theorem dX4_away_20 : decode cX4_away 20 = .ok (.putfield 29, 3) := by decide +kernel
theorem dX4_away_23 : decode cX4_away 23 = .ok (.aload_n 0, 1) := by decide +kernel
theorem dX4_away_24 : decode cX4_away 24 = .ok (.getfield 29, 3) := by decide +kernel
theorem dX4_away_27 : decode cX4_away 27 = .ok (.ifCond .le 7, 3) := by decide +kernel
theorem dX4_away_30 : decode cX4_away 30 = .ok (.iconst 0, 1) := by decide +kernel
theorem dX4_away_31 : decode cX4_away 31 = .ok (.goto 10, 3) := by decide +kernel
theorem dX4_away_34 : decode cX4_away 34 = .ok (.aload_n 0, 1) := by decide +kernel
theorem dX4_away_35 : decode cX4_away 35 = .ok (.iload_n 1, 1) := by decide +kernel
theorem dX4_away_36 : decode cX4_away 36 = .ok (.iload_n 2, 1) := by decide +kernel
theorem dX4_away_37 : decode cX4_away 37 = .ok (.iconst 0, 1) := by decide +kernel
theorem dX4_away_38 : decode cX4_away 38 = .ok (.invokevirtual 181, 3) := by decide +kernel
theorem dX4_away_41 : decode cX4_away 41 = .ok (.ireturn, 1) := by decide +kernel
set_option maxRecDepth 20000 in
theorem ggX4_cheapest_X4_isPlayer : GoodIn wsX4_cheapest wsX4_isPlayer := goodIn_r _ [5, 6, 7, 4, 8] (by decide +kernel) (by decide +kernel)
set_option maxRecDepth 20000 in
theorem gX4_cheapest_X4_isPlayer : GoodIn wsX4_cheapest (va_wsS RX4 57 yX4_isPlayer wsX4_isPlayer) := goodIn_app (goodIn_of _ (by decide +kernel)) ggX4_cheapest_X4_isPlayer
set_option maxRecDepth 20000 in
theorem ggX4_cheapest_X4_isSquare : GoodIn wsX4_cheapest wsX4_isSquare := goodIn_r _ [11, 6, 7, 4, 8] (by decide +kernel) (by decide +kernel)
set_option maxRecDepth 20000 in
theorem gX4_cheapest_X4_isSquare : GoodIn wsX4_cheapest (va_wsS RX4 46 yX4_isSquare wsX4_isSquare) := goodIn_app (goodIn_of _ (by decide +kernel)) ggX4_cheapest_X4_isSquare
set_option maxRecDepth 20000 in
theorem ggX4_cheapest_X4_wayTo : GoodIn wsX4_cheapest wsX4_wayTo := goodIn_r _ [15, 16, 17, 18, 19, 20, 4, 21, 22, 23, 24, 25, 26, 27, 28, 29, 6, 7, 8, 30, 31, 32, 33, 34, 35, 36, 37, 38, 39, 40, 41, 42, 43, 44, 45, 46, 47, 48, 49, 50, 51, 52, 53, 54, 55, 56, 57, 58] (by decide +kernel) (by decide +kernel)
set_option maxRecDepth 20000 in
theorem gX4_cheapest_X4_wayTo : GoodIn wsX4_cheapest (wsV RX4 181 RX4 yX4_wayTo wsX4_wayTo) := goodIn_app (goodIn_of _ (by decide +kernel)) ggX4_cheapest_X4_wayTo
theorem dX4_cheapest_0 : decode cX4_cheapest 0 = .ok (.aload_n 0, 1) := by decide +kernel
theorem dX4_cheapest_1 : decode cX4_cheapest 1 = .ok (.iload_n 1, 1) := by decide +kernel
theorem dX4_cheapest_2 : decode cX4_cheapest 2 = .ok (.invokestatic 57, 3) := by decide +kernel
theorem dX4_cheapest_5 : decode cX4_cheapest 5 = .ok (.ifCond .eq 14, 3) := by decide +kernel
theorem dX4_cheapest_8 : decode cX4_cheapest 8 = .ok (.iload_n 2, 1) := by decide +kernel
theorem dX4_cheapest_9 : decode cX4_cheapest 9 = .ok (.invokestatic 46, 3) := by decide +kernel
theorem dX4_cheapest_12 : decode cX4_cheapest 12 = .ok (.ifCond .eq 7, 3) := by decide +kernel
theorem dX4_cheapest_15 : decode cX4_cheapest 15 = .ok (.iconst 0, 1) := by decide +kernel
theorem dX4_cheapest_16 : decode cX4_cheapest 16 = .ok (.goto 4, 3) := by decide +kernel
theorem dX4_cheapest_19 : decode cX4_cheapest 19 = .ok (.iconst 1, 1) := by decide +kernel
theorem dX4_cheapest_20 : decode cX4_cheapest 20 = .ok (.putfield 29, 3) := by decide +kernel
theorem dX4_cheapest_23 : decode cX4_cheapest 23 = .ok (.aload_n 0, 1) := by decide +kernel
theorem dX4_cheapest_24 : decode cX4_cheapest 24 = .ok (.getfield 29, 3) := by decide +kernel
theorem dX4_cheapest_27 : decode cX4_cheapest 27 = .ok (.ifCond .le 7, 3) := by decide +kernel
theorem dX4_cheapest_30 : decode cX4_cheapest 30 = .ok (.iconst 0, 1) := by decide +kernel
theorem dX4_cheapest_31 : decode cX4_cheapest 31 = .ok (.goto 10, 3) := by decide +kernel
theorem dX4_cheapest_34 : decode cX4_cheapest 34 = .ok (.aload_n 0, 1) := by decide +kernel
theorem dX4_cheapest_35 : decode cX4_cheapest 35 = .ok (.iload_n 1, 1) := by decide +kernel
theorem dX4_cheapest_36 : decode cX4_cheapest 36 = .ok (.iload_n 2, 1) := by decide +kernel
theorem dX4_cheapest_37 : decode cX4_cheapest 37 = .ok (.iconst 1, 1) := by decide +kernel
theorem dX4_cheapest_38 : decode cX4_cheapest 38 = .ok (.invokevirtual 181, 3) := by decide +kernel
theorem dX4_cheapest_41 : decode cX4_cheapest 41 = .ok (.ireturn, 1) := by decide +kernel
set_option maxRecDepth 20000 in
theorem ggX4_missingOf_X4_isStop : GoodIn wsX4_missingOf wsX4_isStop := goodIn_r _ [5, 6, 7, 4, 8, 9, 10, 11, 12, 13, 26, 27, 28, 29, 30, 31, 32, 33, 34, 35, 36, 37, 38] (by decide +kernel) (by decide +kernel)
set_option maxRecDepth 20000 in
theorem gX4_missingOf_X4_isStop : GoodIn wsX4_missingOf (wsV RX4 67 RX4 yX4_isStop wsX4_isStop) := goodIn_app (goodIn_of _ (by decide +kernel)) ggX4_missingOf_X4_isStop
set_option maxRecDepth 20000 in
theorem ggX4_missingOf_X4_stopPlayer : GoodIn wsX4_missingOf wsX4_stopPlayer := goodIn_r _ [17, 13, 26, 27, 28, 29, 30, 31, 32, 33, 34, 35, 36, 37, 38] (by decide +kernel) (by decide +kernel)
set_option maxRecDepth 20000 in
theorem gX4_missingOf_X4_stopPlayer : GoodIn wsX4_missingOf (wsV RX4 43 RX4 yX4_stopPlayer wsX4_stopPlayer) := goodIn_app (goodIn_of _ (by decide +kernel)) ggX4_missingOf_X4_stopPlayer
set_option maxRecDepth 20000 in
theorem ggX4_missingOf_X4_isReached : GoodIn wsX4_missingOf wsX4_isReached := goodIn_r _ [21, 14, 15, 16, 4, 17, 13, 9, 10, 11, 12, 22, 23, 24, 25, 26, 27, 28, 29, 30, 31, 32, 33, 34, 35, 36, 37, 38] (by decide +kernel) (by decide +kernel)
set_option maxRecDepth 20000 in
theorem gX4_missingOf_X4_isReached : GoodIn wsX4_missingOf (wsV RX4 136 RX4 yX4_isReached wsX4_isReached) := goodIn_app (goodIn_of _ (by decide +kernel)) ggX4_missingOf_X4_isReached
theorem dX4_missingOf_0 : decode cX4_missingOf 0 = .ok (.iconst 0, 1) := by decide +kernel
theorem dX4_missingOf_1 : decode cX4_missingOf 1 = .ok (.istore_n 2, 1) := by decide +kernel
theorem dX4_missingOf_2 : decode cX4_missingOf 2 = .ok (.iconst 0, 1) := by decide +kernel
theorem dX4_missingOf_3 : decode cX4_missingOf 3 = .ok (.istore_n 3, 1) := by decide +kernel
theorem dX4_missingOf_4 : decode cX4_missingOf 4 = .ok (.iload_n 3, 1) := by decide +kernel
theorem dX4_missingOf_5 : decode cX4_missingOf 5 = .ok (.bipush 12, 2) := by decide +kernel
theorem dX4_missingOf_7 : decode cX4_missingOf 7 = .ok (.if_icmp .ge 44, 3) := by decide +kernel
theorem dX4_missingOf_10 : decode cX4_missingOf 10 = .ok (.iload_n 2, 1) := by decide +kernel
theorem dX4_missingOf_11 : decode cX4_missingOf 11 = .ok (.aload_n 0, 1) := by decide +kernel
theorem dX4_missingOf_12 : decode cX4_missingOf 12 = .ok (.iload_n 3, 1) := by decide +kernel
theorem dX4_missingOf_13 : decode cX4_missingOf 13 = .ok (.invokevirtual 67, 3) := by decide +kernel
theorem dX4_missingOf_16 : decode cX4_missingOf 16 = .ok (.ifCond .eq 26, 3) := by decide +kernel
theorem dX4_missingOf_19 : decode cX4_missingOf 19 = .ok (.aload_n 0, 1) := by decide +kernel
theorem dX4_missingOf_20 : decode cX4_missingOf 20 = .ok (.iload_n 3, 1) := by decide +kernel
theorem dX4_missingOf_21 : decode cX4_missingOf 21 = .ok (.invokevirtual 43, 3) := by decide +kernel
theorem dX4_missingOf_24 : decode cX4_missingOf 24 = .ok (.iload_n 1, 1) := by decide +kernel
theorem dX4_missingOf_25 : decode cX4_missingOf 25 = .ok (.if_icmp .ne 17, 3) := by decide +kernel
theorem dX4_missingOf_28 : decode cX4_missingOf 28 = .ok (.aload_n 0, 1) := by decide +kernel
theorem dX4_missingOf_29 : decode cX4_missingOf 29 = .ok (.iload_n 3, 1) := by decide +kernel
theorem dX4_missingOf_30 : decode cX4_missingOf 30 = .ok (.invokevirtual 136, 3) := by decide +kernel
theorem dX4_missingOf_33 : decode cX4_missingOf 33 = .ok (.ifCond .ne 9, 3) := by decide +kernel
theorem dX4_missingOf_36 : decode cX4_missingOf 36 = .ok (.iconst 1, 1) := by decide +kernel
theorem dX4_missingOf_37 : decode cX4_missingOf 37 = .ok (.iload_n 3, 1) := by decide +kernel
theorem dX4_missingOf_38 : decode cX4_missingOf 38 = .ok (.ishl, 1) := by decide +kernel
theorem dX4_missingOf_39 : decode cX4_missingOf 39 = .ok (.goto 4, 3) := by decide +kernel
theorem dX4_missingOf_42 : decode cX4_missingOf 42 = .ok (.iconst 0, 1) := by decide +kernel
theorem dX4_missingOf_43 : decode cX4_missingOf 43 = .ok (.ior, 1) := by decide +kernel
theorem dX4_missingOf_44 : decode cX4_missingOf 44 = .ok (.istore_n 2, 1) := by decide +kernel
theorem dX4_missingOf_45 : decode cX4_missingOf 45 = .ok (.iinc 3 1, 3) := by decide +kernel
theorem dX4_missingOf_48 : decode cX4_missingOf 48 = .ok (.goto (-44), 3) := by decide +kernel
theorem dX4_missingOf_51 : decode cX4_missingOf 51 = .ok (.iload_n 2, 1) := by decide +kernel
theorem dX4_missingOf_52 : decode cX4_missingOf 52 = .ok (.ireturn, 1) := by decide +kernel
set_option maxRecDepth 20000 in
theorem ggX4_farWith_X4_layWays : GoodIn wsX4_farWith wsX4_layWays := goodIn_r _ [9, 4, 2, 10, 11, 12, 8, 13, 1, 14, 15, 16, 17, 18, 19, 20, 21, 22, 23, 24, 25, 26, 27, 28, 29, 30, 31, 32, 33, 34, 35, 40, 41, 42, 43, 44, 45, 46, 47, 48, 49, 50, 51, 52] (by decide +kernel) (by decide +kernel)
set_option maxRecDepth 20000 in
theorem gX4_farWith_X4_layWays : GoodIn wsX4_farWith (wsV RX4 177 RX4 yX4_layWays wsX4_layWays) := goodIn_app (goodIn_of _ (by decide +kernel)) ggX4_farWith_X4_layWays
set_option maxRecDepth 20000 in
theorem ggX4_farWith_X4_stopSquare : GoodIn wsX4_farWith wsX4_stopSquare := goodIn_r _ [39, 1, 40, 41, 42, 43, 44, 45, 46, 47, 48, 49, 50, 51, 52] (by decide +kernel) (by decide +kernel)
set_option maxRecDepth 20000 in
theorem gX4_farWith_X4_stopSquare : GoodIn wsX4_farWith (wsV RX4 37 RX4 yX4_stopSquare wsX4_stopSquare) := goodIn_app (goodIn_of _ (by decide +kernel)) ggX4_farWith_X4_stopSquare
theorem dX4_farWith_0 : decode cX4_farWith 0 = .ok (.aload_n 0, 1) := by decide +kernel
theorem dX4_farWith_1 : decode cX4_farWith 1 = .ok (.getfield 7, 3) := by decide +kernel
theorem dX4_farWith_4 : decode cX4_farWith 4 = .ok (.bipush 84, 2) := by decide +kernel
theorem dX4_farWith_6 : decode cX4_farWith 6 = .ok (.iload_n 2, 1) := by decide +kernel
theorem dX4_farWith_7 : decode cX4_farWith 7 = .ok (.iadd, 1) := by decide +kernel
theorem dX4_farWith_8 : decode cX4_farWith 8 = .ok (.iaload, 1) := by decide +kernel
theorem dX4_farWith_9 : decode cX4_farWith 9 = .ok (.istore_n 3, 1) := by decide +kernel
theorem dX4_farWith_10 : decode cX4_farWith 10 = .ok (.aload_n 0, 1) := by decide +kernel
theorem dX4_farWith_11 : decode cX4_farWith 11 = .ok (.getfield 7, 3) := by decide +kernel
theorem dX4_farWith_14 : decode cX4_farWith 14 = .ok (.bipush 84, 2) := by decide +kernel
theorem dX4_farWith_16 : decode cX4_farWith 16 = .ok (.iload_n 2, 1) := by decide +kernel
theorem dX4_farWith_17 : decode cX4_farWith 17 = .ok (.iadd, 1) := by decide +kernel
theorem dX4_farWith_18 : decode cX4_farWith 18 = .ok (.iload_n 3, 1) := by decide +kernel
theorem dX4_farWith_19 : decode cX4_farWith 19 = .ok (.iconst 1, 1) := by decide +kernel
theorem dX4_farWith_20 : decode cX4_farWith 20 = .ok (.iload_n 1, 1) := by decide +kernel
theorem dX4_farWith_21 : decode cX4_farWith 21 = .ok (.ishl, 1) := by decide +kernel
theorem dX4_farWith_22 : decode cX4_farWith 22 = .ok (.ior, 1) := by decide +kernel
theorem dX4_farWith_23 : decode cX4_farWith 23 = .ok (.iastore, 1) := by decide +kernel
theorem dX4_farWith_24 : decode cX4_farWith 24 = .ok (.aload_n 0, 1) := by decide +kernel
theorem dX4_farWith_25 : decode cX4_farWith 25 = .ok (.iload_n 1, 1) := by decide +kernel
theorem dX4_farWith_26 : decode cX4_farWith 26 = .ok (.iconst 0, 1) := by decide +kernel
theorem dX4_farWith_27 : decode cX4_farWith 27 = .ok (.invokevirtual 177, 3) := by decide +kernel
theorem dX4_farWith_30 : decode cX4_farWith 30 = .ok (.aload_n 0, 1) := by decide +kernel
theorem dX4_farWith_31 : decode cX4_farWith 31 = .ok (.getfield 7, 3) := by decide +kernel
theorem dX4_farWith_34 : decode cX4_farWith 34 = .ok (.bipush 84, 2) := by decide +kernel
theorem dX4_farWith_36 : decode cX4_farWith 36 = .ok (.iload_n 2, 1) := by decide +kernel
theorem dX4_farWith_37 : decode cX4_farWith 37 = .ok (.iadd, 1) := by decide +kernel
theorem dX4_farWith_38 : decode cX4_farWith 38 = .ok (.iload_n 3, 1) := by decide +kernel
theorem dX4_farWith_39 : decode cX4_farWith 39 = .ok (.iastore, 1) := by decide +kernel
theorem dX4_farWith_40 : decode cX4_farWith 40 = .ok (.ldc 173, 2) := by decide +kernel
theorem dX4_farWith_42 : decode cX4_farWith 42 = .ok (.istore 4, 2) := by decide +kernel
theorem dX4_farWith_44 : decode cX4_farWith 44 = .ok (.iconst 0, 1) := by decide +kernel
theorem dX4_farWith_45 : decode cX4_farWith 45 = .ok (.istore 5, 2) := by decide +kernel
theorem dX4_farWith_47 : decode cX4_farWith 47 = .ok (.iload 5, 2) := by decide +kernel
theorem dX4_farWith_49 : decode cX4_farWith 49 = .ok (.bipush 12, 2) := by decide +kernel
theorem dX4_farWith_51 : decode cX4_farWith 51 = .ok (.if_icmp .ge 56, 3) := by decide +kernel
theorem dX4_farWith_54 : decode cX4_farWith 54 = .ok (.aload_n 0, 1) := by decide +kernel
theorem dX4_farWith_55 : decode cX4_farWith 55 = .ok (.getfield 185, 3) := by decide +kernel
theorem dX4_farWith_58 : decode cX4_farWith 58 = .ok (.iload 5, 2) := by decide +kernel
theorem dX4_farWith_60 : decode cX4_farWith 60 = .ok (.ishr, 1) := by decide +kernel
theorem dX4_farWith_61 : decode cX4_farWith 61 = .ok (.iconst 1, 1) := by decide +kernel
theorem dX4_farWith_62 : decode cX4_farWith 62 = .ok (.iand, 1) := by decide +kernel
theorem dX4_farWith_63 : decode cX4_farWith 63 = .ok (.iconst 1, 1) := by decide +kernel
theorem dX4_farWith_64 : decode cX4_farWith 64 = .ok (.if_icmp .ne 33, 3) := by decide +kernel
theorem dX4_farWith_67 : decode cX4_farWith 67 = .ok (.aload_n 0, 1) := by decide +kernel
theorem dX4_farWith_68 : decode cX4_farWith 68 = .ok (.getfield 22, 3) := by decide +kernel
theorem dX4_farWith_71 : decode cX4_farWith 71 = .ok (.aload_n 0, 1) := by decide +kernel
theorem dX4_farWith_72 : decode cX4_farWith 72 = .ok (.iload 5, 2) := by decide +kernel
theorem dX4_farWith_74 : decode cX4_farWith 74 = .ok (.invokevirtual 37, 3) := by decide +kernel
theorem dX4_farWith_77 : decode cX4_farWith 77 = .ok (.iaload, 1) := by decide +kernel
theorem dX4_farWith_78 : decode cX4_farWith 78 = .ok (.iload 4, 2) := by decide +kernel
theorem dX4_farWith_80 : decode cX4_farWith 80 = .ok (.if_icmp .ge 17, 3) := by decide +kernel
theorem dX4_farWith_83 : decode cX4_farWith 83 = .ok (.aload_n 0, 1) := by decide +kernel
theorem dX4_farWith_84 : decode cX4_farWith 84 = .ok (.getfield 22, 3) := by decide +kernel
theorem dX4_farWith_87 : decode cX4_farWith 87 = .ok (.aload_n 0, 1) := by decide +kernel
theorem dX4_farWith_88 : decode cX4_farWith 88 = .ok (.iload 5, 2) := by decide +kernel
theorem dX4_farWith_90 : decode cX4_farWith 90 = .ok (.invokevirtual 37, 3) := by decide +kernel
theorem dX4_farWith_93 : decode cX4_farWith 93 = .ok (.iaload, 1) := by decide +kernel
theorem dX4_farWith_94 : decode cX4_farWith 94 = .ok (.goto 5, 3) := by decide +kernel
theorem dX4_farWith_97 : decode cX4_farWith 97 = .ok (.iload 4, 2) := by decide +kernel
theorem dX4_farWith_99 : decode cX4_farWith 99 = .ok (.istore 4, 2) := by decide +kernel
theorem dX4_farWith_101 : decode cX4_farWith 101 = .ok (.iinc 5 1, 3) := by decide +kernel
theorem dX4_farWith_104 : decode cX4_farWith 104 = .ok (.goto (-57), 3) := by decide +kernel
theorem dX4_farWith_107 : decode cX4_farWith 107 = .ok (.iload 4, 2) := by decide +kernel
theorem dX4_farWith_109 : decode cX4_farWith 109 = .ok (.ireturn, 1) := by decide +kernel
set_option maxRecDepth 20000 in
theorem ggX4_bestOf_X4_missingOf : GoodIn wsX4_bestOf wsX4_missingOf := goodIn_r _ [7, 8, 9, 10, 6, 11, 12, 13, 14, 15, 16, 17, 18, 19, 20, 21, 22, 23, 24, 25, 26, 27, 28, 29, 30, 31, 71, 72, 73, 74, 75, 76, 77, 78, 79, 80, 81, 82, 83] (by decide +kernel) (by decide +kernel)
set_option maxRecDepth 20000 in
theorem gX4_bestOf_X4_missingOf : GoodIn wsX4_bestOf (wsV RX4 188 RX4 yX4_missingOf wsX4_missingOf) := goodIn_app (goodIn_of _ (by decide +kernel)) ggX4_bestOf_X4_missingOf
set_option maxRecDepth 20000 in
theorem ggX4_bestOf_X4_of : GoodIn wsX4_bestOf wsX4_of := goodIn_r _ [35, 19, 71, 72, 73, 74, 75, 76, 77, 78, 79, 80, 81, 82, 83] (by decide +kernel) (by decide +kernel)
set_option maxRecDepth 20000 in
theorem gX4_bestOf_X4_of : GoodIn wsX4_bestOf (wsV RX4 76 RX4 yX4_of wsX4_of) := goodIn_app (goodIn_of _ (by decide +kernel)) ggX4_bestOf_X4_of
set_option maxRecDepth 20000 in
theorem ggX4_bestOf_X4_whyNot : GoodIn wsX4_bestOf wsX4_whyNot := goodIn_r _ [39, 19, 40, 41, 6, 42, 12, 13, 14, 32, 33, 34, 35, 43, 44, 45, 46, 47, 48, 49, 28, 29, 30, 31, 50, 51, 52, 53, 54, 55, 56, 57, 71, 72, 73, 74, 75, 76, 77, 78, 79, 80, 81, 82, 83] (by decide +kernel) (by decide +kernel)
set_option maxRecDepth 20000 in
theorem gX4_bestOf_X4_whyNot : GoodIn wsX4_bestOf (wsV RX4 89 RX4 yX4_whyNot wsX4_whyNot) := goodIn_app (goodIn_of _ (by decide +kernel)) ggX4_bestOf_X4_whyNot
set_option maxRecDepth 20000 in
theorem ggX4_bestOf_X4_beside : GoodIn wsX4_bestOf wsX4_beside := goodIn_r _ [42, 12, 13, 6, 14] (by decide +kernel) (by decide +kernel)
set_option maxRecDepth 20000 in
theorem gX4_bestOf_X4_beside : GoodIn wsX4_bestOf (va_wsS RX4 73 yX4_beside wsX4_beside) := goodIn_app (goodIn_of _ (by decide +kernel)) ggX4_bestOf_X4_beside
set_option maxRecDepth 20000 in
theorem ggX4_bestOf_X4_farWith : GoodIn wsX4_bestOf wsX4_farWith := goodIn_r _ [61, 19, 2, 1, 62, 63, 64, 65, 6, 66, 28, 29, 30, 31, 40, 41, 42, 12, 13, 14, 54, 55, 56, 57, 50, 51, 52, 53, 67, 68, 69, 70, 46, 47, 48, 49, 15, 16, 17, 18, 71, 72, 73, 74, 75, 76, 77, 78, 79, 80, 81, 82, 83] (by decide +kernel) (by decide +kernel)
set_option maxRecDepth 20000 in
theorem gX4_bestOf_X4_farWith : GoodIn wsX4_bestOf (wsV RX4 191 RX4 yX4_farWith wsX4_farWith) := goodIn_app (goodIn_of _ (by decide +kernel)) ggX4_bestOf_X4_farWith
set_option maxRecDepth 20000 in
theorem ggX4_bestOf_X4_toll : GoodIn wsX4_bestOf wsX4_toll := goodIn_r _ [57, 19, 50, 51, 52, 6, 53, 71, 72, 73, 74, 75, 76, 77, 78, 79, 80, 81, 82, 83] (by decide +kernel) (by decide +kernel)
set_option maxRecDepth 20000 in
theorem gX4_bestOf_X4_toll : GoodIn wsX4_bestOf (wsV RX4 86 RX4 yX4_toll wsX4_toll) := goodIn_app (goodIn_of _ (by decide +kernel)) ggX4_bestOf_X4_toll
theorem dX4_bestOf_0 : decode cX4_bestOf 0 = .ok (.aload_n 0, 1) := by decide +kernel
theorem dX4_bestOf_1 : decode cX4_bestOf 1 = .ok (.aload_n 0, 1) := by decide +kernel
theorem dX4_bestOf_2 : decode cX4_bestOf 2 = .ok (.iload_n 1, 1) := by decide +kernel
theorem dX4_bestOf_3 : decode cX4_bestOf 3 = .ok (.invokevirtual 188, 3) := by decide +kernel
theorem dX4_bestOf_6 : decode cX4_bestOf 6 = .ok (.putfield 185, 3) := by decide +kernel
theorem dX4_bestOf_9 : decode cX4_bestOf 9 = .ok (.iconst (-1), 1) := by decide +kernel
theorem dX4_bestOf_10 : decode cX4_bestOf 10 = .ok (.istore_n 3, 1) := by decide +kernel
theorem dX4_bestOf_11 : decode cX4_bestOf 11 = .ok (.ldc 173, 2) := by decide +kernel
theorem dX4_bestOf_13 : decode cX4_bestOf 13 = .ok (.istore 4, 2) := by decide +kernel
theorem dX4_bestOf_15 : decode cX4_bestOf 15 = .ok (.iconst 0, 1) := by decide +kernel
theorem dX4_bestOf_16 : decode cX4_bestOf 16 = .ok (.istore 5, 2) := by decide +kernel
theorem dX4_bestOf_18 : decode cX4_bestOf 18 = .ok (.iconst 0, 1) := by decide +kernel
theorem dX4_bestOf_19 : decode cX4_bestOf 19 = .ok (.istore 6, 2) := by decide +kernel
theorem dX4_bestOf_21 : decode cX4_bestOf 21 = .ok (.iload 6, 2) := by decide +kernel
theorem dX4_bestOf_23 : decode cX4_bestOf 23 = .ok (.iconst 4, 1) := by decide +kernel
theorem dX4_bestOf_24 : decode cX4_bestOf 24 = .ok (.if_icmp .ge 129, 3) := by decide +kernel
theorem dX4_bestOf_27 : decode cX4_bestOf 27 = .ok (.aload_n 0, 1) := by decide +kernel
theorem dX4_bestOf_28 : decode cX4_bestOf 28 = .ok (.iload_n 1, 1) := by decide +kernel
theorem dX4_bestOf_29 : decode cX4_bestOf 29 = .ok (.aload_n 0, 1) := by decide +kernel
theorem dX4_bestOf_30 : decode cX4_bestOf 30 = .ok (.iload_n 1, 1) := by decide +kernel
theorem dX4_bestOf_31 : decode cX4_bestOf 31 = .ok (.iconst 1, 1) := by decide +kernel
theorem dX4_bestOf_32 : decode cX4_bestOf 32 = .ok (.invokevirtual 76, 3) := by decide +kernel
theorem dX4_bestOf_35 : decode cX4_bestOf 35 = .ok (.iload_n 2, 1) := by decide +kernel
theorem dX4_bestOf_36 : decode cX4_bestOf 36 = .ok (.iload 6, 2) := by decide +kernel
theorem dX4_bestOf_38 : decode cX4_bestOf 38 = .ok (.invokevirtual 89, 3) := by decide +kernel
theorem dX4_bestOf_41 : decode cX4_bestOf 41 = .ok (.ifCond .ne 106, 3) := by decide +kernel
theorem dX4_bestOf_44 : decode cX4_bestOf 44 = .ok (.aload_n 0, 1) := by decide +kernel
theorem dX4_bestOf_45 : decode cX4_bestOf 45 = .ok (.iload_n 1, 1) := by decide +kernel
theorem dX4_bestOf_46 : decode cX4_bestOf 46 = .ok (.iconst 1, 1) := by decide +kernel
theorem dX4_bestOf_47 : decode cX4_bestOf 47 = .ok (.invokevirtual 76, 3) := by decide +kernel
theorem dX4_bestOf_50 : decode cX4_bestOf 50 = .ok (.iload 6, 2) := by decide +kernel
theorem dX4_bestOf_52 : decode cX4_bestOf 52 = .ok (.invokestatic 73, 3) := by decide +kernel
theorem dX4_bestOf_55 : decode cX4_bestOf 55 = .ok (.istore 7, 2) := by decide +kernel
theorem dX4_bestOf_57 : decode cX4_bestOf 57 = .ok (.aload_n 0, 1) := by decide +kernel
theorem dX4_bestOf_58 : decode cX4_bestOf 58 = .ok (.iload_n 1, 1) := by decide +kernel
theorem dX4_bestOf_59 : decode cX4_bestOf 59 = .ok (.iload 7, 2) := by decide +kernel
theorem dX4_bestOf_61 : decode cX4_bestOf 61 = .ok (.invokevirtual 191, 3) := by decide +kernel
theorem dX4_bestOf_64 : decode cX4_bestOf 64 = .ok (.istore 8, 2) := by decide +kernel
theorem dX4_bestOf_66 : decode cX4_bestOf 66 = .ok (.iload 8, 2) := by decide +kernel
theorem dX4_bestOf_68 : decode cX4_bestOf 68 = .ok (.iload 4, 2) := by decide +kernel
theorem dX4_bestOf_70 : decode cX4_bestOf 70 = .ok (.if_icmp .lt 26, 3) := by decide +kernel
theorem dX4_bestOf_73 : decode cX4_bestOf 73 = .ok (.iload 8, 2) := by decide +kernel
theorem dX4_bestOf_75 : decode cX4_bestOf 75 = .ok (.iload 4, 2) := by decide +kernel
theorem dX4_bestOf_77 : decode cX4_bestOf 77 = .ok (.if_icmp .ne 23, 3) := by decide +kernel
theorem dX4_bestOf_80 : decode cX4_bestOf 80 = .ok (.iload_n 3, 1) := by decide +kernel
theorem dX4_bestOf_81 : decode cX4_bestOf 81 = .ok (.iconst (-1), 1) := by decide +kernel
theorem dX4_bestOf_82 : decode cX4_bestOf 82 = .ok (.if_icmp .eq 18, 3) := by decide +kernel
theorem dX4_bestOf_85 : decode cX4_bestOf 85 = .ok (.aload_n 0, 1) := by decide +kernel
theorem dX4_bestOf_86 : decode cX4_bestOf 86 = .ok (.iload 7, 2) := by decide +kernel
theorem dX4_bestOf_88 : decode cX4_bestOf 88 = .ok (.invokevirtual 86, 3) := by decide +kernel
theorem dX4_bestOf_91 : decode cX4_bestOf 91 = .ok (.iload 5, 2) := by decide +kernel
theorem dX4_bestOf_93 : decode cX4_bestOf 93 = .ok (.if_icmp .ge 7, 3) := by decide +kernel
theorem dX4_bestOf_96 : decode cX4_bestOf 96 = .ok (.iconst 1, 1) := by decide +kernel
theorem dX4_bestOf_97 : decode cX4_bestOf 97 = .ok (.goto 4, 3) := by decide +kernel
theorem dX4_bestOf_100 : decode cX4_bestOf 100 = .ok (.iconst 0, 1) := by decide +kernel
theorem dX4_bestOf_101 : decode cX4_bestOf 101 = .ok (.istore 9, 2) := by decide +kernel
theorem dX4_bestOf_103 : decode cX4_bestOf 103 = .ok (.iload 9, 2) := by decide +kernel
theorem dX4_bestOf_105 : decode cX4_bestOf 105 = .ok (.ifCond .eq 8, 3) := by decide +kernel
theorem dX4_bestOf_108 : decode cX4_bestOf 108 = .ok (.iload 6, 2) := by decide +kernel
theorem dX4_bestOf_110 : decode cX4_bestOf 110 = .ok (.goto 4, 3) := by decide +kernel
theorem dX4_bestOf_113 : decode cX4_bestOf 113 = .ok (.iload_n 3, 1) := by decide +kernel
theorem dX4_bestOf_114 : decode cX4_bestOf 114 = .ok (.istore_n 3, 1) := by decide +kernel
theorem dX4_bestOf_115 : decode cX4_bestOf 115 = .ok (.iload 9, 2) := by decide +kernel
theorem dX4_bestOf_117 : decode cX4_bestOf 117 = .ok (.ifCond .eq 12, 3) := by decide +kernel
theorem dX4_bestOf_120 : decode cX4_bestOf 120 = .ok (.aload_n 0, 1) := by decide +kernel
theorem dX4_bestOf_121 : decode cX4_bestOf 121 = .ok (.iload 7, 2) := by decide +kernel
theorem dX4_bestOf_123 : decode cX4_bestOf 123 = .ok (.invokevirtual 86, 3) := by decide +kernel
theorem dX4_bestOf_126 : decode cX4_bestOf 126 = .ok (.goto 5, 3) := by decide +kernel
theorem dX4_bestOf_129 : decode cX4_bestOf 129 = .ok (.iload 5, 2) := by decide +kernel
theorem dX4_bestOf_131 : decode cX4_bestOf 131 = .ok (.istore 5, 2) := by decide +kernel
theorem dX4_bestOf_133 : decode cX4_bestOf 133 = .ok (.iload 9, 2) := by decide +kernel
theorem dX4_bestOf_135 : decode cX4_bestOf 135 = .ok (.ifCond .eq 8, 3) := by decide +kernel
theorem dX4_bestOf_138 : decode cX4_bestOf 138 = .ok (.iload 8, 2) := by decide +kernel
theorem dX4_bestOf_140 : decode cX4_bestOf 140 = .ok (.goto 5, 3) := by decide +kernel
theorem dX4_bestOf_143 : decode cX4_bestOf 143 = .ok (.iload 4, 2) := by decide +kernel
theorem dX4_bestOf_145 : decode cX4_bestOf 145 = .ok (.istore 4, 2) := by decide +kernel
theorem dX4_bestOf_147 : decode cX4_bestOf 147 = .ok (.iinc 6 1, 3) := by decide +kernel
theorem dX4_bestOf_150 : decode cX4_bestOf 150 = .ok (.goto (-129), 3) := by decide +kernel
theorem dX4_bestOf_153 : decode cX4_bestOf 153 = .ok (.iload_n 3, 1) := by decide +kernel
theorem dX4_bestOf_154 : decode cX4_bestOf 154 = .ok (.ireturn, 1) := by decide +kernel
set_option maxRecDepth 20000 in
theorem ggX4_best_X4_isPlayer : GoodIn wsX4_best wsX4_isPlayer := goodIn_r _ [5, 6, 7, 4, 8] (by decide +kernel) (by decide +kernel)
set_option maxRecDepth 20000 in
theorem gX4_best_X4_isPlayer : GoodIn wsX4_best (va_wsS RX4 57 yX4_isPlayer wsX4_isPlayer) := goodIn_app (goodIn_of _ (by decide +kernel)) ggX4_best_X4_isPlayer
set_option maxRecDepth 20000 in
theorem ggX4_best_X4_in : GoodIn wsX4_best wsX4_in := goodIn_r _ [8] (by decide +kernel) (by decide +kernel)
set_option maxRecDepth 20000 in
theorem gX4_best_X4_in : GoodIn wsX4_best (va_wsS RX4 33 yX4_in wsX4_in) := goodIn_app (goodIn_of _ (by decide +kernel)) ggX4_best_X4_in
set_option maxRecDepth 20000 in
theorem ggX4_best_X4_bestOf : GoodIn wsX4_best wsX4_bestOf := goodIn_r _ [12, 13, 14, 15, 16, 17, 4, 18, 19, 20, 21, 22, 6, 7, 8, 23, 24, 25, 26, 27, 28, 29, 30, 31, 32, 33, 34, 35, 36, 37, 38, 39, 40, 41, 42, 43, 44, 45, 46, 47, 48, 49, 50, 51, 52, 53, 54, 55, 56, 57, 58, 59, 60, 61, 62, 63, 64, 65, 66, 67, 68, 69, 70, 71, 72, 73, 74, 75, 76, 77, 78, 79, 80, 81, 82, 83, 84, 85, 86, 87, 88, 89, 90, 91] (by decide +kernel) (by decide +kernel)
set_option maxRecDepth 20000 in
theorem gX4_best_X4_bestOf : GoodIn wsX4_best (wsV RX4 194 RX4 yX4_bestOf wsX4_bestOf) := goodIn_app (goodIn_of _ (by decide +kernel)) ggX4_best_X4_bestOf
theorem dX4_best_0 : decode cX4_best 0 = .ok (.aload_n 0, 1) := by decide +kernel
theorem dX4_best_1 : decode cX4_best 1 = .ok (.iload_n 1, 1) := by decide +kernel
theorem dX4_best_2 : decode cX4_best 2 = .ok (.invokestatic 57, 3) := by decide +kernel
theorem dX4_best_5 : decode cX4_best 5 = .ok (.ifCond .ne 7, 3) := by decide +kernel
theorem dX4_best_8 : decode cX4_best 8 = .ok (.iconst 1, 1) := by decide +kernel
theorem dX4_best_9 : decode cX4_best 9 = .ok (.goto 18, 3) := by decide +kernel
theorem dX4_best_12 : decode cX4_best 12 = .ok (.iload_n 2, 1) := by decide +kernel
theorem dX4_best_13 : decode cX4_best 13 = .ok (.iconst 1, 1) := by decide +kernel
theorem dX4_best_14 : decode cX4_best 14 = .ok (.bipush 6, 2) := by decide +kernel
theorem dX4_best_16 : decode cX4_best 16 = .ok (.invokestatic 33, 3) := by decide +kernel
theorem dX4_best_19 : decode cX4_best 19 = .ok (.ifCond .eq 7, 3) := by decide +kernel
theorem dX4_best_22 : decode cX4_best 22 = .ok (.iconst 0, 1) := by decide +kernel
theorem dX4_best_23 : decode cX4_best 23 = .ok (.goto 4, 3) := by decide +kernel
theorem dX4_best_26 : decode cX4_best 26 = .ok (.iconst 2, 1) := by decide +kernel
theorem dX4_best_27 : decode cX4_best 27 = .ok (.putfield 29, 3) := by decide +kernel
theorem dX4_best_30 : decode cX4_best 30 = .ok (.aload_n 0, 1) := by decide +kernel
theorem dX4_best_31 : decode cX4_best 31 = .ok (.getfield 29, 3) := by decide +kernel
theorem dX4_best_34 : decode cX4_best 34 = .ok (.ifCond .le 7, 3) := by decide +kernel
theorem dX4_best_37 : decode cX4_best 37 = .ok (.iconst 0, 1) := by decide +kernel
theorem dX4_best_38 : decode cX4_best 38 = .ok (.goto 9, 3) := by decide +kernel
theorem dX4_best_41 : decode cX4_best 41 = .ok (.aload_n 0, 1) := by decide +kernel
theorem dX4_best_42 : decode cX4_best 42 = .ok (.iload_n 1, 1) := by decide +kernel
theorem dX4_best_43 : decode cX4_best 43 = .ok (.iload_n 2, 1) := by decide +kernel
theorem dX4_best_44 : decode cX4_best 44 = .ok (.invokevirtual 194, 3) := by decide +kernel
theorem dX4_best_47 : decode cX4_best 47 = .ok (.ireturn, 1) := by decide +kernel
set_option maxRecDepth 20000 in
theorem ggX4_first_X4_stopsOf : GoodIn wsX4_first wsX4_stopsOf := goodIn_r _ [5, 6, 7, 8, 4, 9, 10, 11, 12, 13, 14, 15, 16, 17, 18, 19, 20, 21, 22, 23, 24, 25, 26, 27, 28, 29, 34, 35, 36, 37, 38, 39, 40, 41, 42, 43, 44, 45, 46] (by decide +kernel) (by decide +kernel)
set_option maxRecDepth 20000 in
theorem gX4_first_X4_stopsOf : GoodIn wsX4_first (wsV RX4 142 RX4 yX4_stopsOf wsX4_stopsOf) := goodIn_app (goodIn_of _ (by decide +kernel)) ggX4_first_X4_stopsOf
set_option maxRecDepth 20000 in
theorem ggX4_first_X4_of : GoodIn wsX4_first wsX4_of := goodIn_r _ [33, 17, 34, 35, 36, 37, 38, 39, 40, 41, 42, 43, 44, 45, 46] (by decide +kernel) (by decide +kernel)
set_option maxRecDepth 20000 in
theorem gX4_first_X4_of : GoodIn wsX4_first (wsV RX4 76 RX4 yX4_of wsX4_of) := goodIn_app (goodIn_of _ (by decide +kernel)) ggX4_first_X4_of
theorem dX4_first_0 : decode cX4_first 0 = .ok (.iconst 0, 1) := by decide +kernel
theorem dX4_first_1 : decode cX4_first 1 = .ok (.istore_n 1, 1) := by decide +kernel
theorem dX4_first_2 : decode cX4_first 2 = .ok (.iconst 1, 1) := by decide +kernel
theorem dX4_first_3 : decode cX4_first 3 = .ok (.istore_n 2, 1) := by decide +kernel
theorem dX4_first_4 : decode cX4_first 4 = .ok (.iload_n 2, 1) := by decide +kernel
theorem dX4_first_5 : decode cX4_first 5 = .ok (.iconst 4, 1) := by decide +kernel
theorem dX4_first_6 : decode cX4_first 6 = .ok (.if_icmp .ge 52, 3) := by decide +kernel
theorem dX4_first_9 : decode cX4_first 9 = .ok (.aload_n 0, 1) := by decide +kernel
theorem dX4_first_10 : decode cX4_first 10 = .ok (.iload_n 2, 1) := by decide +kernel
theorem dX4_first_11 : decode cX4_first 11 = .ok (.iconst 1, 1) := by decide +kernel
theorem dX4_first_12 : decode cX4_first 12 = .ok (.invokevirtual 142, 3) := by decide +kernel
theorem dX4_first_15 : decode cX4_first 15 = .ok (.aload_n 0, 1) := by decide +kernel
theorem dX4_first_16 : decode cX4_first 16 = .ok (.iload_n 1, 1) := by decide +kernel
theorem dX4_first_17 : decode cX4_first 17 = .ok (.iconst 1, 1) := by decide +kernel
theorem dX4_first_18 : decode cX4_first 18 = .ok (.invokevirtual 142, 3) := by decide +kernel
theorem dX4_first_21 : decode cX4_first 21 = .ok (.isub, 1) := by decide +kernel
theorem dX4_first_22 : decode cX4_first 22 = .ok (.istore_n 3, 1) := by decide +kernel
theorem dX4_first_23 : decode cX4_first 23 = .ok (.iload_n 3, 1) := by decide +kernel
theorem dX4_first_24 : decode cX4_first 24 = .ok (.ifCond .gt 22, 3) := by decide +kernel
theorem dX4_first_27 : decode cX4_first 27 = .ok (.iload_n 3, 1) := by decide +kernel
theorem dX4_first_28 : decode cX4_first 28 = .ok (.ifCond .ne 22, 3) := by decide +kernel
theorem dX4_first_31 : decode cX4_first 31 = .ok (.aload_n 0, 1) := by decide +kernel
theorem dX4_first_32 : decode cX4_first 32 = .ok (.iload_n 2, 1) := by decide +kernel
theorem dX4_first_33 : decode cX4_first 33 = .ok (.iconst 0, 1) := by decide +kernel
theorem dX4_first_34 : decode cX4_first 34 = .ok (.invokevirtual 76, 3) := by decide +kernel
theorem dX4_first_37 : decode cX4_first 37 = .ok (.aload_n 0, 1) := by decide +kernel
theorem dX4_first_38 : decode cX4_first 38 = .ok (.iload_n 1, 1) := by decide +kernel
theorem dX4_first_39 : decode cX4_first 39 = .ok (.iconst 0, 1) := by decide +kernel
theorem dX4_first_40 : decode cX4_first 40 = .ok (.invokevirtual 76, 3) := by decide +kernel
theorem dX4_first_43 : decode cX4_first 43 = .ok (.if_icmp .le 7, 3) := by decide +kernel
theorem dX4_first_46 : decode cX4_first 46 = .ok (.iload_n 2, 1) := by decide +kernel
theorem dX4_first_47 : decode cX4_first 47 = .ok (.goto 4, 3) := by decide +kernel
theorem dX4_first_50 : decode cX4_first 50 = .ok (.iload_n 1, 1) := by decide +kernel
theorem dX4_first_51 : decode cX4_first 51 = .ok (.istore_n 1, 1) := by decide +kernel
theorem dX4_first_52 : decode cX4_first 52 = .ok (.iinc 2 1, 3) := by decide +kernel
