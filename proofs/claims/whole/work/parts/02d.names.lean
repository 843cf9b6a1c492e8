theorem dX3_at_10 : decode cX3_at 10 = .ok (.aload_n 0, 1) := by decide +kernel
theorem dX3_at_11 : decode cX3_at 11 = .ok (.iload_n 1, 1) := by decide +kernel
theorem dX3_at_12 : decode cX3_at 12 = .ok (.iaload, 1) := by decide +kernel
theorem dX3_at_13 : decode cX3_at 13 = .ok (.goto 4, 3) := by decide +kernel
theorem dX3_at_16 : decode cX3_at 16 = .ok (.iconst 0, 1) := by decide +kernel
theorem dX3_at_17 : decode cX3_at 17 = .ok (.ireturn, 1) := by decide +kernel
theorem dX3_put_0 : decode cX3_put 0 = .ok (.iload_n 1, 1) := by decide +kernel
theorem dX3_put_1 : decode cX3_put 1 = .ok (.ifCond .lt 13, 3) := by decide +kernel
theorem dX3_put_4 : decode cX3_put 4 = .ok (.iload_n 1, 1) := by decide +kernel
theorem dX3_put_5 : decode cX3_put 5 = .ok (.aload_n 0, 1) := by decide +kernel
theorem dX3_put_6 : decode cX3_put 6 = .ok (.arraylength, 1) := by decide +kernel
theorem dX3_put_7 : decode cX3_put 7 = .ok (.if_icmp .ge 7, 3) := by decide +kernel
theorem dX3_put_10 : decode cX3_put 10 = .ok (.aload_n 0, 1) := by decide +kernel
theorem dX3_put_11 : decode cX3_put 11 = .ok (.iload_n 1, 1) := by decide +kernel
theorem dX3_put_12 : decode cX3_put 12 = .ok (.iload_n 2, 1) := by decide +kernel
theorem dX3_put_13 : decode cX3_put 13 = .ok (.iastore, 1) := by decide +kernel
theorem dX3_put_14 : decode cX3_put 14 = .ok (.return_, 1) := by decide +kernel
set_option maxRecDepth 20000 in
theorem ggX3_increase_X3_at : GoodIn wsX3_increase wsX3_at := goodIn_r _ [4] (by decide +kernel) (by decide +kernel)
set_option maxRecDepth 20000 in
theorem gX3_increase_X3_at : GoodIn wsX3_increase (va_wsS RX3 64 yX3_at wsX3_at) := goodIn_app (goodIn_of _ (by decide +kernel)) ggX3_increase_X3_at
set_option maxRecDepth 20000 in
theorem ggX3_increase_X3_put : GoodIn wsX3_increase wsX3_put := goodIn_r _ [7] (by decide +kernel) (by decide +kernel)
set_option maxRecDepth 20000 in
theorem gX3_increase_X3_put : GoodIn wsX3_increase (va_wsS RX3 68 yX3_put wsX3_put) := goodIn_app (goodIn_of _ (by decide +kernel)) ggX3_increase_X3_put
theorem dX3_increase_0 : decode cX3_increase 0 = .ok (.aload_n 0, 1) := by decide +kernel
theorem dX3_increase_1 : decode cX3_increase 1 = .ok (.iload_n 1, 1) := by decide +kernel
theorem dX3_increase_2 : decode cX3_increase 2 = .ok (.aload_n 0, 1) := by decide +kernel
theorem dX3_increase_3 : decode cX3_increase 3 = .ok (.iload_n 1, 1) := by decide +kernel
theorem dX3_increase_4 : decode cX3_increase 4 = .ok (.invokestatic 64, 3) := by decide +kernel
theorem dX3_increase_7 : decode cX3_increase 7 = .ok (.iload_n 2, 1) := by decide +kernel
theorem dX3_increase_8 : decode cX3_increase 8 = .ok (.iadd, 1) := by decide +kernel
theorem dX3_increase_9 : decode cX3_increase 9 = .ok (.invokestatic 68, 3) := by decide +kernel
theorem dX3_increase_12 : decode cX3_increase 12 = .ok (.return_, 1) := by decide +kernel
theorem dX3_sum_0 : decode cX3_sum 0 = .ok (.iconst 0, 1) := by decide +kernel
theorem dX3_sum_1 : decode cX3_sum 1 = .ok (.istore_n 1, 1) := by decide +kernel
theorem dX3_sum_2 : decode cX3_sum 2 = .ok (.iconst 0, 1) := by decide +kernel
theorem dX3_sum_3 : decode cX3_sum 3 = .ok (.istore_n 2, 1) := by decide +kernel
theorem dX3_sum_4 : decode cX3_sum 4 = .ok (.iload_n 2, 1) := by decide +kernel
theorem dX3_sum_5 : decode cX3_sum 5 = .ok (.aload_n 0, 1) := by decide +kernel
theorem dX3_sum_6 : decode cX3_sum 6 = .ok (.arraylength, 1) := by decide +kernel
theorem dX3_sum_7 : decode cX3_sum 7 = .ok (.if_icmp .ge 15, 3) := by decide +kernel
theorem dX3_sum_10 : decode cX3_sum 10 = .ok (.iload_n 1, 1) := by decide +kernel
theorem dX3_sum_11 : decode cX3_sum 11 = .ok (.aload_n 0, 1) := by decide +kernel
theorem dX3_sum_12 : decode cX3_sum 12 = .ok (.iload_n 2, 1) := by decide +kernel
theorem dX3_sum_13 : decode cX3_sum 13 = .ok (.iaload, 1) := by decide +kernel
theorem dX3_sum_14 : decode cX3_sum 14 = .ok (.iadd, 1) := by decide +kernel
theorem dX3_sum_15 : decode cX3_sum 15 = .ok (.istore_n 1, 1) := by decide +kernel
theorem dX3_sum_16 : decode cX3_sum 16 = .ok (.iinc 2 1, 3) := by decide +kernel
theorem dX3_sum_19 : decode cX3_sum 19 = .ok (.goto (-15), 3) := by decide +kernel
theorem dX3_sum_22 : decode cX3_sum 22 = .ok (.iload_n 1, 1) := by decide +kernel
theorem dX3_sum_23 : decode cX3_sum 23 = .ok (.ireturn, 1) := by decide +kernel
theorem dX3_copyRow_0 : decode cX3_copyRow 0 = .ok (.aload_n 0, 1) := by decide +kernel
theorem dX3_copyRow_1 : decode cX3_copyRow 1 = .ok (.iconst 0, 1) := by decide +kernel
theorem dX3_copyRow_2 : decode cX3_copyRow 2 = .ok (.aload_n 1, 1) := by decide +kernel
theorem dX3_copyRow_3 : decode cX3_copyRow 3 = .ok (.iconst 0, 1) := by decide +kernel
theorem dX3_copyRow_4 : decode cX3_copyRow 4 = .ok (.aload_n 0, 1) := by decide +kernel
theorem dX3_copyRow_5 : decode cX3_copyRow 5 = .ok (.arraylength, 1) := by decide +kernel
theorem dX3_copyRow_6 : decode cX3_copyRow 6 = .ok (.aload_n 1, 1) := by decide +kernel
theorem dX3_copyRow_7 : decode cX3_copyRow 7 = .ok (.arraylength, 1) := by decide +kernel
theorem dX3_copyRow_8 : decode cX3_copyRow 8 = .ok (.invokestatic 314, 3) := by decide +kernel
theorem dX3_copyRow_11 : decode cX3_copyRow 11 = .ok (.invokestatic 319, 3) := by decide +kernel
theorem dX3_copyRow_14 : decode cX3_copyRow 14 = .ok (.return_, 1) := by decide +kernel
set_option maxRecDepth 20000 in
theorem ggX4_init_X4_depot : GoodIn wsX4_init wsX4_depot := goodIn_r _ [13] (by decide +kernel) (by decide +kernel)
set_option maxRecDepth 20000 in
theorem gX4_init_X4_depot : GoodIn wsX4_init (va_wsS RX4 25 yX4_depot wsX4_depot) := goodIn_app (goodIn_of _ (by decide +kernel)) ggX4_init_X4_depot
theorem dX4_init_0 : decode cX4_init 0 = .ok (.aload_n 0, 1) := by decide +kernel
theorem dX4_init_1 : decode cX4_init 1 = .ok (.invokespecial 1, 3) := by decide +kernel
theorem dX4_init_4 : decode cX4_init 4 = .ok (.aload_n 0, 1) := by decide +kernel
theorem dX4_init_5 : decode cX4_init 5 = .ok (.sipush 288, 3) := by decide +kernel
theorem dX4_init_8 : decode cX4_init 8 = .ok (.newarray .int, 2) := by decide +kernel
theorem dX4_init_10 : decode cX4_init 10 = .ok (.putfield 7, 3) := by decide +kernel
theorem dX4_init_13 : decode cX4_init 13 = .ok (.aload_n 0, 1) := by decide +kernel
theorem dX4_init_14 : decode cX4_init 14 = .ok (.sipush 1728, 3) := by decide +kernel
theorem dX4_init_17 : decode cX4_init 17 = .ok (.newarray .int, 2) := by decide +kernel
theorem dX4_init_19 : decode cX4_init 19 = .ok (.putfield 13, 3) := by decide +kernel
theorem dX4_init_22 : decode cX4_init 22 = .ok (.aload_n 0, 1) := by decide +kernel
theorem dX4_init_23 : decode cX4_init 23 = .ok (.bipush 60, 2) := by decide +kernel
theorem dX4_init_25 : decode cX4_init 25 = .ok (.newarray .int, 2) := by decide +kernel
theorem dX4_init_27 : decode cX4_init 27 = .ok (.putfield 16, 3) := by decide +kernel
theorem dX4_init_30 : decode cX4_init 30 = .ok (.aload_n 0, 1) := by decide +kernel
theorem dX4_init_31 : decode cX4_init 31 = .ok (.bipush 96, 2) := by decide +kernel
theorem dX4_init_33 : decode cX4_init 33 = .ok (.newarray .int, 2) := by decide +kernel
theorem dX4_init_35 : decode cX4_init 35 = .ok (.putfield 19, 3) := by decide +kernel
theorem dX4_init_38 : decode cX4_init 38 = .ok (.aload_n 0, 1) := by decide +kernel
theorem dX4_init_39 : decode cX4_init 39 = .ok (.bipush 80, 2) := by decide +kernel
theorem dX4_init_41 : decode cX4_init 41 = .ok (.newarray .int, 2) := by decide +kernel
theorem dX4_init_43 : decode cX4_init 43 = .ok (.putfield 22, 3) := by decide +kernel
theorem dX4_init_46 : decode cX4_init 46 = .ok (.aload_n 0, 1) := by decide +kernel
theorem dX4_init_47 : decode cX4_init 47 = .ok (.getfield 7, 3) := by decide +kernel
theorem dX4_init_50 : decode cX4_init 50 = .ok (.iconst 0, 1) := by decide +kernel
theorem dX4_init_51 : decode cX4_init 51 = .ok (.iconst 2, 1) := by decide +kernel
theorem dX4_init_52 : decode cX4_init 52 = .ok (.iastore, 1) := by decide +kernel
theorem dX4_init_53 : decode cX4_init 53 = .ok (.aload_n 0, 1) := by decide +kernel
theorem dX4_init_54 : decode cX4_init 54 = .ok (.getfield 7, 3) := by decide +kernel
theorem dX4_init_57 : decode cX4_init 57 = .ok (.iconst 1, 1) := by decide +kernel
theorem dX4_init_58 : decode cX4_init 58 = .ok (.iconst 2, 1) := by decide +kernel
theorem dX4_init_59 : decode cX4_init 59 = .ok (.iastore, 1) := by decide +kernel
theorem dX4_init_60 : decode cX4_init 60 = .ok (.aload_n 0, 1) := by decide +kernel
theorem dX4_init_61 : decode cX4_init 61 = .ok (.getfield 7, 3) := by decide +kernel
theorem dX4_init_64 : decode cX4_init 64 = .ok (.iconst 2, 1) := by decide +kernel
theorem dX4_init_65 : decode cX4_init 65 = .ok (.iconst 1, 1) := by decide +kernel
theorem dX4_init_66 : decode cX4_init 66 = .ok (.iastore, 1) := by decide +kernel
theorem dX4_init_67 : decode cX4_init 67 = .ok (.iconst 0, 1) := by decide +kernel
theorem dX4_init_68 : decode cX4_init 68 = .ok (.istore_n 1, 1) := by decide +kernel
theorem dX4_init_69 : decode cX4_init 69 = .ok (.iload_n 1, 1) := by decide +kernel
theorem dX4_init_70 : decode cX4_init 70 = .ok (.bipush 80, 2) := by decide +kernel
theorem dX4_init_72 : decode cX4_init 72 = .ok (.if_icmp .ge 20, 3) := by decide +kernel
theorem dX4_init_75 : decode cX4_init 75 = .ok (.aload_n 0, 1) := by decide +kernel
theorem dX4_init_76 : decode cX4_init 76 = .ok (.getfield 7, 3) := by decide +kernel
theorem dX4_init_79 : decode cX4_init 79 = .ok (.sipush 164, 3) := by decide +kernel
theorem dX4_init_82 : decode cX4_init 82 = .ok (.iload_n 1, 1) := by decide +kernel
theorem dX4_init_83 : decode cX4_init 83 = .ok (.iadd, 1) := by decide +kernel
theorem dX4_init_84 : decode cX4_init 84 = .ok (.iconst (-1), 1) := by decide +kernel
theorem dX4_init_85 : decode cX4_init 85 = .ok (.iastore, 1) := by decide +kernel
theorem dX4_init_86 : decode cX4_init 86 = .ok (.iinc 1 1, 3) := by decide +kernel
theorem dX4_init_89 : decode cX4_init 89 = .ok (.goto (-20), 3) := by decide +kernel
theorem dX4_init_92 : decode cX4_init 92 = .ok (.iconst 0, 1) := by decide +kernel
theorem dX4_init_93 : decode cX4_init 93 = .ok (.istore_n 1, 1) := by decide +kernel
theorem dX4_init_94 : decode cX4_init 94 = .ok (.iload_n 1, 1) := by decide +kernel
theorem dX4_init_95 : decode cX4_init 95 = .ok (.bipush 24, 2) := by decide +kernel
theorem dX4_init_97 : decode cX4_init 97 = .ok (.if_icmp .ge 20, 3) := by decide +kernel
theorem dX4_init_100 : decode cX4_init 100 = .ok (.aload_n 0, 1) := by decide +kernel
theorem dX4_init_101 : decode cX4_init 101 = .ok (.getfield 7, 3) := by decide +kernel
theorem dX4_init_104 : decode cX4_init 104 = .ok (.sipush 244, 3) := by decide +kernel
theorem dX4_init_107 : decode cX4_init 107 = .ok (.iload_n 1, 1) := by decide +kernel
theorem dX4_init_108 : decode cX4_init 108 = .ok (.iadd, 1) := by decide +kernel
theorem dX4_init_109 : decode cX4_init 109 = .ok (.iconst (-1), 1) := by decide +kernel
theorem dX4_init_110 : decode cX4_init 110 = .ok (.iastore, 1) := by decide +kernel
theorem dX4_init_111 : decode cX4_init 111 = .ok (.iinc 1 1, 3) := by decide +kernel
theorem dX4_init_114 : decode cX4_init 114 = .ok (.goto (-20), 3) := by decide +kernel
theorem dX4_init_117 : decode cX4_init 117 = .ok (.iconst 0, 1) := by decide +kernel
theorem dX4_init_118 : decode cX4_init 118 = .ok (.istore_n 1, 1) := by decide +kernel
theorem dX4_init_119 : decode cX4_init 119 = .ok (.iload_n 1, 1) := by decide +kernel
theorem dX4_init_120 : decode cX4_init 120 = .ok (.iconst 4, 1) := by decide +kernel
theorem dX4_init_121 : decode cX4_init 121 = .ok (.if_icmp .ge 87, 3) := by decide +kernel
theorem dX4_init_124 : decode cX4_init 124 = .ok (.aload_n 0, 1) := by decide +kernel
theorem dX4_init_125 : decode cX4_init 125 = .ok (.getfield 7, 3) := by decide +kernel
theorem dX4_init_128 : decode cX4_init 128 = .ok (.bipush 84, 2) := by decide +kernel
theorem dX4_init_130 : decode cX4_init 130 = .ok (.iload_n 1, 1) := by decide +kernel
theorem dX4_init_131 : decode cX4_init 131 = .ok (.invokestatic 25, 3) := by decide +kernel
theorem dX4_init_134 : decode cX4_init 134 = .ok (.iadd, 1) := by decide +kernel
theorem dX4_init_135 : decode cX4_init 135 = .ok (.iconst 1, 1) := by decide +kernel
theorem dX4_init_136 : decode cX4_init 136 = .ok (.iload_n 1, 1) := by decide +kernel
theorem dX4_init_137 : decode cX4_init 137 = .ok (.ishl, 1) := by decide +kernel
theorem dX4_init_138 : decode cX4_init 138 = .ok (.iastore, 1) := by decide +kernel
theorem dX4_init_139 : decode cX4_init 139 = .ok (.aload_n 0, 1) := by decide +kernel
theorem dX4_init_140 : decode cX4_init 140 = .ok (.getfield 7, 3) := by decide +kernel
theorem dX4_init_143 : decode cX4_init 143 = .ok (.sipush 164, 3) := by decide +kernel
theorem dX4_init_146 : decode cX4_init 146 = .ok (.iload_n 1, 1) := by decide +kernel
theorem dX4_init_147 : decode cX4_init 147 = .ok (.invokestatic 25, 3) := by decide +kernel
theorem dX4_init_150 : decode cX4_init 150 = .ok (.iadd, 1) := by decide +kernel
theorem dX4_init_151 : decode cX4_init 151 = .ok (.iload_n 1, 1) := by decide +kernel
theorem dX4_init_152 : decode cX4_init 152 = .ok (.iastore, 1) := by decide +kernel
theorem dX4_init_153 : decode cX4_init 153 = .ok (.aload_n 0, 1) := by decide +kernel
theorem dX4_init_154 : decode cX4_init 154 = .ok (.getfield 7, 3) := by decide +kernel
theorem dX4_init_157 : decode cX4_init 157 = .ok (.sipush 268, 3) := by decide +kernel
theorem dX4_init_160 : decode cX4_init 160 = .ok (.iconst 5, 1) := by decide +kernel
theorem dX4_init_161 : decode cX4_init 161 = .ok (.iload_n 1, 1) := by decide +kernel
theorem dX4_init_162 : decode cX4_init 162 = .ok (.imul, 1) := by decide +kernel
theorem dX4_init_163 : decode cX4_init 163 = .ok (.iadd, 1) := by decide +kernel
theorem dX4_init_164 : decode cX4_init 164 = .ok (.iconst 0, 1) := by decide +kernel
theorem dX4_init_165 : decode cX4_init 165 = .ok (.iadd, 1) := by decide +kernel
theorem dX4_init_166 : decode cX4_init 166 = .ok (.bipush 20, 2) := by decide +kernel
theorem dX4_init_168 : decode cX4_init 168 = .ok (.iastore, 1) := by decide +kernel
theorem dX4_init_169 : decode cX4_init 169 = .ok (.aload_n 0, 1) := by decide +kernel
theorem dX4_init_170 : decode cX4_init 170 = .ok (.getfield 7, 3) := by decide +kernel
theorem dX4_init_173 : decode cX4_init 173 = .ok (.sipush 268, 3) := by decide +kernel
theorem dX4_init_176 : decode cX4_init 176 = .ok (.iconst 5, 1) := by decide +kernel
theorem dX4_init_177 : decode cX4_init 177 = .ok (.iload_n 1, 1) := by decide +kernel
theorem dX4_init_178 : decode cX4_init 178 = .ok (.imul, 1) := by decide +kernel
theorem dX4_init_179 : decode cX4_init 179 = .ok (.iadd, 1) := by decide +kernel
theorem dX4_init_180 : decode cX4_init 180 = .ok (.iconst 1, 1) := by decide +kernel
theorem dX4_init_181 : decode cX4_init 181 = .ok (.iadd, 1) := by decide +kernel
theorem dX4_init_182 : decode cX4_init 182 = .ok (.iload_n 1, 1) := by decide +kernel
theorem dX4_init_183 : decode cX4_init 183 = .ok (.invokestatic 25, 3) := by decide +kernel
theorem dX4_init_186 : decode cX4_init 186 = .ok (.iastore, 1) := by decide +kernel
theorem dX4_init_187 : decode cX4_init 187 = .ok (.aload_n 0, 1) := by decide +kernel
theorem dX4_init_188 : decode cX4_init 188 = .ok (.getfield 7, 3) := by decide +kernel
theorem dX4_init_191 : decode cX4_init 191 = .ok (.sipush 268, 3) := by decide +kernel
theorem dX4_init_194 : decode cX4_init 194 = .ok (.iconst 5, 1) := by decide +kernel
theorem dX4_init_195 : decode cX4_init 195 = .ok (.iload_n 1, 1) := by decide +kernel
theorem dX4_init_196 : decode cX4_init 196 = .ok (.imul, 1) := by decide +kernel
theorem dX4_init_197 : decode cX4_init 197 = .ok (.iadd, 1) := by decide +kernel
theorem dX4_init_198 : decode cX4_init 198 = .ok (.iconst 2, 1) := by decide +kernel
theorem dX4_init_199 : decode cX4_init 199 = .ok (.iadd, 1) := by decide +kernel
theorem dX4_init_200 : decode cX4_init 200 = .ok (.iconst (-1), 1) := by decide +kernel
theorem dX4_init_201 : decode cX4_init 201 = .ok (.iastore, 1) := by decide +kernel
theorem dX4_init_202 : decode cX4_init 202 = .ok (.iinc 1 1, 3) := by decide +kernel
theorem dX4_init_205 : decode cX4_init 205 = .ok (.goto (-86), 3) := by decide +kernel
theorem dX4_init_208 : decode cX4_init 208 = .ok (.return_, 1) := by decide +kernel
theorem dX4_thrown_0 : decode cX4_thrown 0 = .ok (.aload_n 0, 1) := by decide +kernel
theorem dX4_thrown_1 : decode cX4_thrown 1 = .ok (.getfield 29, 3) := by decide +kernel
theorem dX4_thrown_4 : decode cX4_thrown 4 = .ok (.ireturn, 1) := by decide +kernel
theorem dX4_in_0 : decode cX4_in 0 = .ok (.iload_n 0, 1) := by decide +kernel
theorem dX4_in_1 : decode cX4_in 1 = .ok (.iload_n 1, 1) := by decide +kernel
theorem dX4_in_2 : decode cX4_in 2 = .ok (.if_icmp .lt 12, 3) := by decide +kernel
theorem dX4_in_5 : decode cX4_in 5 = .ok (.iload_n 0, 1) := by decide +kernel
theorem dX4_in_6 : decode cX4_in 6 = .ok (.iload_n 2, 1) := by decide +kernel
theorem dX4_in_7 : decode cX4_in 7 = .ok (.if_icmp .gt 7, 3) := by decide +kernel
theorem dX4_in_10 : decode cX4_in 10 = .ok (.iconst 1, 1) := by decide +kernel
theorem dX4_in_11 : decode cX4_in 11 = .ok (.goto 4, 3) := by decide +kernel
theorem dX4_in_14 : decode cX4_in 14 = .ok (.iconst 0, 1) := by decide +kernel
theorem dX4_in_15 : decode cX4_in 15 = .ok (.ireturn, 1) := by decide +kernel
set_option maxRecDepth 20000 in
theorem ggX4_isSquare_X4_in : GoodIn wsX4_isSquare wsX4_in := goodIn_r _ [4] (by decide +kernel) (by decide +kernel)
set_option maxRecDepth 20000 in
theorem gX4_isSquare_X4_in : GoodIn wsX4_isSquare (va_wsS RX4 33 yX4_in wsX4_in) := goodIn_app (goodIn_of _ (by decide +kernel)) ggX4_isSquare_X4_in
theorem dX4_isSquare_0 : decode cX4_isSquare 0 = .ok (.iload_n 0, 1) := by decide +kernel
theorem dX4_isSquare_1 : decode cX4_isSquare 1 = .ok (.iconst 0, 1) := by decide +kernel
theorem dX4_isSquare_2 : decode cX4_isSquare 2 = .ok (.bipush 79, 2) := by decide +kernel
theorem dX4_isSquare_4 : decode cX4_isSquare 4 = .ok (.invokestatic 33, 3) := by decide +kernel
theorem dX4_isSquare_7 : decode cX4_isSquare 7 = .ok (.ireturn, 1) := by decide +kernel
set_option maxRecDepth 20000 in
theorem ggX4_isPlayer_X4_in : GoodIn wsX4_isPlayer wsX4_in := goodIn_r _ [4] (by decide +kernel) (by decide +kernel)
set_option maxRecDepth 20000 in
theorem gX4_isPlayer_X4_in : GoodIn wsX4_isPlayer (va_wsS RX4 33 yX4_in wsX4_in) := goodIn_app (goodIn_of _ (by decide +kernel)) ggX4_isPlayer_X4_in
theorem dX4_isPlayer_0 : decode cX4_isPlayer 0 = .ok (.iload_n 0, 1) := by decide +kernel
theorem dX4_isPlayer_1 : decode cX4_isPlayer 1 = .ok (.iconst 0, 1) := by decide +kernel
theorem dX4_isPlayer_2 : decode cX4_isPlayer 2 = .ok (.iconst 3, 1) := by decide +kernel
theorem dX4_isPlayer_3 : decode cX4_isPlayer 3 = .ok (.invokestatic 33, 3) := by decide +kernel
theorem dX4_isPlayer_6 : decode cX4_isPlayer 6 = .ok (.ireturn, 1) := by decide +kernel
theorem dX4_depot_0 : decode cX4_depot 0 = .ok (.iload_n 0, 1) := by decide +kernel
theorem dX4_depot_1 : decode cX4_depot 1 = .ok (.ifCond .ne 7, 3) := by decide +kernel
theorem dX4_depot_4 : decode cX4_depot 4 = .ok (.iconst 0, 1) := by decide +kernel
theorem dX4_depot_5 : decode cX4_depot 5 = .ok (.goto 25, 3) := by decide +kernel
theorem dX4_depot_8 : decode cX4_depot 8 = .ok (.iload_n 0, 1) := by decide +kernel
theorem dX4_depot_9 : decode cX4_depot 9 = .ok (.iconst 1, 1) := by decide +kernel
theorem dX4_depot_10 : decode cX4_depot 10 = .ok (.if_icmp .ne 8, 3) := by decide +kernel
theorem dX4_depot_13 : decode cX4_depot 13 = .ok (.bipush 9, 2) := by decide +kernel
theorem dX4_depot_15 : decode cX4_depot 15 = .ok (.goto 15, 3) := by decide +kernel
theorem dX4_depot_18 : decode cX4_depot 18 = .ok (.iload_n 0, 1) := by decide +kernel
theorem dX4_depot_19 : decode cX4_depot 19 = .ok (.iconst 2, 1) := by decide +kernel
theorem dX4_depot_20 : decode cX4_depot 20 = .ok (.if_icmp .ne 8, 3) := by decide +kernel
theorem dX4_depot_23 : decode cX4_depot 23 = .ok (.bipush 79, 2) := by decide +kernel
theorem dX4_depot_25 : decode cX4_depot 25 = .ok (.goto 5, 3) := by decide +kernel
theorem dX4_depot_28 : decode cX4_depot 28 = .ok (.bipush 70, 2) := by decide +kernel
theorem dX4_depot_30 : decode cX4_depot 30 = .ok (.ireturn, 1) := by decide +kernel
theorem dX4_of_0 : decode cX4_of 0 = .ok (.aload_n 0, 1) := by decide +kernel
theorem dX4_of_1 : decode cX4_of 1 = .ok (.getfield 7, 3) := by decide +kernel
theorem dX4_of_4 : decode cX4_of 4 = .ok (.sipush 268, 3) := by decide +kernel
theorem dX4_of_7 : decode cX4_of 7 = .ok (.iconst 5, 1) := by decide +kernel
theorem dX4_of_8 : decode cX4_of 8 = .ok (.iload_n 1, 1) := by decide +kernel
theorem dX4_of_9 : decode cX4_of 9 = .ok (.imul, 1) := by decide +kernel
theorem dX4_of_10 : decode cX4_of 10 = .ok (.iadd, 1) := by decide +kernel
theorem dX4_of_11 : decode cX4_of 11 = .ok (.iload_n 2, 1) := by decide +kernel
theorem dX4_of_12 : decode cX4_of 12 = .ok (.iadd, 1) := by decide +kernel
theorem dX4_of_13 : decode cX4_of 13 = .ok (.iaload, 1) := by decide +kernel
theorem dX4_of_14 : decode cX4_of 14 = .ok (.ireturn, 1) := by decide +kernel
theorem dX4_isHouse_0 : decode cX4_isHouse 0 = .ok (.aload_n 0, 1) := by decide +kernel
theorem dX4_isHouse_1 : decode cX4_isHouse 1 = .ok (.getfield 7, 3) := by decide +kernel
theorem dX4_isHouse_4 : decode cX4_isHouse 4 = .ok (.iconst 4, 1) := by decide +kernel
theorem dX4_isHouse_5 : decode cX4_isHouse 5 = .ok (.iload_n 1, 1) := by decide +kernel
theorem dX4_isHouse_6 : decode cX4_isHouse 6 = .ok (.iadd, 1) := by decide +kernel
theorem dX4_isHouse_7 : decode cX4_isHouse 7 = .ok (.iaload, 1) := by decide +kernel
theorem dX4_isHouse_8 : decode cX4_isHouse 8 = .ok (.iconst 1, 1) := by decide +kernel
theorem dX4_isHouse_9 : decode cX4_isHouse 9 = .ok (.if_icmp .ne 7, 3) := by decide +kernel
theorem dX4_isHouse_12 : decode cX4_isHouse 12 = .ok (.iconst 1, 1) := by decide +kernel
theorem dX4_isHouse_13 : decode cX4_isHouse 13 = .ok (.goto 4, 3) := by decide +kernel
theorem dX4_isHouse_16 : decode cX4_isHouse 16 = .ok (.iconst 0, 1) := by decide +kernel
theorem dX4_isHouse_17 : decode cX4_isHouse 17 = .ok (.ireturn, 1) := by decide +kernel
theorem dX4_hasTrack_0 : decode cX4_hasTrack 0 = .ok (.aload_n 0, 1) := by decide +kernel
theorem dX4_hasTrack_1 : decode cX4_hasTrack 1 = .ok (.getfield 7, 3) := by decide +kernel
theorem dX4_hasTrack_4 : decode cX4_hasTrack 4 = .ok (.bipush 84, 2) := by decide +kernel
theorem dX4_hasTrack_6 : decode cX4_hasTrack 6 = .ok (.iload_n 2, 1) := by decide +kernel
theorem dX4_hasTrack_7 : decode cX4_hasTrack 7 = .ok (.iadd, 1) := by decide +kernel
theorem dX4_hasTrack_8 : decode cX4_hasTrack 8 = .ok (.iaload, 1) := by decide +kernel
theorem dX4_hasTrack_9 : decode cX4_hasTrack 9 = .ok (.iload_n 1, 1) := by decide +kernel
theorem dX4_hasTrack_10 : decode cX4_hasTrack 10 = .ok (.ishr, 1) := by decide +kernel
theorem dX4_hasTrack_11 : decode cX4_hasTrack 11 = .ok (.iconst 1, 1) := by decide +kernel
theorem dX4_hasTrack_12 : decode cX4_hasTrack 12 = .ok (.iand, 1) := by decide +kernel
theorem dX4_hasTrack_13 : decode cX4_hasTrack 13 = .ok (.iconst 1, 1) := by decide +kernel
theorem dX4_hasTrack_14 : decode cX4_hasTrack 14 = .ok (.if_icmp .ne 7, 3) := by decide +kernel
theorem dX4_hasTrack_17 : decode cX4_hasTrack 17 = .ok (.iconst 1, 1) := by decide +kernel
theorem dX4_hasTrack_18 : decode cX4_hasTrack 18 = .ok (.goto 4, 3) := by decide +kernel
theorem dX4_hasTrack_21 : decode cX4_hasTrack 21 = .ok (.iconst 0, 1) := by decide +kernel
theorem dX4_hasTrack_22 : decode cX4_hasTrack 22 = .ok (.ireturn, 1) := by decide +kernel
theorem dX4_tracks_0 : decode cX4_tracks 0 = .ok (.iconst 0, 1) := by decide +kernel
theorem dX4_tracks_1 : decode cX4_tracks 1 = .ok (.istore_n 2, 1) := by decide +kernel
theorem dX4_tracks_2 : decode cX4_tracks 2 = .ok (.iconst 0, 1) := by decide +kernel
theorem dX4_tracks_3 : decode cX4_tracks 3 = .ok (.istore_n 3, 1) := by decide +kernel
theorem dX4_tracks_4 : decode cX4_tracks 4 = .ok (.iload_n 3, 1) := by decide +kernel
theorem dX4_tracks_5 : decode cX4_tracks 5 = .ok (.iconst 4, 1) := by decide +kernel
theorem dX4_tracks_6 : decode cX4_tracks 6 = .ok (.if_icmp .ge 25, 3) := by decide +kernel
theorem dX4_tracks_9 : decode cX4_tracks 9 = .ok (.iload_n 2, 1) := by decide +kernel
theorem dX4_tracks_10 : decode cX4_tracks 10 = .ok (.aload_n 0, 1) := by decide +kernel
theorem dX4_tracks_11 : decode cX4_tracks 11 = .ok (.getfield 7, 3) := by decide +kernel
theorem dX4_tracks_14 : decode cX4_tracks 14 = .ok (.bipush 84, 2) := by decide +kernel
theorem dX4_tracks_16 : decode cX4_tracks 16 = .ok (.iload_n 1, 1) := by decide +kernel
theorem dX4_tracks_17 : decode cX4_tracks 17 = .ok (.iadd, 1) := by decide +kernel
theorem dX4_tracks_18 : decode cX4_tracks 18 = .ok (.iaload, 1) := by decide +kernel
theorem dX4_tracks_19 : decode cX4_tracks 19 = .ok (.iload_n 3, 1) := by decide +kernel
theorem dX4_tracks_20 : decode cX4_tracks 20 = .ok (.ishr, 1) := by decide +kernel
theorem dX4_tracks_21 : decode cX4_tracks 21 = .ok (.iconst 1, 1) := by decide +kernel
theorem dX4_tracks_22 : decode cX4_tracks 22 = .ok (.iand, 1) := by decide +kernel
theorem dX4_tracks_23 : decode cX4_tracks 23 = .ok (.iadd, 1) := by decide +kernel
theorem dX4_tracks_24 : decode cX4_tracks 24 = .ok (.istore_n 2, 1) := by decide +kernel
theorem dX4_tracks_25 : decode cX4_tracks 25 = .ok (.iinc 3 1, 3) := by decide +kernel
theorem dX4_tracks_28 : decode cX4_tracks 28 = .ok (.goto (-24), 3) := by decide +kernel
theorem dX4_tracks_31 : decode cX4_tracks 31 = .ok (.iload_n 2, 1) := by decide +kernel
theorem dX4_tracks_32 : decode cX4_tracks 32 = .ok (.ireturn, 1) := by decide +kernel
theorem dX4_stopSquare_0 : decode cX4_stopSquare 0 = .ok (.aload_n 0, 1) := by decide +kernel
theorem dX4_stopSquare_1 : decode cX4_stopSquare 1 = .ok (.getfield 7, 3) := by decide +kernel
theorem dX4_stopSquare_4 : decode cX4_stopSquare 4 = .ok (.sipush 244, 3) := by decide +kernel
theorem dX4_stopSquare_7 : decode cX4_stopSquare 7 = .ok (.iconst 2, 1) := by decide +kernel
theorem dX4_stopSquare_8 : decode cX4_stopSquare 8 = .ok (.iload_n 1, 1) := by decide +kernel
theorem dX4_stopSquare_9 : decode cX4_stopSquare 9 = .ok (.imul, 1) := by decide +kernel
theorem dX4_stopSquare_10 : decode cX4_stopSquare 10 = .ok (.iadd, 1) := by decide +kernel
theorem dX4_stopSquare_11 : decode cX4_stopSquare 11 = .ok (.iaload, 1) := by decide +kernel
theorem dX4_stopSquare_12 : decode cX4_stopSquare 12 = .ok (.ireturn, 1) := by decide +kernel
theorem dX4_stopPlayer_0 : decode cX4_stopPlayer 0 = .ok (.aload_n 0, 1) := by decide +kernel
theorem dX4_stopPlayer_1 : decode cX4_stopPlayer 1 = .ok (.getfield 7, 3) := by decide +kernel
theorem dX4_stopPlayer_4 : decode cX4_stopPlayer 4 = .ok (.sipush 244, 3) := by decide +kernel
theorem dX4_stopPlayer_7 : decode cX4_stopPlayer 7 = .ok (.iconst 2, 1) := by decide +kernel
theorem dX4_stopPlayer_8 : decode cX4_stopPlayer 8 = .ok (.iload_n 1, 1) := by decide +kernel
theorem dX4_stopPlayer_9 : decode cX4_stopPlayer 9 = .ok (.imul, 1) := by decide +kernel
theorem dX4_stopPlayer_10 : decode cX4_stopPlayer 10 = .ok (.iadd, 1) := by decide +kernel
theorem dX4_stopPlayer_11 : decode cX4_stopPlayer 11 = .ok (.iconst 1, 1) := by decide +kernel
theorem dX4_stopPlayer_12 : decode cX4_stopPlayer 12 = .ok (.iadd, 1) := by decide +kernel
theorem dX4_stopPlayer_13 : decode cX4_stopPlayer 13 = .ok (.iaload, 1) := by decide +kernel
theorem dX4_stopPlayer_14 : decode cX4_stopPlayer 14 = .ok (.ireturn, 1) := by decide +kernel
set_option maxRecDepth 20000 in
theorem ggX4_isStop_X4_in : GoodIn wsX4_isStop wsX4_in := goodIn_r _ [4] (by decide +kernel) (by decide +kernel)
set_option maxRecDepth 20000 in
theorem gX4_isStop_X4_in : GoodIn wsX4_isStop (va_wsS RX4 33 yX4_in wsX4_in) := goodIn_app (goodIn_of _ (by decide +kernel)) ggX4_isStop_X4_in
set_option maxRecDepth 20000 in
theorem ggX4_isStop_X4_stopSquare : GoodIn wsX4_isStop wsX4_stopSquare := goodIn_r _ [8, 9, 10, 11, 12, 13, 14, 15, 16, 17, 18, 19, 20, 21, 22] (by decide +kernel) (by decide +kernel)
set_option maxRecDepth 20000 in
theorem gX4_isStop_X4_stopSquare : GoodIn wsX4_isStop (wsV RX4 37 RX4 yX4_stopSquare wsX4_stopSquare) := goodIn_app (goodIn_of _ (by decide +kernel)) ggX4_isStop_X4_stopSquare
theorem dX4_isStop_0 : decode cX4_isStop 0 = .ok (.iload_n 1, 1) := by decide +kernel
theorem dX4_isStop_1 : decode cX4_isStop 1 = .ok (.iconst 0, 1) := by decide +kernel
theorem dX4_isStop_2 : decode cX4_isStop 2 = .ok (.bipush 11, 2) := by decide +kernel
theorem dX4_isStop_4 : decode cX4_isStop 4 = .ok (.invokestatic 33, 3) := by decide +kernel
theorem dX4_isStop_7 : decode cX4_isStop 7 = .ok (.ifCond .eq 16, 3) := by decide +kernel
theorem dX4_isStop_10 : decode cX4_isStop 10 = .ok (.aload_n 0, 1) := by decide +kernel
theorem dX4_isStop_11 : decode cX4_isStop 11 = .ok (.iload_n 1, 1) := by decide +kernel
theorem dX4_isStop_12 : decode cX4_isStop 12 = .ok (.invokevirtual 37, 3) := by decide +kernel
theorem dX4_isStop_15 : decode cX4_isStop 15 = .ok (.iconst (-1), 1) := by decide +kernel
theorem dX4_isStop_16 : decode cX4_isStop 16 = .ok (.if_icmp .eq 7, 3) := by decide +kernel
theorem dX4_isStop_19 : decode cX4_isStop 19 = .ok (.iconst 1, 1) := by decide +kernel
theorem dX4_isStop_20 : decode cX4_isStop 20 = .ok (.goto 4, 3) := by decide +kernel
theorem dX4_isStop_23 : decode cX4_isStop 23 = .ok (.iconst 0, 1) := by decide +kernel
theorem dX4_isStop_24 : decode cX4_isStop 24 = .ok (.ireturn, 1) := by decide +kernel
set_option maxRecDepth 20000 in
theorem ggX4_beside_X4_in : GoodIn wsX4_beside wsX4_in := goodIn_r _ [4] (by decide +kernel) (by decide +kernel)
set_option maxRecDepth 20000 in
theorem gX4_beside_X4_in : GoodIn wsX4_beside (va_wsS RX4 33 yX4_in wsX4_in) := goodIn_app (goodIn_of _ (by decide +kernel)) ggX4_beside_X4_in
theorem dX4_beside_0 : decode cX4_beside 0 = .ok (.iload_n 0, 1) := by decide +kernel
theorem dX4_beside_1 : decode cX4_beside 1 = .ok (.bipush 10, 2) := by decide +kernel
theorem dX4_beside_3 : decode cX4_beside 3 = .ok (.irem, 1) := by decide +kernel
theorem dX4_beside_4 : decode cX4_beside 4 = .ok (.iload_n 1, 1) := by decide +kernel
theorem dX4_beside_5 : decode cX4_beside 5 = .ok (.iconst 1, 1) := by decide +kernel
theorem dX4_beside_6 : decode cX4_beside 6 = .ok (.if_icmp .ne 7, 3) := by decide +kernel
theorem dX4_beside_9 : decode cX4_beside 9 = .ok (.iconst 1, 1) := by decide +kernel
theorem dX4_beside_10 : decode cX4_beside 10 = .ok (.goto 13, 3) := by decide +kernel
theorem dX4_beside_13 : decode cX4_beside 13 = .ok (.iload_n 1, 1) := by decide +kernel
theorem dX4_beside_14 : decode cX4_beside 14 = .ok (.iconst 3, 1) := by decide +kernel
theorem dX4_beside_15 : decode cX4_beside 15 = .ok (.if_icmp .ne 7, 3) := by decide +kernel
theorem dX4_beside_18 : decode cX4_beside 18 = .ok (.iconst (-1), 1) := by decide +kernel
theorem dX4_beside_19 : decode cX4_beside 19 = .ok (.goto 4, 3) := by decide +kernel
theorem dX4_beside_22 : decode cX4_beside 22 = .ok (.iconst 0, 1) := by decide +kernel
theorem dX4_beside_23 : decode cX4_beside 23 = .ok (.iadd, 1) := by decide +kernel
theorem dX4_beside_24 : decode cX4_beside 24 = .ok (.istore_n 2, 1) := by decide +kernel
theorem dX4_beside_25 : decode cX4_beside 25 = .ok (.iload_n 0, 1) := by decide +kernel
theorem dX4_beside_26 : decode cX4_beside 26 = .ok (.bipush 10, 2) := by decide +kernel
theorem dX4_beside_28 : decode cX4_beside 28 = .ok (.idiv, 1) := by decide +kernel
theorem dX4_beside_29 : decode cX4_beside 29 = .ok (.iload_n 1, 1) := by decide +kernel
theorem dX4_beside_30 : decode cX4_beside 30 = .ok (.ifCond .ne 7, 3) := by decide +kernel
theorem dX4_beside_33 : decode cX4_beside 33 = .ok (.iconst (-1), 1) := by decide +kernel
theorem dX4_beside_34 : decode cX4_beside 34 = .ok (.goto 13, 3) := by decide +kernel
theorem dX4_beside_37 : decode cX4_beside 37 = .ok (.iload_n 1, 1) := by decide +kernel
theorem dX4_beside_38 : decode cX4_beside 38 = .ok (.iconst 2, 1) := by decide +kernel
theorem dX4_beside_39 : decode cX4_beside 39 = .ok (.if_icmp .ne 7, 3) := by decide +kernel
theorem dX4_beside_42 : decode cX4_beside 42 = .ok (.iconst 1, 1) := by decide +kernel
theorem dX4_beside_43 : decode cX4_beside 43 = .ok (.goto 4, 3) := by decide +kernel
theorem dX4_beside_46 : decode cX4_beside 46 = .ok (.iconst 0, 1) := by decide +kernel
theorem dX4_beside_47 : decode cX4_beside 47 = .ok (.iadd, 1) := by decide +kernel
theorem dX4_beside_48 : decode cX4_beside 48 = .ok (.istore_n 3, 1) := by decide +kernel
theorem dX4_beside_49 : decode cX4_beside 49 = .ok (.iload_n 2, 1) := by decide +kernel
theorem dX4_beside_50 : decode cX4_beside 50 = .ok (.iconst 0, 1) := by decide +kernel
theorem dX4_beside_51 : decode cX4_beside 51 = .ok (.bipush 9, 2) := by decide +kernel
theorem dX4_beside_53 : decode cX4_beside 53 = .ok (.invokestatic 33, 3) := by decide +kernel
theorem dX4_beside_56 : decode cX4_beside 56 = .ok (.ifCond .eq 22, 3) := by decide +kernel
theorem dX4_beside_59 : decode cX4_beside 59 = .ok (.iload_n 3, 1) := by decide +kernel
theorem dX4_beside_60 : decode cX4_beside 60 = .ok (.iconst 0, 1) := by decide +kernel
theorem dX4_beside_61 : decode cX4_beside 61 = .ok (.bipush 7, 2) := by decide +kernel
theorem dX4_beside_63 : decode cX4_beside 63 = .ok (.invokestatic 33, 3) := by decide +kernel
theorem dX4_beside_66 : decode cX4_beside 66 = .ok (.ifCond .eq 12, 3) := by decide +kernel
theorem dX4_beside_69 : decode cX4_beside 69 = .ok (.bipush 10, 2) := by decide +kernel
theorem dX4_beside_71 : decode cX4_beside 71 = .ok (.iload_n 3, 1) := by decide +kernel
theorem dX4_beside_72 : decode cX4_beside 72 = .ok (.imul, 1) := by decide +kernel
theorem dX4_beside_73 : decode cX4_beside 73 = .ok (.iload_n 2, 1) := by decide +kernel
theorem dX4_beside_74 : decode cX4_beside 74 = .ok (.iadd, 1) := by decide +kernel
theorem dX4_beside_75 : decode cX4_beside 75 = .ok (.goto 4, 3) := by decide +kernel
theorem dX4_beside_78 : decode cX4_beside 78 = .ok (.iconst (-1), 1) := by decide +kernel
theorem dX4_beside_79 : decode cX4_beside 79 = .ok (.ireturn, 1) := by decide +kernel
theorem dX4_save_0 : decode cX4_save 0 = .ok (.aload_n 0, 1) := by decide +kernel
theorem dX4_save_1 : decode cX4_save 1 = .ok (.getfield 40, 3) := by decide +kernel
theorem dX4_save_4 : decode cX4_save 4 = .ok (.bipush 6, 2) := by decide +kernel
theorem dX4_save_6 : decode cX4_save 6 = .ok (.if_icmp .ne 44, 3) := by decide +kernel
theorem dX4_save_9 : decode cX4_save 9 = .ok (.iconst 0, 1) := by decide +kernel
theorem dX4_save_10 : decode cX4_save 10 = .ok (.istore_n 1, 1) := by decide +kernel
theorem dX4_save_11 : decode cX4_save 11 = .ok (.iload_n 1, 1) := by decide +kernel
theorem dX4_save_12 : decode cX4_save 12 = .ok (.sipush 1440, 3) := by decide +kernel
theorem dX4_save_15 : decode cX4_save 15 = .ok (.if_icmp .ge 25, 3) := by decide +kernel
theorem dX4_save_18 : decode cX4_save 18 = .ok (.aload_n 0, 1) := by decide +kernel
theorem dX4_save_19 : decode cX4_save 19 = .ok (.getfield 13, 3) := by decide +kernel
theorem dX4_save_22 : decode cX4_save 22 = .ok (.iload_n 1, 1) := by decide +kernel
theorem dX4_save_23 : decode cX4_save 23 = .ok (.aload_n 0, 1) := by decide +kernel
theorem dX4_save_24 : decode cX4_save 24 = .ok (.getfield 13, 3) := by decide +kernel
theorem dX4_save_27 : decode cX4_save 27 = .ok (.iload_n 1, 1) := by decide +kernel
theorem dX4_save_28 : decode cX4_save 28 = .ok (.sipush 288, 3) := by decide +kernel
theorem dX4_save_31 : decode cX4_save 31 = .ok (.iadd, 1) := by decide +kernel
theorem dX4_save_32 : decode cX4_save 32 = .ok (.iaload, 1) := by decide +kernel
theorem dX4_save_33 : decode cX4_save 33 = .ok (.iastore, 1) := by decide +kernel
theorem dX4_save_34 : decode cX4_save 34 = .ok (.iinc 1 1, 3) := by decide +kernel
theorem dX4_save_37 : decode cX4_save 37 = .ok (.goto (-26), 3) := by decide +kernel
theorem dX4_save_40 : decode cX4_save 40 = .ok (.aload_n 0, 1) := by decide +kernel
theorem dX4_save_41 : decode cX4_save 41 = .ok (.dup, 1) := by decide +kernel
theorem dX4_save_42 : decode cX4_save 42 = .ok (.getfield 40, 3) := by decide +kernel
theorem dX4_save_45 : decode cX4_save 45 = .ok (.iconst 1, 1) := by decide +kernel
theorem dX4_save_46 : decode cX4_save 46 = .ok (.isub, 1) := by decide +kernel
theorem dX4_save_47 : decode cX4_save 47 = .ok (.putfield 40, 3) := by decide +kernel
theorem dX4_save_50 : decode cX4_save 50 = .ok (.iconst 0, 1) := by decide +kernel
theorem dX4_save_51 : decode cX4_save 51 = .ok (.istore_n 1, 1) := by decide +kernel
theorem dX4_save_52 : decode cX4_save 52 = .ok (.iload_n 1, 1) := by decide +kernel
theorem dX4_save_53 : decode cX4_save 53 = .ok (.sipush 288, 3) := by decide +kernel
theorem dX4_save_56 : decode cX4_save 56 = .ok (.if_icmp .ge 30, 3) := by decide +kernel
theorem dX4_save_59 : decode cX4_save 59 = .ok (.aload_n 0, 1) := by decide +kernel
theorem dX4_save_60 : decode cX4_save 60 = .ok (.getfield 13, 3) := by decide +kernel
theorem dX4_save_63 : decode cX4_save 63 = .ok (.aload_n 0, 1) := by decide +kernel
theorem dX4_save_64 : decode cX4_save 64 = .ok (.getfield 40, 3) := by decide +kernel
theorem dX4_save_67 : decode cX4_save 67 = .ok (.sipush 288, 3) := by decide +kernel
theorem dX4_save_70 : decode cX4_save 70 = .ok (.imul, 1) := by decide +kernel
theorem dX4_save_71 : decode cX4_save 71 = .ok (.iload_n 1, 1) := by decide +kernel
theorem dX4_save_72 : decode cX4_save 72 = .ok (.iadd, 1) := by decide +kernel
theorem dX4_save_73 : decode cX4_save 73 = .ok (.aload_n 0, 1) := by decide +kernel
theorem dX4_save_74 : decode cX4_save 74 = .ok (.getfield 7, 3) := by decide +kernel
theorem dX4_save_77 : decode cX4_save 77 = .ok (.iload_n 1, 1) := by decide +kernel
theorem dX4_save_78 : decode cX4_save 78 = .ok (.iaload, 1) := by decide +kernel
theorem dX4_save_79 : decode cX4_save 79 = .ok (.iastore, 1) := by decide +kernel
theorem dX4_save_80 : decode cX4_save 80 = .ok (.iinc 1 1, 3) := by decide +kernel
theorem dX4_save_83 : decode cX4_save 83 = .ok (.goto (-31), 3) := by decide +kernel
theorem dX4_save_86 : decode cX4_save 86 = .ok (.aload_n 0, 1) := by decide +kernel
theorem dX4_save_87 : decode cX4_save 87 = .ok (.dup, 1) := by decide +kernel
theorem dX4_save_88 : decode cX4_save 88 = .ok (.getfield 40, 3) := by decide +kernel
theorem dX4_save_91 : decode cX4_save 91 = .ok (.iconst 1, 1) := by decide +kernel
theorem dX4_save_92 : decode cX4_save 92 = .ok (.iadd, 1) := by decide +kernel
theorem dX4_save_93 : decode cX4_save 93 = .ok (.putfield 40, 3) := by decide +kernel
theorem dX4_save_96 : decode cX4_save 96 = .ok (.return_, 1) := by decide +kernel
theorem dX4_undo_0 : decode cX4_undo 0 = .ok (.aload_n 0, 1) := by decide +kernel
theorem dX4_undo_1 : decode cX4_undo 1 = .ok (.aload_n 0, 1) := by decide +kernel
theorem dX4_undo_2 : decode cX4_undo 2 = .ok (.getfield 40, 3) := by decide +kernel
theorem dX4_undo_5 : decode cX4_undo 5 = .ok (.ifCond .ne 7, 3) := by decide +kernel
theorem dX4_undo_8 : decode cX4_undo 8 = .ok (.iconst 1, 1) := by decide +kernel
theorem dX4_undo_9 : decode cX4_undo 9 = .ok (.goto 4, 3) := by decide +kernel
theorem dX4_undo_12 : decode cX4_undo 12 = .ok (.iconst 0, 1) := by decide +kernel
theorem dX4_undo_13 : decode cX4_undo 13 = .ok (.putfield 29, 3) := by decide +kernel
theorem dX4_undo_16 : decode cX4_undo 16 = .ok (.aload_n 0, 1) := by decide +kernel
theorem dX4_undo_17 : decode cX4_undo 17 = .ok (.getfield 29, 3) := by decide +kernel
theorem dX4_undo_20 : decode cX4_undo 20 = .ok (.ifCond .le 5, 3) := by decide +kernel
theorem dX4_undo_23 : decode cX4_undo 23 = .ok (.iconst 0, 1) := by decide +kernel
theorem dX4_undo_24 : decode cX4_undo 24 = .ok (.ireturn, 1) := by decide +kernel
theorem dX4_undo_25 : decode cX4_undo 25 = .ok (.aload_n 0, 1) := by decide +kernel
theorem dX4_undo_26 : decode cX4_undo 26 = .ok (.dup, 1) := by decide +kernel
theorem dX4_undo_27 : decode cX4_undo 27 = .ok (.getfield 40, 3) := by decide +kernel
theorem dX4_undo_30 : decode cX4_undo 30 = .ok (.iconst 1, 1) := by decide +kernel
theorem dX4_undo_31 : decode cX4_undo 31 = .ok (.isub, 1) := by decide +kernel
theorem dX4_undo_32 : decode cX4_undo 32 = .ok (.putfield 40, 3) := by decide +kernel
theorem dX4_undo_35 : decode cX4_undo 35 = .ok (.iconst 0, 1) := by decide +kernel
theorem dX4_undo_36 : decode cX4_undo 36 = .ok (.istore_n 1, 1) := by decide +kernel
theorem dX4_undo_37 : decode cX4_undo 37 = .ok (.iload_n 1, 1) := by decide +kernel
theorem dX4_undo_38 : decode cX4_undo 38 = .ok (.sipush 288, 3) := by decide +kernel
theorem dX4_undo_41 : decode cX4_undo 41 = .ok (.if_icmp .ge 30, 3) := by decide +kernel
theorem dX4_undo_44 : decode cX4_undo 44 = .ok (.aload_n 0, 1) := by decide +kernel
theorem dX4_undo_45 : decode cX4_undo 45 = .ok (.getfield 7, 3) := by decide +kernel
theorem dX4_undo_48 : decode cX4_undo 48 = .ok (.iload_n 1, 1) := by decide +kernel
theorem dX4_undo_49 : decode cX4_undo 49 = .ok (.aload_n 0, 1) := by decide +kernel
theorem dX4_undo_50 : decode cX4_undo 50 = .ok (.getfield 13, 3) := by decide +kernel
theorem dX4_undo_53 : decode cX4_undo 53 = .ok (.aload_n 0, 1) := by decide +kernel
theorem dX4_undo_54 : decode cX4_undo 54 = .ok (.getfield 40, 3) := by decide +kernel
theorem dX4_undo_57 : decode cX4_undo 57 = .ok (.sipush 288, 3) := by decide +kernel
theorem dX4_undo_60 : decode cX4_undo 60 = .ok (.imul, 1) := by decide +kernel
theorem dX4_undo_61 : decode cX4_undo 61 = .ok (.iload_n 1, 1) := by decide +kernel
theorem dX4_undo_62 : decode cX4_undo 62 = .ok (.iadd, 1) := by decide +kernel
theorem dX4_undo_63 : decode cX4_undo 63 = .ok (.iaload, 1) := by decide +kernel
theorem dX4_undo_64 : decode cX4_undo 64 = .ok (.iastore, 1) := by decide +kernel
theorem dX4_undo_65 : decode cX4_undo 65 = .ok (.iinc 1 1, 3) := by decide +kernel
theorem dX4_undo_68 : decode cX4_undo 68 = .ok (.goto (-31), 3) := by decide +kernel
theorem dX4_undo_71 : decode cX4_undo 71 = .ok (.aload_n 0, 1) := by decide +kernel
theorem dX4_undo_72 : decode cX4_undo 72 = .ok (.getfield 40, 3) := by decide +kernel
theorem dX4_undo_75 : decode cX4_undo 75 = .ok (.ireturn, 1) := by decide +kernel
set_option maxRecDepth 20000 in
theorem ggX4_stopOn_X4_stopSquare : GoodIn wsX4_stopOn wsX4_stopSquare := goodIn_r _ [5, 6, 11, 12, 13, 14, 15, 16, 17, 18, 19, 20, 21, 22, 23] (by decide +kernel) (by decide +kernel)
set_option maxRecDepth 20000 in
theorem gX4_stopOn_X4_stopSquare : GoodIn wsX4_stopOn (wsV RX4 37 RX4 yX4_stopSquare wsX4_stopSquare) := goodIn_app (goodIn_of _ (by decide +kernel)) ggX4_stopOn_X4_stopSquare
set_option maxRecDepth 20000 in
theorem ggX4_stopOn_X4_stopPlayer : GoodIn wsX4_stopOn wsX4_stopPlayer := goodIn_r _ [10, 6, 11, 12, 13, 14, 15, 16, 17, 18, 19, 20, 21, 22, 23] (by decide +kernel) (by decide +kernel)
set_option maxRecDepth 20000 in
theorem gX4_stopOn_X4_stopPlayer : GoodIn wsX4_stopOn (wsV RX4 43 RX4 yX4_stopPlayer wsX4_stopPlayer) := goodIn_app (goodIn_of _ (by decide +kernel)) ggX4_stopOn_X4_stopPlayer
theorem dX4_stopOn_0 : decode cX4_stopOn 0 = .ok (.iconst (-1), 1) := by decide +kernel
theorem dX4_stopOn_1 : decode cX4_stopOn 1 = .ok (.istore_n 3, 1) := by decide +kernel
theorem dX4_stopOn_2 : decode cX4_stopOn 2 = .ok (.bipush 11, 2) := by decide +kernel
theorem dX4_stopOn_4 : decode cX4_stopOn 4 = .ok (.istore 4, 2) := by decide +kernel
theorem dX4_stopOn_6 : decode cX4_stopOn 6 = .ok (.iload 4, 2) := by decide +kernel
theorem dX4_stopOn_8 : decode cX4_stopOn 8 = .ok (.ifCond .lt 41, 3) := by decide +kernel
theorem dX4_stopOn_11 : decode cX4_stopOn 11 = .ok (.aload_n 0, 1) := by decide +kernel
theorem dX4_stopOn_12 : decode cX4_stopOn 12 = .ok (.iload 4, 2) := by decide +kernel
theorem dX4_stopOn_14 : decode cX4_stopOn 14 = .ok (.invokevirtual 37, 3) := by decide +kernel
theorem dX4_stopOn_17 : decode cX4_stopOn 17 = .ok (.iload_n 1, 1) := by decide +kernel
theorem dX4_stopOn_18 : decode cX4_stopOn 18 = .ok (.if_icmp .ne 23, 3) := by decide +kernel
theorem dX4_stopOn_21 : decode cX4_stopOn 21 = .ok (.iload_n 2, 1) := by decide +kernel
theorem dX4_stopOn_22 : decode cX4_stopOn 22 = .ok (.iconst (-1), 1) := by decide +kernel
theorem dX4_stopOn_23 : decode cX4_stopOn 23 = .ok (.if_icmp .eq 13, 3) := by decide +kernel
theorem dX4_stopOn_26 : decode cX4_stopOn 26 = .ok (.aload_n 0, 1) := by decide +kernel
theorem dX4_stopOn_27 : decode cX4_stopOn 27 = .ok (.iload 4, 2) := by decide +kernel
theorem dX4_stopOn_29 : decode cX4_stopOn 29 = .ok (.invokevirtual 43, 3) := by decide +kernel
theorem dX4_stopOn_32 : decode cX4_stopOn 32 = .ok (.iload_n 2, 1) := by decide +kernel
theorem dX4_stopOn_33 : decode cX4_stopOn 33 = .ok (.if_icmp .ne 8, 3) := by decide +kernel
theorem dX4_stopOn_36 : decode cX4_stopOn 36 = .ok (.iload 4, 2) := by decide +kernel
theorem dX4_stopOn_38 : decode cX4_stopOn 38 = .ok (.goto 4, 3) := by decide +kernel
theorem dX4_stopOn_41 : decode cX4_stopOn 41 = .ok (.iload_n 3, 1) := by decide +kernel
theorem dX4_stopOn_42 : decode cX4_stopOn 42 = .ok (.istore_n 3, 1) := by decide +kernel
theorem dX4_stopOn_43 : decode cX4_stopOn 43 = .ok (.iinc 4 (-1), 3) := by decide +kernel
theorem dX4_stopOn_46 : decode cX4_stopOn 46 = .ok (.goto (-40), 3) := by decide +kernel
theorem dX4_stopOn_49 : decode cX4_stopOn 49 = .ok (.iload_n 3, 1) := by decide +kernel
theorem dX4_stopOn_50 : decode cX4_stopOn 50 = .ok (.ireturn, 1) := by decide +kernel
set_option maxRecDepth 20000 in
theorem ggX4_freeStop_X4_stopSquare : GoodIn wsX4_freeStop wsX4_stopSquare := goodIn_r _ [5, 6, 7, 8, 9, 10, 11, 12, 13, 14, 15, 16, 17, 18, 19] (by decide +kernel) (by decide +kernel)
set_option maxRecDepth 20000 in
theorem gX4_freeStop_X4_stopSquare : GoodIn wsX4_freeStop (wsV RX4 37 RX4 yX4_stopSquare wsX4_stopSquare) := goodIn_app (goodIn_of _ (by decide +kernel)) ggX4_freeStop_X4_stopSquare
theorem dX4_freeStop_0 : decode cX4_freeStop 0 = .ok (.iconst (-1), 1) := by decide +kernel
theorem dX4_freeStop_1 : decode cX4_freeStop 1 = .ok (.istore_n 1, 1) := by decide +kernel
theorem dX4_freeStop_2 : decode cX4_freeStop 2 = .ok (.bipush 11, 2) := by decide +kernel
theorem dX4_freeStop_4 : decode cX4_freeStop 4 = .ok (.istore_n 2, 1) := by decide +kernel
theorem dX4_freeStop_5 : decode cX4_freeStop 5 = .ok (.iload_n 2, 1) := by decide +kernel
theorem dX4_freeStop_6 : decode cX4_freeStop 6 = .ok (.ifCond .lt 24, 3) := by decide +kernel
theorem dX4_freeStop_9 : decode cX4_freeStop 9 = .ok (.aload_n 0, 1) := by decide +kernel
theorem dX4_freeStop_10 : decode cX4_freeStop 10 = .ok (.iload_n 2, 1) := by decide +kernel
theorem dX4_freeStop_11 : decode cX4_freeStop 11 = .ok (.invokevirtual 37, 3) := by decide +kernel
theorem dX4_freeStop_14 : decode cX4_freeStop 14 = .ok (.iconst (-1), 1) := by decide +kernel
theorem dX4_freeStop_15 : decode cX4_freeStop 15 = .ok (.if_icmp .ne 7, 3) := by decide +kernel
theorem dX4_freeStop_18 : decode cX4_freeStop 18 = .ok (.iload_n 2, 1) := by decide +kernel
theorem dX4_freeStop_19 : decode cX4_freeStop 19 = .ok (.goto 4, 3) := by decide +kernel
theorem dX4_freeStop_22 : decode cX4_freeStop 22 = .ok (.iload_n 1, 1) := by decide +kernel
theorem dX4_freeStop_23 : decode cX4_freeStop 23 = .ok (.istore_n 1, 1) := by decide +kernel
theorem dX4_freeStop_24 : decode cX4_freeStop 24 = .ok (.iinc 2 (-1), 3) := by decide +kernel
theorem dX4_freeStop_27 : decode cX4_freeStop 27 = .ok (.goto (-22), 3) := by decide +kernel
theorem dX4_freeStop_30 : decode cX4_freeStop 30 = .ok (.iload_n 1, 1) := by decide +kernel
theorem dX4_freeStop_31 : decode cX4_freeStop 31 = .ok (.ireturn, 1) := by decide +kernel
set_option maxRecDepth 20000 in
theorem ggX4_house_X4_isSquare : GoodIn wsX4_house wsX4_isSquare := goodIn_r _ [6, 7, 8, 5, 9] (by decide +kernel) (by decide +kernel)
set_option maxRecDepth 20000 in
theorem gX4_house_X4_isSquare : GoodIn wsX4_house (va_wsS RX4 46 yX4_isSquare wsX4_isSquare) := goodIn_app (goodIn_of _ (by decide +kernel)) ggX4_house_X4_isSquare
set_option maxRecDepth 20000 in
theorem ggX4_house_X4_stopOn : GoodIn wsX4_house wsX4_stopOn := goodIn_r _ [13, 14, 15, 16, 5, 17, 1, 18, 19, 20, 21, 28, 29, 30, 31, 32, 33, 34, 35, 36, 37, 38, 39, 40] (by decide +kernel) (by decide +kernel)
set_option maxRecDepth 20000 in
theorem gX4_house_X4_stopOn : GoodIn wsX4_house (wsV RX4 50 RX4 yX4_stopOn wsX4_stopOn) := goodIn_app (goodIn_of _ (by decide +kernel)) ggX4_house_X4_stopOn
set_option maxRecDepth 20000 in
theorem ggX4_house_X4_save : GoodIn wsX4_house wsX4_save := goodIn_r _ [25, 26, 27, 1, 28, 29, 30, 31, 32, 33, 34, 35, 36, 37, 38, 39, 40] (by decide +kernel) (by decide +kernel)
set_option maxRecDepth 20000 in
theorem gX4_house_X4_save : GoodIn wsX4_house (wsV RX4 54 RX4 yX4_save wsX4_save) := goodIn_app (goodIn_of _ (by decide +kernel)) ggX4_house_X4_save
theorem dX4_house_0 : decode cX4_house 0 = .ok (.aload_n 0, 1) := by decide +kernel
theorem dX4_house_1 : decode cX4_house 1 = .ok (.iload_n 1, 1) := by decide +kernel
theorem dX4_house_2 : decode cX4_house 2 = .ok (.invokestatic 46, 3) := by decide +kernel
theorem dX4_house_5 : decode cX4_house 5 = .ok (.ifCond .ne 7, 3) := by decide +kernel
theorem dX4_house_8 : decode cX4_house 8 = .ok (.iconst 1, 1) := by decide +kernel
theorem dX4_house_9 : decode cX4_house 9 = .ok (.goto 30, 3) := by decide +kernel
theorem dX4_house_12 : decode cX4_house 12 = .ok (.aload_n 0, 1) := by decide +kernel
theorem dX4_house_13 : decode cX4_house 13 = .ok (.getfield 7, 3) := by decide +kernel
theorem dX4_house_16 : decode cX4_house 16 = .ok (.bipush 84, 2) := by decide +kernel
theorem dX4_house_18 : decode cX4_house 18 = .ok (.iload_n 1, 1) := by decide +kernel
theorem dX4_house_19 : decode cX4_house 19 = .ok (.iadd, 1) := by decide +kernel
theorem dX4_house_20 : decode cX4_house 20 = .ok (.iaload, 1) := by decide +kernel
theorem dX4_house_21 : decode cX4_house 21 = .ok (.ifCond .ne 13, 3) := by decide +kernel
theorem dX4_house_24 : decode cX4_house 24 = .ok (.aload_n 0, 1) := by decide +kernel
theorem dX4_house_25 : decode cX4_house 25 = .ok (.iload_n 1, 1) := by decide +kernel
theorem dX4_house_26 : decode cX4_house 26 = .ok (.iconst (-1), 1) := by decide +kernel
theorem dX4_house_27 : decode cX4_house 27 = .ok (.invokevirtual 50, 3) := by decide +kernel
theorem dX4_house_30 : decode cX4_house 30 = .ok (.iconst (-1), 1) := by decide +kernel
theorem dX4_house_31 : decode cX4_house 31 = .ok (.if_icmp .eq 7, 3) := by decide +kernel
theorem dX4_house_34 : decode cX4_house 34 = .ok (.iconst 2, 1) := by decide +kernel
theorem dX4_house_35 : decode cX4_house 35 = .ok (.goto 4, 3) := by decide +kernel
theorem dX4_house_38 : decode cX4_house 38 = .ok (.iconst 0, 1) := by decide +kernel
theorem dX4_house_39 : decode cX4_house 39 = .ok (.putfield 29, 3) := by decide +kernel
theorem dX4_house_42 : decode cX4_house 42 = .ok (.aload_n 0, 1) := by decide +kernel
theorem dX4_house_43 : decode cX4_house 43 = .ok (.getfield 29, 3) := by decide +kernel
theorem dX4_house_46 : decode cX4_house 46 = .ok (.ifCond .le 5, 3) := by decide +kernel
theorem dX4_house_49 : decode cX4_house 49 = .ok (.iconst 0, 1) := by decide +kernel
theorem dX4_house_50 : decode cX4_house 50 = .ok (.ireturn, 1) := by decide +kernel
theorem dX4_house_51 : decode cX4_house 51 = .ok (.aload_n 0, 1) := by decide +kernel
theorem dX4_house_52 : decode cX4_house 52 = .ok (.invokevirtual 54, 3) := by decide +kernel
theorem dX4_house_55 : decode cX4_house 55 = .ok (.aload_n 0, 1) := by decide +kernel
theorem dX4_house_56 : decode cX4_house 56 = .ok (.getfield 7, 3) := by decide +kernel
theorem dX4_house_59 : decode cX4_house 59 = .ok (.iconst 4, 1) := by decide +kernel
theorem dX4_house_60 : decode cX4_house 60 = .ok (.iload_n 1, 1) := by decide +kernel
theorem dX4_house_61 : decode cX4_house 61 = .ok (.iadd, 1) := by decide +kernel
theorem dX4_house_62 : decode cX4_house 62 = .ok (.iaload, 1) := by decide +kernel
theorem dX4_house_63 : decode cX4_house 63 = .ok (.istore_n 3, 1) := by decide +kernel
theorem dX4_house_64 : decode cX4_house 64 = .ok (.aload_n 0, 1) := by decide +kernel
theorem dX4_house_65 : decode cX4_house 65 = .ok (.getfield 7, 3) := by decide +kernel
theorem dX4_house_68 : decode cX4_house 68 = .ok (.iconst 4, 1) := by decide +kernel
theorem dX4_house_69 : decode cX4_house 69 = .ok (.iload_n 1, 1) := by decide +kernel
theorem dX4_house_70 : decode cX4_house 70 = .ok (.iadd, 1) := by decide +kernel
theorem dX4_house_71 : decode cX4_house 71 = .ok (.iload_n 2, 1) := by decide +kernel
theorem dX4_house_72 : decode cX4_house 72 = .ok (.ifCond .eq 7, 3) := by decide +kernel
theorem dX4_house_75 : decode cX4_house 75 = .ok (.iconst 1, 1) := by decide +kernel
theorem dX4_house_76 : decode cX4_house 76 = .ok (.goto 4, 3) := by decide +kernel
theorem dX4_house_79 : decode cX4_house 79 = .ok (.iconst 0, 1) := by decide +kernel
theorem dX4_house_80 : decode cX4_house 80 = .ok (.iastore, 1) := by decide +kernel
theorem dX4_house_81 : decode cX4_house 81 = .ok (.iload_n 3, 1) := by decide +kernel
theorem dX4_house_82 : decode cX4_house 82 = .ok (.ireturn, 1) := by decide +kernel
set_option maxRecDepth 20000 in
theorem ggX4_stop_X4_isSquare : GoodIn wsX4_stop wsX4_isSquare := goodIn_r _ [6, 7, 8, 5, 9] (by decide +kernel) (by decide +kernel)
set_option maxRecDepth 20000 in
theorem gX4_stop_X4_isSquare : GoodIn wsX4_stop (va_wsS RX4 46 yX4_isSquare wsX4_isSquare) := goodIn_app (goodIn_of _ (by decide +kernel)) ggX4_stop_X4_isSquare
set_option maxRecDepth 20000 in
theorem ggX4_stop_X4_isPlayer : GoodIn wsX4_stop wsX4_isPlayer := goodIn_r _ [12, 7, 8, 5, 9] (by decide +kernel) (by decide +kernel)
set_option maxRecDepth 20000 in
theorem gX4_stop_X4_isPlayer : GoodIn wsX4_stop (va_wsS RX4 57 yX4_isPlayer wsX4_isPlayer) := goodIn_app (goodIn_of _ (by decide +kernel)) ggX4_stop_X4_isPlayer
set_option maxRecDepth 20000 in
theorem ggX4_stop_X4_isHouse : GoodIn wsX4_stop wsX4_isHouse := goodIn_r _ [16, 2, 39, 40, 41, 42, 43, 44, 45, 46, 47, 48, 49, 50, 51] (by decide +kernel) (by decide +kernel)
set_option maxRecDepth 20000 in
theorem gX4_stop_X4_isHouse : GoodIn wsX4_stop (wsV RX4 60 RX4 yX4_isHouse wsX4_isHouse) := goodIn_app (goodIn_of _ (by decide +kernel)) ggX4_stop_X4_isHouse
set_option maxRecDepth 20000 in
theorem ggX4_stop_X4_stopOn : GoodIn wsX4_stop wsX4_stopOn := goodIn_r _ [20, 21, 22, 23, 5, 24, 2, 25, 26, 27, 28, 39, 40, 41, 42, 43, 44, 45, 46, 47, 48, 49, 50, 51] (by decide +kernel) (by decide +kernel)
set_option maxRecDepth 20000 in
theorem gX4_stop_X4_stopOn : GoodIn wsX4_stop (wsV RX4 50 RX4 yX4_stopOn wsX4_stopOn) := goodIn_app (goodIn_of _ (by decide +kernel)) ggX4_stop_X4_stopOn
set_option maxRecDepth 20000 in
theorem ggX4_stop_X4_freeStop : GoodIn wsX4_stop wsX4_freeStop := goodIn_r _ [32, 21, 22, 23, 5, 24, 2, 39, 40, 41, 42, 43, 44, 45, 46, 47, 48, 49, 50, 51] (by decide +kernel) (by decide +kernel)
set_option maxRecDepth 20000 in
theorem gX4_stop_X4_freeStop : GoodIn wsX4_stop (wsV RX4 63 RX4 yX4_freeStop wsX4_freeStop) := goodIn_app (goodIn_of _ (by decide +kernel)) ggX4_stop_X4_freeStop
set_option maxRecDepth 20000 in
theorem ggX4_stop_X4_save : GoodIn wsX4_stop wsX4_save := goodIn_r _ [36, 37, 38, 2, 39, 40, 41, 42, 43, 44, 45, 46, 47, 48, 49, 50, 51] (by decide +kernel) (by decide +kernel)
set_option maxRecDepth 20000 in
theorem gX4_stop_X4_save : GoodIn wsX4_stop (wsV RX4 54 RX4 yX4_save wsX4_save) := goodIn_app (goodIn_of _ (by decide +kernel)) ggX4_stop_X4_save
theorem dX4_stop_0 : decode cX4_stop 0 = .ok (.iload_n 1, 1) := by decide +kernel
theorem dX4_stop_1 : decode cX4_stop 1 = .ok (.invokestatic 46, 3) := by decide +kernel
theorem dX4_stop_4 : decode cX4_stop 4 = .ok (.ifCond .eq 14, 3) := by decide +kernel
theorem dX4_stop_7 : decode cX4_stop 7 = .ok (.iload_n 2, 1) := by decide +kernel
theorem dX4_stop_8 : decode cX4_stop 8 = .ok (.invokestatic 57, 3) := by decide +kernel
theorem dX4_stop_11 : decode cX4_stop 11 = .ok (.ifCond .eq 7, 3) := by decide +kernel
theorem dX4_stop_14 : decode cX4_stop 14 = .ok (.iconst 1, 1) := by decide +kernel
theorem dX4_stop_15 : decode cX4_stop 15 = .ok (.goto 4, 3) := by decide +kernel
theorem dX4_stop_18 : decode cX4_stop 18 = .ok (.iconst 0, 1) := by decide +kernel
theorem dX4_stop_19 : decode cX4_stop 19 = .ok (.istore_n 3, 1) := by decide +kernel
theorem dX4_stop_20 : decode cX4_stop 20 = .ok (.aload_n 0, 1) := by decide +kernel
theorem dX4_stop_21 : decode cX4_stop 21 = .ok (.iload_n 3, 1) := by decide +kernel
theorem dX4_stop_22 : decode cX4_stop 22 = .ok (.ifCond .ne 7, 3) := by decide +kernel
theorem dX4_stop_25 : decode cX4_stop 25 = .ok (.iconst 1, 1) := by decide +kernel
theorem dX4_stop_26 : decode cX4_stop 26 = .ok (.goto 34, 3) := by decide +kernel
theorem dX4_stop_29 : decode cX4_stop 29 = .ok (.aload_n 0, 1) := by decide +kernel
theorem dX4_stop_30 : decode cX4_stop 30 = .ok (.iload_n 1, 1) := by decide +kernel
theorem dX4_stop_31 : decode cX4_stop 31 = .ok (.invokevirtual 60, 3) := by decide +kernel
theorem dX4_stop_34 : decode cX4_stop 34 = .ok (.ifCond .ne 21, 3) := by decide +kernel
theorem dX4_stop_37 : decode cX4_stop 37 = .ok (.aload_n 0, 1) := by decide +kernel
theorem dX4_stop_38 : decode cX4_stop 38 = .ok (.iload_n 1, 1) := by decide +kernel
theorem dX4_stop_39 : decode cX4_stop 39 = .ok (.iload_n 2, 1) := by decide +kernel
theorem dX4_stop_40 : decode cX4_stop 40 = .ok (.invokevirtual 50, 3) := by decide +kernel
theorem dX4_stop_43 : decode cX4_stop 43 = .ok (.iconst (-1), 1) := by decide +kernel
theorem dX4_stop_44 : decode cX4_stop 44 = .ok (.if_icmp .ne 11, 3) := by decide +kernel
theorem dX4_stop_47 : decode cX4_stop 47 = .ok (.aload_n 0, 1) := by decide +kernel
theorem dX4_stop_48 : decode cX4_stop 48 = .ok (.invokevirtual 63, 3) := by decide +kernel
theorem dX4_stop_51 : decode cX4_stop 51 = .ok (.iconst (-1), 1) := by decide +kernel
theorem dX4_stop_52 : decode cX4_stop 52 = .ok (.if_icmp .ne 7, 3) := by decide +kernel
theorem dX4_stop_55 : decode cX4_stop 55 = .ok (.iconst 2, 1) := by decide +kernel
theorem dX4_stop_56 : decode cX4_stop 56 = .ok (.goto 4, 3) := by decide +kernel
theorem dX4_stop_59 : decode cX4_stop 59 = .ok (.iconst 0, 1) := by decide +kernel
theorem dX4_stop_60 : decode cX4_stop 60 = .ok (.putfield 29, 3) := by decide +kernel
theorem dX4_stop_63 : decode cX4_stop 63 = .ok (.aload_n 0, 1) := by decide +kernel
theorem dX4_stop_64 : decode cX4_stop 64 = .ok (.getfield 29, 3) := by decide +kernel
theorem dX4_stop_67 : decode cX4_stop 67 = .ok (.ifCond .le 5, 3) := by decide +kernel
theorem dX4_stop_70 : decode cX4_stop 70 = .ok (.iconst 0, 1) := by decide +kernel
theorem dX4_stop_71 : decode cX4_stop 71 = .ok (.ireturn, 1) := by decide +kernel
theorem dX4_stop_72 : decode cX4_stop 72 = .ok (.aload_n 0, 1) := by decide +kernel
theorem dX4_stop_73 : decode cX4_stop 73 = .ok (.invokevirtual 54, 3) := by decide +kernel
theorem dX4_stop_76 : decode cX4_stop 76 = .ok (.aload_n 0, 1) := by decide +kernel
theorem dX4_stop_77 : decode cX4_stop 77 = .ok (.invokevirtual 63, 3) := by decide +kernel
theorem dX4_stop_80 : decode cX4_stop 80 = .ok (.istore 4, 2) := by decide +kernel
theorem dX4_stop_82 : decode cX4_stop 82 = .ok (.aload_n 0, 1) := by decide +kernel
theorem dX4_stop_83 : decode cX4_stop 83 = .ok (.getfield 7, 3) := by decide +kernel
theorem dX4_stop_86 : decode cX4_stop 86 = .ok (.sipush 244, 3) := by decide +kernel
theorem dX4_stop_89 : decode cX4_stop 89 = .ok (.iconst 2, 1) := by decide +kernel
theorem dX4_stop_90 : decode cX4_stop 90 = .ok (.iload 4, 2) := by decide +kernel
theorem dX4_stop_92 : decode cX4_stop 92 = .ok (.imul, 1) := by decide +kernel
theorem dX4_stop_93 : decode cX4_stop 93 = .ok (.iadd, 1) := by decide +kernel
theorem dX4_stop_94 : decode cX4_stop 94 = .ok (.iload_n 1, 1) := by decide +kernel
theorem dX4_stop_95 : decode cX4_stop 95 = .ok (.iastore, 1) := by decide +kernel
theorem dX4_stop_96 : decode cX4_stop 96 = .ok (.aload_n 0, 1) := by decide +kernel
theorem dX4_stop_97 : decode cX4_stop 97 = .ok (.getfield 7, 3) := by decide +kernel
theorem dX4_stop_100 : decode cX4_stop 100 = .ok (.sipush 244, 3) := by decide +kernel
theorem dX4_stop_103 : decode cX4_stop 103 = .ok (.iconst 2, 1) := by decide +kernel
theorem dX4_stop_104 : decode cX4_stop 104 = .ok (.iload 4, 2) := by decide +kernel
theorem dX4_stop_106 : decode cX4_stop 106 = .ok (.imul, 1) := by decide +kernel
theorem dX4_stop_107 : decode cX4_stop 107 = .ok (.iadd, 1) := by decide +kernel
theorem dX4_stop_108 : decode cX4_stop 108 = .ok (.iconst 1, 1) := by decide +kernel
theorem dX4_stop_109 : decode cX4_stop 109 = .ok (.iadd, 1) := by decide +kernel
theorem dX4_stop_110 : decode cX4_stop 110 = .ok (.iload_n 2, 1) := by decide +kernel
theorem dX4_stop_111 : decode cX4_stop 111 = .ok (.iastore, 1) := by decide +kernel
theorem dX4_stop_112 : decode cX4_stop 112 = .ok (.iload 4, 2) := by decide +kernel
theorem dX4_stop_114 : decode cX4_stop 114 = .ok (.ireturn, 1) := by decide +kernel
set_option maxRecDepth 20000 in
theorem ggX4_drop_X4_isStop : GoodIn wsX4_drop wsX4_isStop := goodIn_r _ [7, 8, 9, 6, 10, 11, 12, 13, 14, 2, 21, 22, 23, 24, 25, 26, 27, 28, 29, 30, 31, 32, 33] (by decide +kernel) (by decide +kernel)
set_option maxRecDepth 20000 in
theorem gX4_drop_X4_isStop : GoodIn wsX4_drop (wsV RX4 67 RX4 yX4_isStop wsX4_isStop) := goodIn_app (goodIn_of _ (by decide +kernel)) ggX4_drop_X4_isStop
set_option maxRecDepth 20000 in
theorem ggX4_drop_X4_save : GoodIn wsX4_drop wsX4_save := goodIn_r _ [18, 19, 20, 2, 21, 22, 23, 24, 25, 26, 27, 28, 29, 30, 31, 32, 33] (by decide +kernel) (by decide +kernel)
set_option maxRecDepth 20000 in
theorem gX4_drop_X4_save : GoodIn wsX4_drop (wsV RX4 54 RX4 yX4_save wsX4_save) := goodIn_app (goodIn_of _ (by decide +kernel)) ggX4_drop_X4_save
set_option maxRecDepth 20000 in
theorem ggX4_drop_X4_stopSquare : GoodIn wsX4_drop wsX4_stopSquare := goodIn_r _ [14, 2, 21, 22, 23, 24, 25, 26, 27, 28, 29, 30, 31, 32, 33] (by decide +kernel) (by decide +kernel)
set_option maxRecDepth 20000 in
theorem gX4_drop_X4_stopSquare : GoodIn wsX4_drop (wsV RX4 37 RX4 yX4_stopSquare wsX4_stopSquare) := goodIn_app (goodIn_of _ (by decide +kernel)) ggX4_drop_X4_stopSquare
theorem dX4_drop_0 : decode cX4_drop 0 = .ok (.aload_n 0, 1) := by decide +kernel
theorem dX4_drop_1 : decode cX4_drop 1 = .ok (.aload_n 0, 1) := by decide +kernel
theorem dX4_drop_2 : decode cX4_drop 2 = .ok (.iload_n 1, 1) := by decide +kernel
theorem dX4_drop_3 : decode cX4_drop 3 = .ok (.invokevirtual 67, 3) := by decide +kernel
theorem dX4_drop_6 : decode cX4_drop 6 = .ok (.ifCond .eq 7, 3) := by decide +kernel
theorem dX4_drop_9 : decode cX4_drop 9 = .ok (.iconst 0, 1) := by decide +kernel
theorem dX4_drop_10 : decode cX4_drop 10 = .ok (.goto 4, 3) := by decide +kernel
theorem dX4_drop_13 : decode cX4_drop 13 = .ok (.iconst 1, 1) := by decide +kernel
theorem dX4_drop_14 : decode cX4_drop 14 = .ok (.putfield 29, 3) := by decide +kernel
theorem dX4_drop_17 : decode cX4_drop 17 = .ok (.aload_n 0, 1) := by decide +kernel
theorem dX4_drop_18 : decode cX4_drop 18 = .ok (.getfield 29, 3) := by decide +kernel
theorem dX4_drop_21 : decode cX4_drop 21 = .ok (.ifCond .le 5, 3) := by decide +kernel
theorem dX4_drop_24 : decode cX4_drop 24 = .ok (.iconst 0, 1) := by decide +kernel
theorem dX4_drop_25 : decode cX4_drop 25 = .ok (.ireturn, 1) := by decide +kernel
theorem dX4_drop_26 : decode cX4_drop 26 = .ok (.aload_n 0, 1) := by decide +kernel
theorem dX4_drop_27 : decode cX4_drop 27 = .ok (.invokevirtual 54, 3) := by decide +kernel
theorem dX4_drop_30 : decode cX4_drop 30 = .ok (.aload_n 0, 1) := by decide +kernel
theorem dX4_drop_31 : decode cX4_drop 31 = .ok (.iload_n 1, 1) := by decide +kernel
theorem dX4_drop_32 : decode cX4_drop 32 = .ok (.invokevirtual 37, 3) := by decide +kernel
theorem dX4_drop_35 : decode cX4_drop 35 = .ok (.istore_n 2, 1) := by decide +kernel
theorem dX4_drop_36 : decode cX4_drop 36 = .ok (.aload_n 0, 1) := by decide +kernel
theorem dX4_drop_37 : decode cX4_drop 37 = .ok (.getfield 7, 3) := by decide +kernel
theorem dX4_drop_40 : decode cX4_drop 40 = .ok (.sipush 244, 3) := by decide +kernel
theorem dX4_drop_43 : decode cX4_drop 43 = .ok (.iconst 2, 1) := by decide +kernel
theorem dX4_drop_44 : decode cX4_drop 44 = .ok (.iload_n 1, 1) := by decide +kernel
theorem dX4_drop_45 : decode cX4_drop 45 = .ok (.imul, 1) := by decide +kernel
theorem dX4_drop_46 : decode cX4_drop 46 = .ok (.iadd, 1) := by decide +kernel
theorem dX4_drop_47 : decode cX4_drop 47 = .ok (.iconst (-1), 1) := by decide +kernel
theorem dX4_drop_48 : decode cX4_drop 48 = .ok (.iastore, 1) := by decide +kernel
theorem dX4_drop_49 : decode cX4_drop 49 = .ok (.aload_n 0, 1) := by decide +kernel
theorem dX4_drop_50 : decode cX4_drop 50 = .ok (.getfield 7, 3) := by decide +kernel
theorem dX4_drop_53 : decode cX4_drop 53 = .ok (.sipush 244, 3) := by decide +kernel
theorem dX4_drop_56 : decode cX4_drop 56 = .ok (.iconst 2, 1) := by decide +kernel
theorem dX4_drop_57 : decode cX4_drop 57 = .ok (.iload_n 1, 1) := by decide +kernel
theorem dX4_drop_58 : decode cX4_drop 58 = .ok (.imul, 1) := by decide +kernel
theorem dX4_drop_59 : decode cX4_drop 59 = .ok (.iadd, 1) := by decide +kernel
theorem dX4_drop_60 : decode cX4_drop 60 = .ok (.iconst 1, 1) := by decide +kernel
theorem dX4_drop_61 : decode cX4_drop 61 = .ok (.iadd, 1) := by decide +kernel
theorem dX4_drop_62 : decode cX4_drop 62 = .ok (.iconst (-1), 1) := by decide +kernel
theorem dX4_drop_63 : decode cX4_drop 63 = .ok (.iastore, 1) := by decide +kernel
theorem dX4_drop_64 : decode cX4_drop 64 = .ok (.iload_n 2, 1) := by decide +kernel
theorem dX4_drop_65 : decode cX4_drop 65 = .ok (.ireturn, 1) := by decide +kernel
theorem dX4_allows_0 : decode cX4_allows 0 = .ok (.iload_n 1, 1) := by decide +kernel
theorem dX4_allows_1 : decode cX4_allows 1 = .ok (.iconst (-1), 1) := by decide +kernel
theorem dX4_allows_2 : decode cX4_allows 2 = .ok (.if_icmp .eq 9, 3) := by decide +kernel
theorem dX4_allows_5 : decode cX4_allows 5 = .ok (.iload_n 0, 1) := by decide +kernel
theorem dX4_allows_6 : decode cX4_allows 6 = .ok (.bipush 6, 2) := by decide +kernel
theorem dX4_allows_8 : decode cX4_allows 8 = .ok (.if_icmp .ne 5, 3) := by decide +kernel
theorem dX4_allows_11 : decode cX4_allows 11 = .ok (.iconst 1, 1) := by decide +kernel
theorem dX4_allows_12 : decode cX4_allows 12 = .ok (.ireturn, 1) := by decide +kernel
theorem dX4_allows_13 : decode cX4_allows 13 = .ok (.iload_n 2, 1) := by decide +kernel
theorem dX4_allows_14 : decode cX4_allows 14 = .ok (.iload_n 1, 1) := by decide +kernel
theorem dX4_allows_15 : decode cX4_allows 15 = .ok (.isub, 1) := by decide +kernel
theorem dX4_allows_16 : decode cX4_allows 16 = .ok (.iconst 4, 1) := by decide +kernel
theorem dX4_allows_17 : decode cX4_allows 17 = .ok (.iadd, 1) := by decide +kernel
theorem dX4_allows_18 : decode cX4_allows 18 = .ok (.iconst 4, 1) := by decide +kernel
theorem dX4_allows_19 : decode cX4_allows 19 = .ok (.irem, 1) := by decide +kernel
theorem dX4_allows_20 : decode cX4_allows 20 = .ok (.istore_n 3, 1) := by decide +kernel
theorem dX4_allows_21 : decode cX4_allows 21 = .ok (.iload_n 0, 1) := by decide +kernel
theorem dX4_allows_22 : decode cX4_allows 22 = .ok (.iconst 3, 1) := by decide +kernel
theorem dX4_allows_23 : decode cX4_allows 23 = .ok (.if_icmp .ge 16, 3) := by decide +kernel
theorem dX4_allows_26 : decode cX4_allows 26 = .ok (.iload_n 3, 1) := by decide +kernel
theorem dX4_allows_27 : decode cX4_allows 27 = .ok (.iconst 2, 1) := by decide +kernel
theorem dX4_allows_28 : decode cX4_allows 28 = .ok (.if_icmp .eq 7, 3) := by decide +kernel
theorem dX4_allows_31 : decode cX4_allows 31 = .ok (.iconst 1, 1) := by decide +kernel
theorem dX4_allows_32 : decode cX4_allows 32 = .ok (.goto 39, 3) := by decide +kernel
theorem dX4_allows_35 : decode cX4_allows 35 = .ok (.iconst 0, 1) := by decide +kernel
theorem dX4_allows_36 : decode cX4_allows 36 = .ok (.goto 35, 3) := by decide +kernel
theorem dX4_allows_39 : decode cX4_allows 39 = .ok (.iload_n 0, 1) := by decide +kernel
theorem dX4_allows_40 : decode cX4_allows 40 = .ok (.iconst 5, 1) := by decide +kernel
theorem dX4_allows_41 : decode cX4_allows 41 = .ok (.if_icmp .ge 15, 3) := by decide +kernel
theorem dX4_allows_44 : decode cX4_allows 44 = .ok (.iload_n 3, 1) := by decide +kernel
theorem dX4_allows_45 : decode cX4_allows 45 = .ok (.ifCond .ne 7, 3) := by decide +kernel
theorem dX4_allows_48 : decode cX4_allows 48 = .ok (.iconst 1, 1) := by decide +kernel
theorem dX4_allows_49 : decode cX4_allows 49 = .ok (.goto 22, 3) := by decide +kernel
theorem dX4_allows_52 : decode cX4_allows 52 = .ok (.iconst 0, 1) := by decide +kernel
theorem dX4_allows_53 : decode cX4_allows 53 = .ok (.goto 18, 3) := by decide +kernel
theorem dX4_allows_56 : decode cX4_allows 56 = .ok (.iload_n 3, 1) := by decide +kernel
theorem dX4_allows_57 : decode cX4_allows 57 = .ok (.iconst 1, 1) := by decide +kernel
theorem dX4_allows_58 : decode cX4_allows 58 = .ok (.if_icmp .eq 8, 3) := by decide +kernel
theorem dX4_allows_61 : decode cX4_allows 61 = .ok (.iload_n 3, 1) := by decide +kernel
theorem dX4_allows_62 : decode cX4_allows 62 = .ok (.iconst 3, 1) := by decide +kernel
theorem dX4_allows_63 : decode cX4_allows 63 = .ok (.if_icmp .ne 7, 3) := by decide +kernel
theorem dX4_allows_66 : decode cX4_allows 66 = .ok (.iconst 1, 1) := by decide +kernel
theorem dX4_allows_67 : decode cX4_allows 67 = .ok (.goto 4, 3) := by decide +kernel
theorem dX4_allows_70 : decode cX4_allows 70 = .ok (.iconst 0, 1) := by decide +kernel
theorem dX4_allows_71 : decode cX4_allows 71 = .ok (.ireturn, 1) := by decide +kernel
set_option maxRecDepth 20000 in
theorem ggX4_toll_X4_tracks : GoodIn wsX4_toll wsX4_tracks := goodIn_r _ [6, 1, 7, 8, 9, 10, 11, 12, 13, 14, 15, 16, 17, 18, 19] (by decide +kernel) (by decide +kernel)
set_option maxRecDepth 20000 in
theorem gX4_toll_X4_tracks : GoodIn wsX4_toll (wsV RX4 70 RX4 yX4_tracks wsX4_tracks) := goodIn_app (goodIn_of _ (by decide +kernel)) ggX4_toll_X4_tracks
theorem dX4_toll_0 : decode cX4_toll 0 = .ok (.aload_n 0, 1) := by decide +kernel
theorem dX4_toll_1 : decode cX4_toll 1 = .ok (.getfield 7, 3) := by decide +kernel
theorem dX4_toll_4 : decode cX4_toll 4 = .ok (.sipush 164, 3) := by decide +kernel
theorem dX4_toll_7 : decode cX4_toll 7 = .ok (.iload_n 1, 1) := by decide +kernel
theorem dX4_toll_8 : decode cX4_toll 8 = .ok (.iadd, 1) := by decide +kernel
theorem dX4_toll_9 : decode cX4_toll 9 = .ok (.iaload, 1) := by decide +kernel
theorem dX4_toll_10 : decode cX4_toll 10 = .ok (.iconst (-1), 1) := by decide +kernel
theorem dX4_toll_11 : decode cX4_toll 11 = .ok (.if_icmp .ne 7, 3) := by decide +kernel
theorem dX4_toll_14 : decode cX4_toll 14 = .ok (.iconst 0, 1) := by decide +kernel
theorem dX4_toll_15 : decode cX4_toll 15 = .ok (.goto 15, 3) := by decide +kernel
theorem dX4_toll_18 : decode cX4_toll 18 = .ok (.aload_n 0, 1) := by decide +kernel
theorem dX4_toll_19 : decode cX4_toll 19 = .ok (.getfield 7, 3) := by decide +kernel
theorem dX4_toll_22 : decode cX4_toll 22 = .ok (.iconst 0, 1) := by decide +kernel
theorem dX4_toll_23 : decode cX4_toll 23 = .ok (.iaload, 1) := by decide +kernel
theorem dX4_toll_24 : decode cX4_toll 24 = .ok (.aload_n 0, 1) := by decide +kernel
theorem dX4_toll_25 : decode cX4_toll 25 = .ok (.iload_n 1, 1) := by decide +kernel
theorem dX4_toll_26 : decode cX4_toll 26 = .ok (.invokevirtual 70, 3) := by decide +kernel
theorem dX4_toll_29 : decode cX4_toll 29 = .ok (.imul, 1) := by decide +kernel
theorem dX4_toll_30 : decode cX4_toll 30 = .ok (.ireturn, 1) := by decide +kernel
set_option maxRecDepth 20000 in
theorem ggX4_whyNot_X4_beside : GoodIn wsX4_whyNot wsX4_beside := goodIn_r _ [5, 6, 7, 4, 8] (by decide +kernel) (by decide +kernel)
set_option maxRecDepth 20000 in
theorem gX4_whyNot_X4_beside : GoodIn wsX4_whyNot (va_wsS RX4 73 yX4_beside wsX4_beside) := goodIn_app (goodIn_of _ (by decide +kernel)) ggX4_whyNot_X4_beside
set_option maxRecDepth 20000 in
theorem ggX4_whyNot_X4_of : GoodIn wsX4_whyNot wsX4_of := goodIn_r _ [12, 1, 32, 33, 34, 35, 36, 37, 38, 39, 40, 41, 42, 43, 44] (by decide +kernel) (by decide +kernel)
set_option maxRecDepth 20000 in
theorem gX4_whyNot_X4_of : GoodIn wsX4_whyNot (wsV RX4 76 RX4 yX4_of wsX4_of) := goodIn_app (goodIn_of _ (by decide +kernel)) ggX4_whyNot_X4_of
set_option maxRecDepth 20000 in
theorem ggX4_whyNot_X4_allows : GoodIn wsX4_whyNot wsX4_allows := goodIn_r _ [15] (by decide +kernel) (by decide +kernel)
set_option maxRecDepth 20000 in
theorem gX4_whyNot_X4_allows : GoodIn wsX4_whyNot (va_wsS RX4 79 yX4_allows wsX4_allows) := goodIn_app (goodIn_of _ (by decide +kernel)) ggX4_whyNot_X4_allows
set_option maxRecDepth 20000 in
theorem ggX4_whyNot_X4_isHouse : GoodIn wsX4_whyNot wsX4_isHouse := goodIn_r _ [19, 1, 32, 33, 34, 35, 36, 37, 38, 39, 40, 41, 42, 43, 44] (by decide +kernel) (by decide +kernel)
set_option maxRecDepth 20000 in
theorem gX4_whyNot_X4_isHouse : GoodIn wsX4_whyNot (wsV RX4 60 RX4 yX4_isHouse wsX4_isHouse) := goodIn_app (goodIn_of _ (by decide +kernel)) ggX4_whyNot_X4_isHouse
set_option maxRecDepth 20000 in
theorem ggX4_whyNot_X4_hasTrack : GoodIn wsX4_whyNot wsX4_hasTrack := goodIn_r _ [23, 1, 32, 33, 34, 35, 36, 37, 38, 39, 40, 41, 42, 43, 44] (by decide +kernel) (by decide +kernel)
set_option maxRecDepth 20000 in
theorem gX4_whyNot_X4_hasTrack : GoodIn wsX4_whyNot (wsV RX4 82 RX4 yX4_hasTrack wsX4_hasTrack) := goodIn_app (goodIn_of _ (by decide +kernel)) ggX4_whyNot_X4_hasTrack
set_option maxRecDepth 20000 in
theorem ggX4_whyNot_X4_tracks : GoodIn wsX4_whyNot wsX4_tracks := goodIn_r _ [27, 1, 32, 33, 34, 35, 36, 37, 38, 39, 40, 41, 42, 43, 44] (by decide +kernel) (by decide +kernel)
set_option maxRecDepth 20000 in
theorem gX4_whyNot_X4_tracks : GoodIn wsX4_whyNot (wsV RX4 70 RX4 yX4_tracks wsX4_tracks) := goodIn_app (goodIn_of _ (by decide +kernel)) ggX4_whyNot_X4_tracks
set_option maxRecDepth 20000 in
theorem ggX4_whyNot_X4_toll : GoodIn wsX4_whyNot wsX4_toll := goodIn_r _ [31, 1, 24, 25, 26, 4, 27, 32, 33, 34, 35, 36, 37, 38, 39, 40, 41, 42, 43, 44] (by decide +kernel) (by decide +kernel)
set_option maxRecDepth 20000 in
theorem gX4_whyNot_X4_toll : GoodIn wsX4_whyNot (wsV RX4 86 RX4 yX4_toll wsX4_toll) := goodIn_app (goodIn_of _ (by decide +kernel)) ggX4_whyNot_X4_toll
theorem dX4_whyNot_0 : decode cX4_whyNot 0 = .ok (.iload_n 2, 1) := by decide +kernel
theorem dX4_whyNot_1 : decode cX4_whyNot 1 = .ok (.iload 4, 2) := by decide +kernel
theorem dX4_whyNot_3 : decode cX4_whyNot 3 = .ok (.invokestatic 73, 3) := by decide +kernel
theorem dX4_whyNot_6 : decode cX4_whyNot 6 = .ok (.istore 5, 2) := by decide +kernel
theorem dX4_whyNot_8 : decode cX4_whyNot 8 = .ok (.iload 5, 2) := by decide +kernel
theorem dX4_whyNot_10 : decode cX4_whyNot 10 = .ok (.iconst (-1), 1) := by decide +kernel
theorem dX4_whyNot_11 : decode cX4_whyNot 11 = .ok (.if_icmp .ne 5, 3) := by decide +kernel
theorem dX4_whyNot_14 : decode cX4_whyNot 14 = .ok (.iconst 1, 1) := by decide +kernel
theorem dX4_whyNot_15 : decode cX4_whyNot 15 = .ok (.ireturn, 1) := by decide +kernel
theorem dX4_whyNot_16 : decode cX4_whyNot 16 = .ok (.iload_n 3, 1) := by decide +kernel
theorem dX4_whyNot_17 : decode cX4_whyNot 17 = .ok (.aload_n 0, 1) := by decide +kernel
theorem dX4_whyNot_18 : decode cX4_whyNot 18 = .ok (.iload_n 1, 1) := by decide +kernel
theorem dX4_whyNot_19 : decode cX4_whyNot 19 = .ok (.iconst 2, 1) := by decide +kernel
theorem dX4_whyNot_20 : decode cX4_whyNot 20 = .ok (.invokevirtual 76, 3) := by decide +kernel
theorem dX4_whyNot_23 : decode cX4_whyNot 23 = .ok (.iload 4, 2) := by decide +kernel
theorem dX4_whyNot_25 : decode cX4_whyNot 25 = .ok (.invokestatic 79, 3) := by decide +kernel
theorem dX4_whyNot_28 : decode cX4_whyNot 28 = .ok (.ifCond .ne 5, 3) := by decide +kernel
theorem dX4_whyNot_31 : decode cX4_whyNot 31 = .ok (.iconst 2, 1) := by decide +kernel
theorem dX4_whyNot_32 : decode cX4_whyNot 32 = .ok (.ireturn, 1) := by decide +kernel
theorem dX4_whyNot_33 : decode cX4_whyNot 33 = .ok (.aload_n 0, 1) := by decide +kernel
theorem dX4_whyNot_34 : decode cX4_whyNot 34 = .ok (.iload 5, 2) := by decide +kernel
theorem dX4_whyNot_36 : decode cX4_whyNot 36 = .ok (.invokevirtual 60, 3) := by decide +kernel
theorem dX4_whyNot_39 : decode cX4_whyNot 39 = .ok (.ifCond .eq 5, 3) := by decide +kernel
theorem dX4_whyNot_42 : decode cX4_whyNot 42 = .ok (.iconst 3, 1) := by decide +kernel
theorem dX4_whyNot_43 : decode cX4_whyNot 43 = .ok (.ireturn, 1) := by decide +kernel
theorem dX4_whyNot_44 : decode cX4_whyNot 44 = .ok (.aload_n 0, 1) := by decide +kernel
theorem dX4_whyNot_45 : decode cX4_whyNot 45 = .ok (.iload_n 1, 1) := by decide +kernel
theorem dX4_whyNot_46 : decode cX4_whyNot 46 = .ok (.iload 5, 2) := by decide +kernel
theorem dX4_whyNot_48 : decode cX4_whyNot 48 = .ok (.invokevirtual 82, 3) := by decide +kernel
theorem dX4_whyNot_51 : decode cX4_whyNot 51 = .ok (.ifCond .eq 5, 3) := by decide +kernel
theorem dX4_whyNot_54 : decode cX4_whyNot 54 = .ok (.iconst 4, 1) := by decide +kernel
theorem dX4_whyNot_55 : decode cX4_whyNot 55 = .ok (.ireturn, 1) := by decide +kernel
theorem dX4_whyNot_56 : decode cX4_whyNot 56 = .ok (.aload_n 0, 1) := by decide +kernel
theorem dX4_whyNot_57 : decode cX4_whyNot 57 = .ok (.iload 5, 2) := by decide +kernel
theorem dX4_whyNot_59 : decode cX4_whyNot 59 = .ok (.invokevirtual 70, 3) := by decide +kernel
theorem dX4_whyNot_62 : decode cX4_whyNot 62 = .ok (.aload_n 0, 1) := by decide +kernel
theorem dX4_whyNot_63 : decode cX4_whyNot 63 = .ok (.getfield 7, 3) := by decide +kernel
theorem dX4_whyNot_66 : decode cX4_whyNot 66 = .ok (.iconst 1, 1) := by decide +kernel
theorem dX4_whyNot_67 : decode cX4_whyNot 67 = .ok (.iaload, 1) := by decide +kernel
theorem dX4_whyNot_68 : decode cX4_whyNot 68 = .ok (.if_icmp .lt 5, 3) := by decide +kernel
theorem dX4_whyNot_71 : decode cX4_whyNot 71 = .ok (.iconst 5, 1) := by decide +kernel
theorem dX4_whyNot_72 : decode cX4_whyNot 72 = .ok (.ireturn, 1) := by decide +kernel
theorem dX4_whyNot_73 : decode cX4_whyNot 73 = .ok (.aload_n 0, 1) := by decide +kernel
theorem dX4_whyNot_74 : decode cX4_whyNot 74 = .ok (.iload 5, 2) := by decide +kernel
theorem dX4_whyNot_76 : decode cX4_whyNot 76 = .ok (.invokevirtual 86, 3) := by decide +kernel
theorem dX4_whyNot_79 : decode cX4_whyNot 79 = .ok (.aload_n 0, 1) := by decide +kernel
theorem dX4_whyNot_80 : decode cX4_whyNot 80 = .ok (.iload_n 1, 1) := by decide +kernel
theorem dX4_whyNot_81 : decode cX4_whyNot 81 = .ok (.iconst 0, 1) := by decide +kernel
theorem dX4_whyNot_82 : decode cX4_whyNot 82 = .ok (.invokevirtual 76, 3) := by decide +kernel
theorem dX4_whyNot_85 : decode cX4_whyNot 85 = .ok (.if_icmp .le 8, 3) := by decide +kernel
theorem dX4_whyNot_88 : decode cX4_whyNot 88 = .ok (.bipush 6, 2) := by decide +kernel
theorem dX4_whyNot_90 : decode cX4_whyNot 90 = .ok (.goto 4, 3) := by decide +kernel
theorem dX4_whyNot_93 : decode cX4_whyNot 93 = .ok (.iconst 0, 1) := by decide +kernel
theorem dX4_whyNot_94 : decode cX4_whyNot 94 = .ok (.ireturn, 1) := by decide +kernel
set_option maxRecDepth 20000 in
theorem ggX4_layIt_X4_beside : GoodIn wsX4_layIt wsX4_beside := goodIn_r _ [5, 6, 7, 4, 8] (by decide +kernel) (by decide +kernel)
set_option maxRecDepth 20000 in
theorem gX4_layIt_X4_beside : GoodIn wsX4_layIt (va_wsS RX4 73 yX4_beside wsX4_beside) := goodIn_app (goodIn_of _ (by decide +kernel)) ggX4_layIt_X4_beside
set_option maxRecDepth 20000 in
theorem ggX4_layIt_X4_toll : GoodIn wsX4_layIt wsX4_toll := goodIn_r _ [12, 1, 13, 14, 15, 4, 16, 17, 18, 19, 20, 21, 22, 23, 24, 25, 26, 27, 28, 29] (by decide +kernel) (by decide +kernel)
set_option maxRecDepth 20000 in
theorem gX4_layIt_X4_toll : GoodIn wsX4_layIt (wsV RX4 86 RX4 yX4_toll wsX4_toll) := goodIn_app (goodIn_of _ (by decide +kernel)) ggX4_layIt_X4_toll
theorem dX4_layIt_0 : decode cX4_layIt 0 = .ok (.iload_n 2, 1) := by decide +kernel
theorem dX4_layIt_1 : decode cX4_layIt 1 = .ok (.iload_n 3, 1) := by decide +kernel
theorem dX4_layIt_2 : decode cX4_layIt 2 = .ok (.invokestatic 73, 3) := by decide +kernel
theorem dX4_layIt_5 : decode cX4_layIt 5 = .ok (.istore 4, 2) := by decide +kernel
theorem dX4_layIt_7 : decode cX4_layIt 7 = .ok (.aload_n 0, 1) := by decide +kernel
theorem dX4_layIt_8 : decode cX4_layIt 8 = .ok (.iload 4, 2) := by decide +kernel
theorem dX4_layIt_10 : decode cX4_layIt 10 = .ok (.invokevirtual 86, 3) := by decide +kernel
theorem dX4_layIt_13 : decode cX4_layIt 13 = .ok (.istore 5, 2) := by decide +kernel
theorem dX4_layIt_15 : decode cX4_layIt 15 = .ok (.sipush 268, 3) := by decide +kernel
theorem dX4_layIt_18 : decode cX4_layIt 18 = .ok (.iconst 5, 1) := by decide +kernel
theorem dX4_layIt_19 : decode cX4_layIt 19 = .ok (.iload_n 1, 1) := by decide +kernel
theorem dX4_layIt_20 : decode cX4_layIt 20 = .ok (.imul, 1) := by decide +kernel
theorem dX4_layIt_21 : decode cX4_layIt 21 = .ok (.iadd, 1) := by decide +kernel
theorem dX4_layIt_22 : decode cX4_layIt 22 = .ok (.istore 6, 2) := by decide +kernel
theorem dX4_layIt_24 : decode cX4_layIt 24 = .ok (.aload_n 0, 1) := by decide +kernel
theorem dX4_layIt_25 : decode cX4_layIt 25 = .ok (.getfield 7, 3) := by decide +kernel
theorem dX4_layIt_28 : decode cX4_layIt 28 = .ok (.iload 6, 2) := by decide +kernel
theorem dX4_layIt_30 : decode cX4_layIt 30 = .ok (.iconst 0, 1) := by decide +kernel
theorem dX4_layIt_31 : decode cX4_layIt 31 = .ok (.iadd, 1) := by decide +kernel
theorem dX4_layIt_32 : decode cX4_layIt 32 = .ok (.dup2, 1) := by decide +kernel
theorem dX4_layIt_33 : decode cX4_layIt 33 = .ok (.iaload, 1) := by decide +kernel
theorem dX4_layIt_34 : decode cX4_layIt 34 = .ok (.aload_n 0, 1) := by decide +kernel
theorem dX4_layIt_35 : decode cX4_layIt 35 = .ok (.getfield 7, 3) := by decide +kernel
theorem dX4_layIt_38 : decode cX4_layIt 38 = .ok (.iconst 2, 1) := by decide +kernel
theorem dX4_layIt_39 : decode cX4_layIt 39 = .ok (.iaload, 1) := by decide +kernel
theorem dX4_layIt_40 : decode cX4_layIt 40 = .ok (.iload 5, 2) := by decide +kernel
theorem dX4_layIt_42 : decode cX4_layIt 42 = .ok (.isub, 1) := by decide +kernel
theorem dX4_layIt_43 : decode cX4_layIt 43 = .ok (.iadd, 1) := by decide +kernel
theorem dX4_layIt_44 : decode cX4_layIt 44 = .ok (.iastore, 1) := by decide +kernel
theorem dX4_layIt_45 : decode cX4_layIt 45 = .ok (.aload_n 0, 1) := by decide +kernel
theorem dX4_layIt_46 : decode cX4_layIt 46 = .ok (.getfield 7, 3) := by decide +kernel
theorem dX4_layIt_49 : decode cX4_layIt 49 = .ok (.iload 6, 2) := by decide +kernel
theorem dX4_layIt_51 : decode cX4_layIt 51 = .ok (.iconst 3, 1) := by decide +kernel
theorem dX4_layIt_52 : decode cX4_layIt 52 = .ok (.iadd, 1) := by decide +kernel
theorem dX4_layIt_53 : decode cX4_layIt 53 = .ok (.dup2, 1) := by decide +kernel
theorem dX4_layIt_54 : decode cX4_layIt 54 = .ok (.iaload, 1) := by decide +kernel
theorem dX4_layIt_55 : decode cX4_layIt 55 = .ok (.iload 5, 2) := by decide +kernel
theorem dX4_layIt_57 : decode cX4_layIt 57 = .ok (.iadd, 1) := by decide +kernel
theorem dX4_layIt_58 : decode cX4_layIt 58 = .ok (.iastore, 1) := by decide +kernel
theorem dX4_layIt_59 : decode cX4_layIt 59 = .ok (.aload_n 0, 1) := by decide +kernel
theorem dX4_layIt_60 : decode cX4_layIt 60 = .ok (.getfield 7, 3) := by decide +kernel
theorem dX4_layIt_63 : decode cX4_layIt 63 = .ok (.iload 6, 2) := by decide +kernel
theorem dX4_layIt_65 : decode cX4_layIt 65 = .ok (.iconst 1, 1) := by decide +kernel
theorem dX4_layIt_66 : decode cX4_layIt 66 = .ok (.iadd, 1) := by decide +kernel
theorem dX4_layIt_67 : decode cX4_layIt 67 = .ok (.iload 4, 2) := by decide +kernel
theorem dX4_layIt_69 : decode cX4_layIt 69 = .ok (.iastore, 1) := by decide +kernel
theorem dX4_layIt_70 : decode cX4_layIt 70 = .ok (.aload_n 0, 1) := by decide +kernel
theorem dX4_layIt_71 : decode cX4_layIt 71 = .ok (.getfield 7, 3) := by decide +kernel
theorem dX4_layIt_74 : decode cX4_layIt 74 = .ok (.iload 6, 2) := by decide +kernel
theorem dX4_layIt_76 : decode cX4_layIt 76 = .ok (.iconst 2, 1) := by decide +kernel
theorem dX4_layIt_77 : decode cX4_layIt 77 = .ok (.iadd, 1) := by decide +kernel
theorem dX4_layIt_78 : decode cX4_layIt 78 = .ok (.iload_n 3, 1) := by decide +kernel
theorem dX4_layIt_79 : decode cX4_layIt 79 = .ok (.iastore, 1) := by decide +kernel
theorem dX4_layIt_80 : decode cX4_layIt 80 = .ok (.aload_n 0, 1) := by decide +kernel
theorem dX4_layIt_81 : decode cX4_layIt 81 = .ok (.getfield 7, 3) := by decide +kernel
theorem dX4_layIt_84 : decode cX4_layIt 84 = .ok (.sipush 164, 3) := by decide +kernel
theorem dX4_layIt_87 : decode cX4_layIt 87 = .ok (.iload 4, 2) := by decide +kernel
theorem dX4_layIt_89 : decode cX4_layIt 89 = .ok (.iadd, 1) := by decide +kernel
theorem dX4_layIt_90 : decode cX4_layIt 90 = .ok (.iaload, 1) := by decide +kernel
theorem dX4_layIt_91 : decode cX4_layIt 91 = .ok (.iconst (-1), 1) := by decide +kernel
theorem dX4_layIt_92 : decode cX4_layIt 92 = .ok (.if_icmp .ne 18, 3) := by decide +kernel
theorem dX4_layIt_95 : decode cX4_layIt 95 = .ok (.aload_n 0, 1) := by decide +kernel
theorem dX4_layIt_96 : decode cX4_layIt 96 = .ok (.getfield 7, 3) := by decide +kernel
theorem dX4_layIt_99 : decode cX4_layIt 99 = .ok (.sipush 164, 3) := by decide +kernel
theorem dX4_layIt_102 : decode cX4_layIt 102 = .ok (.iload 4, 2) := by decide +kernel
theorem dX4_layIt_104 : decode cX4_layIt 104 = .ok (.iadd, 1) := by decide +kernel
theorem dX4_layIt_105 : decode cX4_layIt 105 = .ok (.iload_n 1, 1) := by decide +kernel
theorem dX4_layIt_106 : decode cX4_layIt 106 = .ok (.iastore, 1) := by decide +kernel
theorem dX4_layIt_107 : decode cX4_layIt 107 = .ok (.goto 61, 3) := by decide +kernel
theorem dX4_layIt_110 : decode cX4_layIt 110 = .ok (.aload_n 0, 1) := by decide +kernel
theorem dX4_layIt_111 : decode cX4_layIt 111 = .ok (.getfield 7, 3) := by decide +kernel
theorem dX4_layIt_114 : decode cX4_layIt 114 = .ok (.sipush 268, 3) := by decide +kernel
theorem dX4_layIt_117 : decode cX4_layIt 117 = .ok (.iconst 5, 1) := by decide +kernel
theorem dX4_layIt_118 : decode cX4_layIt 118 = .ok (.aload_n 0, 1) := by decide +kernel
theorem dX4_layIt_119 : decode cX4_layIt 119 = .ok (.getfield 7, 3) := by decide +kernel
theorem dX4_layIt_122 : decode cX4_layIt 122 = .ok (.sipush 164, 3) := by decide +kernel
theorem dX4_layIt_125 : decode cX4_layIt 125 = .ok (.iload 4, 2) := by decide +kernel
theorem dX4_layIt_127 : decode cX4_layIt 127 = .ok (.iadd, 1) := by decide +kernel
theorem dX4_layIt_128 : decode cX4_layIt 128 = .ok (.iaload, 1) := by decide +kernel
theorem dX4_layIt_129 : decode cX4_layIt 129 = .ok (.imul, 1) := by decide +kernel
theorem dX4_layIt_130 : decode cX4_layIt 130 = .ok (.iadd, 1) := by decide +kernel
theorem dX4_layIt_131 : decode cX4_layIt 131 = .ok (.iconst 0, 1) := by decide +kernel
theorem dX4_layIt_132 : decode cX4_layIt 132 = .ok (.iadd, 1) := by decide +kernel
theorem dX4_layIt_133 : decode cX4_layIt 133 = .ok (.dup2, 1) := by decide +kernel
theorem dX4_layIt_134 : decode cX4_layIt 134 = .ok (.iaload, 1) := by decide +kernel
theorem dX4_layIt_135 : decode cX4_layIt 135 = .ok (.iload 5, 2) := by decide +kernel
theorem dX4_layIt_137 : decode cX4_layIt 137 = .ok (.iadd, 1) := by decide +kernel
theorem dX4_layIt_138 : decode cX4_layIt 138 = .ok (.iastore, 1) := by decide +kernel
theorem dX4_layIt_139 : decode cX4_layIt 139 = .ok (.aload_n 0, 1) := by decide +kernel
theorem dX4_layIt_140 : decode cX4_layIt 140 = .ok (.getfield 7, 3) := by decide +kernel
theorem dX4_layIt_143 : decode cX4_layIt 143 = .ok (.sipush 268, 3) := by decide +kernel
theorem dX4_layIt_146 : decode cX4_layIt 146 = .ok (.iconst 5, 1) := by decide +kernel
theorem dX4_layIt_147 : decode cX4_layIt 147 = .ok (.aload_n 0, 1) := by decide +kernel
theorem dX4_layIt_148 : decode cX4_layIt 148 = .ok (.getfield 7, 3) := by decide +kernel
theorem dX4_layIt_151 : decode cX4_layIt 151 = .ok (.sipush 164, 3) := by decide +kernel
theorem dX4_layIt_154 : decode cX4_layIt 154 = .ok (.iload 4, 2) := by decide +kernel
theorem dX4_layIt_156 : decode cX4_layIt 156 = .ok (.iadd, 1) := by decide +kernel
theorem dX4_layIt_157 : decode cX4_layIt 157 = .ok (.iaload, 1) := by decide +kernel
theorem dX4_layIt_158 : decode cX4_layIt 158 = .ok (.imul, 1) := by decide +kernel
theorem dX4_layIt_159 : decode cX4_layIt 159 = .ok (.iadd, 1) := by decide +kernel
theorem dX4_layIt_160 : decode cX4_layIt 160 = .ok (.iconst 4, 1) := by decide +kernel
theorem dX4_layIt_161 : decode cX4_layIt 161 = .ok (.iadd, 1) := by decide +kernel
theorem dX4_layIt_162 : decode cX4_layIt 162 = .ok (.dup2, 1) := by decide +kernel
theorem dX4_layIt_163 : decode cX4_layIt 163 = .ok (.iaload, 1) := by decide +kernel
theorem dX4_layIt_164 : decode cX4_layIt 164 = .ok (.iload 5, 2) := by decide +kernel
theorem dX4_layIt_166 : decode cX4_layIt 166 = .ok (.iadd, 1) := by decide +kernel
theorem dX4_layIt_167 : decode cX4_layIt 167 = .ok (.iastore, 1) := by decide +kernel
theorem dX4_layIt_168 : decode cX4_layIt 168 = .ok (.aload_n 0, 1) := by decide +kernel
theorem dX4_layIt_169 : decode cX4_layIt 169 = .ok (.getfield 7, 3) := by decide +kernel
theorem dX4_layIt_172 : decode cX4_layIt 172 = .ok (.bipush 84, 2) := by decide +kernel
theorem dX4_layIt_174 : decode cX4_layIt 174 = .ok (.iload 4, 2) := by decide +kernel
theorem dX4_layIt_176 : decode cX4_layIt 176 = .ok (.iadd, 1) := by decide +kernel
theorem dX4_layIt_177 : decode cX4_layIt 177 = .ok (.dup2, 1) := by decide +kernel
theorem dX4_layIt_178 : decode cX4_layIt 178 = .ok (.iaload, 1) := by decide +kernel
theorem dX4_layIt_179 : decode cX4_layIt 179 = .ok (.iconst 1, 1) := by decide +kernel
theorem dX4_layIt_180 : decode cX4_layIt 180 = .ok (.iload_n 1, 1) := by decide +kernel
theorem dX4_layIt_181 : decode cX4_layIt 181 = .ok (.ishl, 1) := by decide +kernel
theorem dX4_layIt_182 : decode cX4_layIt 182 = .ok (.ior, 1) := by decide +kernel
theorem dX4_layIt_183 : decode cX4_layIt 183 = .ok (.iastore, 1) := by decide +kernel
theorem dX4_layIt_184 : decode cX4_layIt 184 = .ok (.aload_n 0, 1) := by decide +kernel
theorem dX4_layIt_185 : decode cX4_layIt 185 = .ok (.getfield 7, 3) := by decide +kernel
theorem dX4_layIt_188 : decode cX4_layIt 188 = .ok (.iconst 3, 1) := by decide +kernel
theorem dX4_layIt_189 : decode cX4_layIt 189 = .ok (.dup2, 1) := by decide +kernel
theorem dX4_layIt_190 : decode cX4_layIt 190 = .ok (.iaload, 1) := by decide +kernel
theorem dX4_layIt_191 : decode cX4_layIt 191 = .ok (.iconst 1, 1) := by decide +kernel
theorem dX4_layIt_192 : decode cX4_layIt 192 = .ok (.iadd, 1) := by decide +kernel
theorem dX4_layIt_193 : decode cX4_layIt 193 = .ok (.iastore, 1) := by decide +kernel
theorem dX4_layIt_194 : decode cX4_layIt 194 = .ok (.iload 5, 2) := by decide +kernel
theorem dX4_layIt_196 : decode cX4_layIt 196 = .ok (.ireturn, 1) := by decide +kernel
set_option maxRecDepth 20000 in
theorem ggX4_lay_X4_isPlayer : GoodIn wsX4_lay wsX4_isPlayer := goodIn_r _ [5, 6, 7, 4, 8] (by decide +kernel) (by decide +kernel)
set_option maxRecDepth 20000 in
theorem gX4_lay_X4_isPlayer : GoodIn wsX4_lay (va_wsS RX4 57 yX4_isPlayer wsX4_isPlayer) := goodIn_app (goodIn_of _ (by decide +kernel)) ggX4_lay_X4_isPlayer
set_option maxRecDepth 20000 in
theorem ggX4_lay_X4_in : GoodIn wsX4_lay wsX4_in := goodIn_r _ [8] (by decide +kernel) (by decide +kernel)
set_option maxRecDepth 20000 in
theorem gX4_lay_X4_in : GoodIn wsX4_lay (va_wsS RX4 33 yX4_in wsX4_in) := goodIn_app (goodIn_of _ (by decide +kernel)) ggX4_lay_X4_in
set_option maxRecDepth 20000 in
theorem ggX4_lay_X4_of : GoodIn wsX4_lay wsX4_of := goodIn_r _ [12, 13, 50, 51, 52, 53, 54, 55, 56, 57, 58, 59, 60, 61, 62] (by decide +kernel) (by decide +kernel)
set_option maxRecDepth 20000 in
theorem gX4_lay_X4_of : GoodIn wsX4_lay (wsV RX4 76 RX4 yX4_of wsX4_of) := goodIn_app (goodIn_of _ (by decide +kernel)) ggX4_lay_X4_of
set_option maxRecDepth 20000 in
theorem ggX4_lay_X4_whyNot : GoodIn wsX4_lay wsX4_whyNot := goodIn_r _ [17, 13, 18, 19, 4, 20, 6, 7, 8, 9, 10, 11, 12, 21, 22, 23, 24, 25, 26, 27, 28, 29, 30, 31, 32, 33, 34, 35, 36, 37, 38, 39, 50, 51, 52, 53, 54, 55, 56, 57, 58, 59, 60, 61, 62] (by decide +kernel) (by decide +kernel)
set_option maxRecDepth 20000 in
theorem gX4_lay_X4_whyNot : GoodIn wsX4_lay (wsV RX4 89 RX4 yX4_whyNot wsX4_whyNot) := goodIn_app (goodIn_of _ (by decide +kernel)) ggX4_lay_X4_whyNot
set_option maxRecDepth 20000 in
theorem ggX4_lay_X4_save : GoodIn wsX4_lay wsX4_save := goodIn_r _ [43, 44, 45, 13, 50, 51, 52, 53, 54, 55, 56, 57, 58, 59, 60, 61, 62] (by decide +kernel) (by decide +kernel)
set_option maxRecDepth 20000 in
theorem gX4_lay_X4_save : GoodIn wsX4_lay (wsV RX4 54 RX4 yX4_save wsX4_save) := goodIn_app (goodIn_of _ (by decide +kernel)) ggX4_lay_X4_save
set_option maxRecDepth 20000 in
theorem ggX4_lay_X4_layIt : GoodIn wsX4_lay wsX4_layIt := goodIn_r _ [49, 13, 18, 19, 4, 20, 6, 7, 8, 36, 37, 38, 39, 32, 33, 34, 35, 50, 51, 52, 53, 54, 55, 56, 57, 58, 59, 60, 61, 62] (by decide +kernel) (by decide +kernel)
set_option maxRecDepth 20000 in
theorem gX4_lay_X4_layIt : GoodIn wsX4_lay (wsV RX4 93 RX4 yX4_layIt wsX4_layIt) := goodIn_app (goodIn_of _ (by decide +kernel)) ggX4_lay_X4_layIt
theorem dX4_lay_0 : decode cX4_lay 0 = .ok (.iload_n 1, 1) := by decide +kernel
theorem dX4_lay_1 : decode cX4_lay 1 = .ok (.invokestatic 57, 3) := by decide +kernel
theorem dX4_lay_4 : decode cX4_lay 4 = .ok (.ifCond .ne 10, 3) := by decide +kernel
theorem dX4_lay_7 : decode cX4_lay 7 = .ok (.aload_n 0, 1) := by decide +kernel
theorem dX4_lay_8 : decode cX4_lay 8 = .ok (.iconst 1, 1) := by decide +kernel
theorem dX4_lay_9 : decode cX4_lay 9 = .ok (.putfield 29, 3) := by decide +kernel
theorem dX4_lay_12 : decode cX4_lay 12 = .ok (.iconst 0, 1) := by decide +kernel
theorem dX4_lay_13 : decode cX4_lay 13 = .ok (.ireturn, 1) := by decide +kernel
theorem dX4_lay_14 : decode cX4_lay 14 = .ok (.iload_n 2, 1) := by decide +kernel
theorem dX4_lay_15 : decode cX4_lay 15 = .ok (.iconst 1, 1) := by decide +kernel
theorem dX4_lay_16 : decode cX4_lay 16 = .ok (.bipush 6, 2) := by decide +kernel
theorem dX4_lay_18 : decode cX4_lay 18 = .ok (.invokestatic 33, 3) := by decide +kernel
theorem dX4_lay_21 : decode cX4_lay 21 = .ok (.ifCond .eq 16, 3) := by decide +kernel
theorem dX4_lay_24 : decode cX4_lay 24 = .ok (.iload_n 3, 1) := by decide +kernel
theorem dX4_lay_25 : decode cX4_lay 25 = .ok (.iconst 0, 1) := by decide +kernel
theorem dX4_lay_26 : decode cX4_lay 26 = .ok (.iconst 3, 1) := by decide +kernel
theorem dX4_lay_27 : decode cX4_lay 27 = .ok (.invokestatic 33, 3) := by decide +kernel
theorem dX4_lay_30 : decode cX4_lay 30 = .ok (.ifCond .eq 7, 3) := by decide +kernel
theorem dX4_lay_33 : decode cX4_lay 33 = .ok (.iconst 1, 1) := by decide +kernel
theorem dX4_lay_34 : decode cX4_lay 34 = .ok (.goto 4, 3) := by decide +kernel
theorem dX4_lay_37 : decode cX4_lay 37 = .ok (.iconst 0, 1) := by decide +kernel
theorem dX4_lay_38 : decode cX4_lay 38 = .ok (.istore 4, 2) := by decide +kernel
theorem dX4_lay_40 : decode cX4_lay 40 = .ok (.aload_n 0, 1) := by decide +kernel
theorem dX4_lay_41 : decode cX4_lay 41 = .ok (.iload 4, 2) := by decide +kernel
theorem dX4_lay_43 : decode cX4_lay 43 = .ok (.ifCond .ne 7, 3) := by decide +kernel
theorem dX4_lay_46 : decode cX4_lay 46 = .ok (.iconst 2, 1) := by decide +kernel
theorem dX4_lay_47 : decode cX4_lay 47 = .ok (.goto 24, 3) := by decide +kernel
theorem dX4_lay_50 : decode cX4_lay 50 = .ok (.aload_n 0, 1) := by decide +kernel
theorem dX4_lay_51 : decode cX4_lay 51 = .ok (.iload_n 1, 1) := by decide +kernel
theorem dX4_lay_52 : decode cX4_lay 52 = .ok (.aload_n 0, 1) := by decide +kernel
theorem dX4_lay_53 : decode cX4_lay 53 = .ok (.iload_n 1, 1) := by decide +kernel
theorem dX4_lay_54 : decode cX4_lay 54 = .ok (.iconst 1, 1) := by decide +kernel
theorem dX4_lay_55 : decode cX4_lay 55 = .ok (.invokevirtual 76, 3) := by decide +kernel
theorem dX4_lay_58 : decode cX4_lay 58 = .ok (.iload_n 2, 1) := by decide +kernel
theorem dX4_lay_59 : decode cX4_lay 59 = .ok (.iload_n 3, 1) := by decide +kernel
theorem dX4_lay_60 : decode cX4_lay 60 = .ok (.invokevirtual 89, 3) := by decide +kernel
theorem dX4_lay_63 : decode cX4_lay 63 = .ok (.ifCond .le 7, 3) := by decide +kernel
theorem dX4_lay_66 : decode cX4_lay 66 = .ok (.iconst 3, 1) := by decide +kernel
theorem dX4_lay_67 : decode cX4_lay 67 = .ok (.goto 4, 3) := by decide +kernel
theorem dX4_lay_70 : decode cX4_lay 70 = .ok (.iconst 0, 1) := by decide +kernel
theorem dX4_lay_71 : decode cX4_lay 71 = .ok (.putfield 29, 3) := by decide +kernel
theorem dX4_lay_74 : decode cX4_lay 74 = .ok (.aload_n 0, 1) := by decide +kernel
theorem dX4_lay_75 : decode cX4_lay 75 = .ok (.getfield 29, 3) := by decide +kernel
theorem dX4_lay_78 : decode cX4_lay 78 = .ok (.ifCond .le 5, 3) := by decide +kernel
theorem dX4_lay_81 : decode cX4_lay 81 = .ok (.iconst 0, 1) := by decide +kernel
theorem dX4_lay_82 : decode cX4_lay 82 = .ok (.ireturn, 1) := by decide +kernel
theorem dX4_lay_83 : decode cX4_lay 83 = .ok (.aload_n 0, 1) := by decide +kernel
theorem dX4_lay_84 : decode cX4_lay 84 = .ok (.invokevirtual 54, 3) := by decide +kernel
theorem dX4_lay_87 : decode cX4_lay 87 = .ok (.aload_n 0, 1) := by decide +kernel
theorem dX4_lay_88 : decode cX4_lay 88 = .ok (.iload_n 1, 1) := by decide +kernel
theorem dX4_lay_89 : decode cX4_lay 89 = .ok (.aload_n 0, 1) := by decide +kernel
theorem dX4_lay_90 : decode cX4_lay 90 = .ok (.iload_n 1, 1) := by decide +kernel
theorem dX4_lay_91 : decode cX4_lay 91 = .ok (.iconst 1, 1) := by decide +kernel
theorem dX4_lay_92 : decode cX4_lay 92 = .ok (.invokevirtual 76, 3) := by decide +kernel
theorem dX4_lay_95 : decode cX4_lay 95 = .ok (.iload_n 3, 1) := by decide +kernel
theorem dX4_lay_96 : decode cX4_lay 96 = .ok (.invokevirtual 93, 3) := by decide +kernel
theorem dX4_lay_99 : decode cX4_lay 99 = .ok (.ireturn, 1) := by decide +kernel
set_option maxRecDepth 20000 in
theorem ggX4_branch_X4_isPlayer : GoodIn wsX4_branch wsX4_isPlayer := goodIn_r _ [5, 6, 7, 4, 8] (by decide +kernel) (by decide +kernel)
set_option maxRecDepth 20000 in
theorem gX4_branch_X4_isPlayer : GoodIn wsX4_branch (va_wsS RX4 57 yX4_isPlayer wsX4_isPlayer) := goodIn_app (goodIn_of _ (by decide +kernel)) ggX4_branch_X4_isPlayer
set_option maxRecDepth 20000 in
theorem ggX4_branch_X4_isSquare : GoodIn wsX4_branch wsX4_isSquare := goodIn_r _ [11, 6, 7, 4, 8] (by decide +kernel) (by decide +kernel)
set_option maxRecDepth 20000 in
theorem gX4_branch_X4_isSquare : GoodIn wsX4_branch (va_wsS RX4 46 yX4_isSquare wsX4_isSquare) := goodIn_app (goodIn_of _ (by decide +kernel)) ggX4_branch_X4_isSquare
set_option maxRecDepth 20000 in
theorem ggX4_branch_X4_hasTrack : GoodIn wsX4_branch wsX4_hasTrack := goodIn_r _ [15, 16, 53, 54, 55, 56, 57, 58, 59, 60, 61, 62, 63, 64, 65] (by decide +kernel) (by decide +kernel)
set_option maxRecDepth 20000 in
theorem gX4_branch_X4_hasTrack : GoodIn wsX4_branch (wsV RX4 82 RX4 yX4_hasTrack wsX4_hasTrack) := goodIn_app (goodIn_of _ (by decide +kernel)) ggX4_branch_X4_hasTrack
set_option maxRecDepth 20000 in
theorem ggX4_branch_X4_in : GoodIn wsX4_branch wsX4_in := goodIn_r _ [8] (by decide +kernel) (by decide +kernel)
set_option maxRecDepth 20000 in
theorem gX4_branch_X4_in : GoodIn wsX4_branch (va_wsS RX4 33 yX4_in wsX4_in) := goodIn_app (goodIn_of _ (by decide +kernel)) ggX4_branch_X4_in
set_option maxRecDepth 20000 in
theorem ggX4_branch_X4_whyNot : GoodIn wsX4_branch wsX4_whyNot := goodIn_r _ [20, 16, 21, 22, 4, 23, 6, 7, 8, 24, 25, 26, 27, 28, 29, 30, 31, 32, 33, 34, 12, 13, 14, 15, 35, 36, 37, 38, 39, 40, 41, 42, 53, 54, 55, 56, 57, 58, 59, 60, 61, 62, 63, 64, 65] (by decide +kernel) (by decide +kernel)
set_option maxRecDepth 20000 in
theorem gX4_branch_X4_whyNot : GoodIn wsX4_branch (wsV RX4 89 RX4 yX4_whyNot wsX4_whyNot) := goodIn_app (goodIn_of _ (by decide +kernel)) ggX4_branch_X4_whyNot
set_option maxRecDepth 20000 in
theorem ggX4_branch_X4_save : GoodIn wsX4_branch wsX4_save := goodIn_r _ [46, 47, 48, 16, 53, 54, 55, 56, 57, 58, 59, 60, 61, 62, 63, 64, 65] (by decide +kernel) (by decide +kernel)
set_option maxRecDepth 20000 in
theorem gX4_branch_X4_save : GoodIn wsX4_branch (wsV RX4 54 RX4 yX4_save wsX4_save) := goodIn_app (goodIn_of _ (by decide +kernel)) ggX4_branch_X4_save
set_option maxRecDepth 20000 in
theorem ggX4_branch_X4_layIt : GoodIn wsX4_branch wsX4_layIt := goodIn_r _ [52, 16, 21, 22, 4, 23, 6, 7, 8, 39, 40, 41, 42, 35, 36, 37, 38, 53, 54, 55, 56, 57, 58, 59, 60, 61, 62, 63, 64, 65] (by decide +kernel) (by decide +kernel)
set_option maxRecDepth 20000 in
theorem gX4_branch_X4_layIt : GoodIn wsX4_branch (wsV RX4 93 RX4 yX4_layIt wsX4_layIt) := goodIn_app (goodIn_of _ (by decide +kernel)) ggX4_branch_X4_layIt
theorem dX4_branch_0 : decode cX4_branch 0 = .ok (.iload_n 1, 1) := by decide +kernel
theorem dX4_branch_1 : decode cX4_branch 1 = .ok (.invokestatic 57, 3) := by decide +kernel
theorem dX4_branch_4 : decode cX4_branch 4 = .ok (.ifCond .eq 19, 3) := by decide +kernel
theorem dX4_branch_7 : decode cX4_branch 7 = .ok (.iload_n 2, 1) := by decide +kernel
theorem dX4_branch_8 : decode cX4_branch 8 = .ok (.invokestatic 46, 3) := by decide +kernel
theorem dX4_branch_11 : decode cX4_branch 11 = .ok (.ifCond .eq 12, 3) := by decide +kernel
theorem dX4_branch_14 : decode cX4_branch 14 = .ok (.aload_n 0, 1) := by decide +kernel
theorem dX4_branch_15 : decode cX4_branch 15 = .ok (.iload_n 1, 1) := by decide +kernel
theorem dX4_branch_16 : decode cX4_branch 16 = .ok (.iload_n 2, 1) := by decide +kernel
theorem dX4_branch_17 : decode cX4_branch 17 = .ok (.invokevirtual 82, 3) := by decide +kernel
theorem dX4_branch_20 : decode cX4_branch 20 = .ok (.ifCond .ne 10, 3) := by decide +kernel
theorem dX4_branch_23 : decode cX4_branch 23 = .ok (.aload_n 0, 1) := by decide +kernel
theorem dX4_branch_24 : decode cX4_branch 24 = .ok (.iconst 1, 1) := by decide +kernel
theorem dX4_branch_25 : decode cX4_branch 25 = .ok (.putfield 29, 3) := by decide +kernel
theorem dX4_branch_28 : decode cX4_branch 28 = .ok (.iconst 0, 1) := by decide +kernel
theorem dX4_branch_29 : decode cX4_branch 29 = .ok (.ireturn, 1) := by decide +kernel
theorem dX4_branch_30 : decode cX4_branch 30 = .ok (.aload_n 0, 1) := by decide +kernel
theorem dX4_branch_31 : decode cX4_branch 31 = .ok (.iload_n 3, 1) := by decide +kernel
theorem dX4_branch_32 : decode cX4_branch 32 = .ok (.iconst 0, 1) := by decide +kernel
theorem dX4_branch_33 : decode cX4_branch 33 = .ok (.iconst 3, 1) := by decide +kernel
theorem dX4_branch_34 : decode cX4_branch 34 = .ok (.invokestatic 33, 3) := by decide +kernel
theorem dX4_branch_37 : decode cX4_branch 37 = .ok (.ifCond .ne 7, 3) := by decide +kernel
theorem dX4_branch_40 : decode cX4_branch 40 = .ok (.iconst 2, 1) := by decide +kernel
theorem dX4_branch_41 : decode cX4_branch 41 = .ok (.goto 20, 3) := by decide +kernel
theorem dX4_branch_44 : decode cX4_branch 44 = .ok (.aload_n 0, 1) := by decide +kernel
theorem dX4_branch_45 : decode cX4_branch 45 = .ok (.iload_n 1, 1) := by decide +kernel
theorem dX4_branch_46 : decode cX4_branch 46 = .ok (.iload_n 2, 1) := by decide +kernel
theorem dX4_branch_47 : decode cX4_branch 47 = .ok (.bipush 6, 2) := by decide +kernel
theorem dX4_branch_49 : decode cX4_branch 49 = .ok (.iload_n 3, 1) := by decide +kernel
theorem dX4_branch_50 : decode cX4_branch 50 = .ok (.invokevirtual 89, 3) := by decide +kernel
theorem dX4_branch_53 : decode cX4_branch 53 = .ok (.ifCond .le 7, 3) := by decide +kernel
theorem dX4_branch_56 : decode cX4_branch 56 = .ok (.iconst 3, 1) := by decide +kernel
theorem dX4_branch_57 : decode cX4_branch 57 = .ok (.goto 4, 3) := by decide +kernel
theorem dX4_branch_60 : decode cX4_branch 60 = .ok (.iconst 0, 1) := by decide +kernel
theorem dX4_branch_61 : decode cX4_branch 61 = .ok (.putfield 29, 3) := by decide +kernel
theorem dX4_branch_64 : decode cX4_branch 64 = .ok (.aload_n 0, 1) := by decide +kernel
theorem dX4_branch_65 : decode cX4_branch 65 = .ok (.getfield 29, 3) := by decide +kernel
theorem dX4_branch_68 : decode cX4_branch 68 = .ok (.ifCond .le 5, 3) := by decide +kernel
theorem dX4_branch_71 : decode cX4_branch 71 = .ok (.iconst 0, 1) := by decide +kernel
theorem dX4_branch_72 : decode cX4_branch 72 = .ok (.ireturn, 1) := by decide +kernel
theorem dX4_branch_73 : decode cX4_branch 73 = .ok (.aload_n 0, 1) := by decide +kernel
theorem dX4_branch_74 : decode cX4_branch 74 = .ok (.invokevirtual 54, 3) := by decide +kernel
theorem dX4_branch_77 : decode cX4_branch 77 = .ok (.aload_n 0, 1) := by decide +kernel
theorem dX4_branch_78 : decode cX4_branch 78 = .ok (.iload_n 1, 1) := by decide +kernel
theorem dX4_branch_79 : decode cX4_branch 79 = .ok (.iload_n 2, 1) := by decide +kernel
theorem dX4_branch_80 : decode cX4_branch 80 = .ok (.iload_n 3, 1) := by decide +kernel
theorem dX4_branch_81 : decode cX4_branch 81 = .ok (.invokevirtual 93, 3) := by decide +kernel
theorem dX4_branch_84 : decode cX4_branch 84 = .ok (.ireturn, 1) := by decide +kernel
set_option maxRecDepth 20000 in
theorem ggX4_lowestOn_X4_hasTrack : GoodIn wsX4_lowestOn wsX4_hasTrack := goodIn_r _ [5, 6, 7, 8, 9, 10, 11, 12, 13, 14, 15, 16, 17, 18, 19] (by decide +kernel) (by decide +kernel)
set_option maxRecDepth 20000 in
theorem gX4_lowestOn_X4_hasTrack : GoodIn wsX4_lowestOn (wsV RX4 82 RX4 yX4_hasTrack wsX4_hasTrack) := goodIn_app (goodIn_of _ (by decide +kernel)) ggX4_lowestOn_X4_hasTrack
theorem dX4_lowestOn_0 : decode cX4_lowestOn 0 = .ok (.iconst (-1), 1) := by decide +kernel
theorem dX4_lowestOn_1 : decode cX4_lowestOn 1 = .ok (.istore_n 2, 1) := by decide +kernel
theorem dX4_lowestOn_2 : decode cX4_lowestOn 2 = .ok (.iconst 3, 1) := by decide +kernel
theorem dX4_lowestOn_3 : decode cX4_lowestOn 3 = .ok (.istore_n 3, 1) := by decide +kernel
theorem dX4_lowestOn_4 : decode cX4_lowestOn 4 = .ok (.iload_n 3, 1) := by decide +kernel
theorem dX4_lowestOn_5 : decode cX4_lowestOn 5 = .ok (.ifCond .lt 24, 3) := by decide +kernel
theorem dX4_lowestOn_8 : decode cX4_lowestOn 8 = .ok (.aload_n 0, 1) := by decide +kernel
theorem dX4_lowestOn_9 : decode cX4_lowestOn 9 = .ok (.iload_n 3, 1) := by decide +kernel
theorem dX4_lowestOn_10 : decode cX4_lowestOn 10 = .ok (.iload_n 1, 1) := by decide +kernel
theorem dX4_lowestOn_11 : decode cX4_lowestOn 11 = .ok (.invokevirtual 82, 3) := by decide +kernel
theorem dX4_lowestOn_14 : decode cX4_lowestOn 14 = .ok (.ifCond .eq 7, 3) := by decide +kernel
theorem dX4_lowestOn_17 : decode cX4_lowestOn 17 = .ok (.iload_n 3, 1) := by decide +kernel
theorem dX4_lowestOn_18 : decode cX4_lowestOn 18 = .ok (.goto 4, 3) := by decide +kernel
theorem dX4_lowestOn_21 : decode cX4_lowestOn 21 = .ok (.iload_n 2, 1) := by decide +kernel
theorem dX4_lowestOn_22 : decode cX4_lowestOn 22 = .ok (.istore_n 2, 1) := by decide +kernel
theorem dX4_lowestOn_23 : decode cX4_lowestOn 23 = .ok (.iinc 3 (-1), 3) := by decide +kernel
theorem dX4_lowestOn_26 : decode cX4_lowestOn 26 = .ok (.goto (-22), 3) := by decide +kernel
theorem dX4_lowestOn_29 : decode cX4_lowestOn 29 = .ok (.iload_n 2, 1) := by decide +kernel
theorem dX4_lowestOn_30 : decode cX4_lowestOn 30 = .ok (.ireturn, 1) := by decide +kernel
set_option maxRecDepth 20000 in
theorem ggX4_takeUp_X4_isPlayer : GoodIn wsX4_takeUp wsX4_isPlayer := goodIn_r _ [6, 7, 8, 5, 9] (by decide +kernel) (by decide +kernel)
set_option maxRecDepth 20000 in
theorem gX4_takeUp_X4_isPlayer : GoodIn wsX4_takeUp (va_wsS RX4 57 yX4_isPlayer wsX4_isPlayer) := goodIn_app (goodIn_of _ (by decide +kernel)) ggX4_takeUp_X4_isPlayer
set_option maxRecDepth 20000 in
theorem ggX4_takeUp_X4_save : GoodIn wsX4_takeUp wsX4_save := goodIn_r _ [13, 14, 15, 2, 27, 28, 29, 30, 31, 32, 33, 34, 35, 36, 37, 38, 39] (by decide +kernel) (by decide +kernel)
set_option maxRecDepth 20000 in
theorem gX4_takeUp_X4_save : GoodIn wsX4_takeUp (wsV RX4 54 RX4 yX4_save wsX4_save) := goodIn_app (goodIn_of _ (by decide +kernel)) ggX4_takeUp_X4_save
set_option maxRecDepth 20000 in
theorem ggX4_takeUp_X4_hasTrack : GoodIn wsX4_takeUp wsX4_hasTrack := goodIn_r _ [19, 2, 27, 28, 29, 30, 31, 32, 33, 34, 35, 36, 37, 38, 39] (by decide +kernel) (by decide +kernel)
set_option maxRecDepth 20000 in
theorem gX4_takeUp_X4_hasTrack : GoodIn wsX4_takeUp (wsV RX4 82 RX4 yX4_hasTrack wsX4_hasTrack) := goodIn_app (goodIn_of _ (by decide +kernel)) ggX4_takeUp_X4_hasTrack
set_option maxRecDepth 20000 in
theorem ggX4_takeUp_X4_depot : GoodIn wsX4_takeUp wsX4_depot := goodIn_r _ [22] (by decide +kernel) (by decide +kernel)
set_option maxRecDepth 20000 in
theorem gX4_takeUp_X4_depot : GoodIn wsX4_takeUp (va_wsS RX4 25 yX4_depot wsX4_depot) := goodIn_app (goodIn_of _ (by decide +kernel)) ggX4_takeUp_X4_depot
set_option maxRecDepth 20000 in
theorem ggX4_takeUp_X4_lowestOn : GoodIn wsX4_takeUp wsX4_lowestOn := goodIn_r _ [26, 16, 17, 18, 5, 19, 2, 27, 28, 29, 30, 31, 32, 33, 34, 35, 36, 37, 38, 39] (by decide +kernel) (by decide +kernel)
set_option maxRecDepth 20000 in
theorem gX4_takeUp_X4_lowestOn : GoodIn wsX4_takeUp (wsV RX4 97 RX4 yX4_lowestOn wsX4_lowestOn) := goodIn_app (goodIn_of _ (by decide +kernel)) ggX4_takeUp_X4_lowestOn
theorem dX4_takeUp_0 : decode cX4_takeUp 0 = .ok (.aload_n 0, 1) := by decide +kernel
theorem dX4_takeUp_1 : decode cX4_takeUp 1 = .ok (.iload_n 1, 1) := by decide +kernel
theorem dX4_takeUp_2 : decode cX4_takeUp 2 = .ok (.invokestatic 57, 3) := by decide +kernel
theorem dX4_takeUp_5 : decode cX4_takeUp 5 = .ok (.ifCond .eq 7, 3) := by decide +kernel
theorem dX4_takeUp_8 : decode cX4_takeUp 8 = .ok (.iconst 0, 1) := by decide +kernel
theorem dX4_takeUp_9 : decode cX4_takeUp 9 = .ok (.goto 4, 3) := by decide +kernel
theorem dX4_takeUp_12 : decode cX4_takeUp 12 = .ok (.iconst 1, 1) := by decide +kernel
theorem dX4_takeUp_13 : decode cX4_takeUp 13 = .ok (.putfield 29, 3) := by decide +kernel
theorem dX4_takeUp_16 : decode cX4_takeUp 16 = .ok (.aload_n 0, 1) := by decide +kernel
theorem dX4_takeUp_17 : decode cX4_takeUp 17 = .ok (.getfield 29, 3) := by decide +kernel
theorem dX4_takeUp_20 : decode cX4_takeUp 20 = .ok (.ifCond .le 5, 3) := by decide +kernel
theorem dX4_takeUp_23 : decode cX4_takeUp 23 = .ok (.iconst 0, 1) := by decide +kernel
theorem dX4_takeUp_24 : decode cX4_takeUp 24 = .ok (.ireturn, 1) := by decide +kernel
theorem dX4_takeUp_25 : decode cX4_takeUp 25 = .ok (.aload_n 0, 1) := by decide +kernel
theorem dX4_takeUp_26 : decode cX4_takeUp 26 = .ok (.invokevirtual 54, 3) := by decide +kernel
theorem dX4_takeUp_29 : decode cX4_takeUp 29 = .ok (.iconst 0, 1) := by decide +kernel
theorem dX4_takeUp_30 : decode cX4_takeUp 30 = .ok (.istore_n 2, 1) := by decide +kernel
theorem dX4_takeUp_31 : decode cX4_takeUp 31 = .ok (.iconst 0, 1) := by decide +kernel
theorem dX4_takeUp_32 : decode cX4_takeUp 32 = .ok (.istore_n 3, 1) := by decide +kernel
theorem dX4_takeUp_33 : decode cX4_takeUp 33 = .ok (.iload_n 3, 1) := by decide +kernel
theorem dX4_takeUp_34 : decode cX4_takeUp 34 = .ok (.bipush 80, 2) := by decide +kernel
theorem dX4_takeUp_36 : decode cX4_takeUp 36 = .ok (.if_icmp .ge 88, 3) := by decide +kernel
theorem dX4_takeUp_39 : decode cX4_takeUp 39 = .ok (.aload_n 0, 1) := by decide +kernel
theorem dX4_takeUp_40 : decode cX4_takeUp 40 = .ok (.iload_n 1, 1) := by decide +kernel
theorem dX4_takeUp_41 : decode cX4_takeUp 41 = .ok (.iload_n 3, 1) := by decide +kernel
theorem dX4_takeUp_42 : decode cX4_takeUp 42 = .ok (.invokevirtual 82, 3) := by decide +kernel
theorem dX4_takeUp_45 : decode cX4_takeUp 45 = .ok (.ifCond .eq 73, 3) := by decide +kernel
theorem dX4_takeUp_48 : decode cX4_takeUp 48 = .ok (.iload_n 3, 1) := by decide +kernel
theorem dX4_takeUp_49 : decode cX4_takeUp 49 = .ok (.iload_n 1, 1) := by decide +kernel
theorem dX4_takeUp_50 : decode cX4_takeUp 50 = .ok (.invokestatic 25, 3) := by decide +kernel
theorem dX4_takeUp_53 : decode cX4_takeUp 53 = .ok (.if_icmp .eq 65, 3) := by decide +kernel
theorem dX4_takeUp_56 : decode cX4_takeUp 56 = .ok (.iinc 2 1, 3) := by decide +kernel
theorem dX4_takeUp_59 : decode cX4_takeUp 59 = .ok (.aload_n 0, 1) := by decide +kernel
theorem dX4_takeUp_60 : decode cX4_takeUp 60 = .ok (.getfield 7, 3) := by decide +kernel
theorem dX4_takeUp_63 : decode cX4_takeUp 63 = .ok (.bipush 84, 2) := by decide +kernel
theorem dX4_takeUp_65 : decode cX4_takeUp 65 = .ok (.iload_n 3, 1) := by decide +kernel
theorem dX4_takeUp_66 : decode cX4_takeUp 66 = .ok (.iadd, 1) := by decide +kernel
theorem dX4_takeUp_67 : decode cX4_takeUp 67 = .ok (.dup2, 1) := by decide +kernel
theorem dX4_takeUp_68 : decode cX4_takeUp 68 = .ok (.iaload, 1) := by decide +kernel
theorem dX4_takeUp_69 : decode cX4_takeUp 69 = .ok (.iconst 1, 1) := by decide +kernel
theorem dX4_takeUp_70 : decode cX4_takeUp 70 = .ok (.iload_n 1, 1) := by decide +kernel
theorem dX4_takeUp_71 : decode cX4_takeUp 71 = .ok (.ishl, 1) := by decide +kernel
theorem dX4_takeUp_72 : decode cX4_takeUp 72 = .ok (.iconst (-1), 1) := by decide +kernel
theorem dX4_takeUp_73 : decode cX4_takeUp 73 = .ok (.ixor, 1) := by decide +kernel
theorem dX4_takeUp_74 : decode cX4_takeUp 74 = .ok (.iand, 1) := by decide +kernel
theorem dX4_takeUp_75 : decode cX4_takeUp 75 = .ok (.iastore, 1) := by decide +kernel
theorem dX4_takeUp_76 : decode cX4_takeUp 76 = .ok (.aload_n 0, 1) := by decide +kernel
theorem dX4_takeUp_77 : decode cX4_takeUp 77 = .ok (.getfield 7, 3) := by decide +kernel
theorem dX4_takeUp_80 : decode cX4_takeUp 80 = .ok (.sipush 164, 3) := by decide +kernel
theorem dX4_takeUp_83 : decode cX4_takeUp 83 = .ok (.iload_n 3, 1) := by decide +kernel
theorem dX4_takeUp_84 : decode cX4_takeUp 84 = .ok (.iadd, 1) := by decide +kernel
theorem dX4_takeUp_85 : decode cX4_takeUp 85 = .ok (.aload_n 0, 1) := by decide +kernel
theorem dX4_takeUp_86 : decode cX4_takeUp 86 = .ok (.getfield 7, 3) := by decide +kernel
theorem dX4_takeUp_89 : decode cX4_takeUp 89 = .ok (.sipush 164, 3) := by decide +kernel
theorem dX4_takeUp_92 : decode cX4_takeUp 92 = .ok (.iload_n 3, 1) := by decide +kernel
theorem dX4_takeUp_93 : decode cX4_takeUp 93 = .ok (.iadd, 1) := by decide +kernel
theorem dX4_takeUp_94 : decode cX4_takeUp 94 = .ok (.iaload, 1) := by decide +kernel
theorem dX4_takeUp_95 : decode cX4_takeUp 95 = .ok (.iload_n 1, 1) := by decide +kernel
theorem dX4_takeUp_96 : decode cX4_takeUp 96 = .ok (.if_icmp .ne 11, 3) := by decide +kernel
theorem dX4_takeUp_99 : decode cX4_takeUp 99 = .ok (.aload_n 0, 1) := by decide +kernel
theorem dX4_takeUp_100 : decode cX4_takeUp 100 = .ok (.iload_n 3, 1) := by decide +kernel
theorem dX4_takeUp_101 : decode cX4_takeUp 101 = .ok (.invokevirtual 97, 3) := by decide +kernel
theorem dX4_takeUp_104 : decode cX4_takeUp 104 = .ok (.goto 13, 3) := by decide +kernel
theorem dX4_takeUp_107 : decode cX4_takeUp 107 = .ok (.aload_n 0, 1) := by decide +kernel
theorem dX4_takeUp_108 : decode cX4_takeUp 108 = .ok (.getfield 7, 3) := by decide +kernel
theorem dX4_takeUp_111 : decode cX4_takeUp 111 = .ok (.sipush 164, 3) := by decide +kernel
theorem dX4_takeUp_114 : decode cX4_takeUp 114 = .ok (.iload_n 3, 1) := by decide +kernel
theorem dX4_takeUp_115 : decode cX4_takeUp 115 = .ok (.iadd, 1) := by decide +kernel
theorem dX4_takeUp_116 : decode cX4_takeUp 116 = .ok (.iaload, 1) := by decide +kernel
theorem dX4_takeUp_117 : decode cX4_takeUp 117 = .ok (.iastore, 1) := by decide +kernel
theorem dX4_takeUp_118 : decode cX4_takeUp 118 = .ok (.iinc 3 1, 3) := by decide +kernel
theorem dX4_takeUp_121 : decode cX4_takeUp 121 = .ok (.goto (-88), 3) := by decide +kernel
theorem dX4_takeUp_124 : decode cX4_takeUp 124 = .ok (.aload_n 0, 1) := by decide +kernel
theorem dX4_takeUp_125 : decode cX4_takeUp 125 = .ok (.getfield 7, 3) := by decide +kernel
theorem dX4_takeUp_128 : decode cX4_takeUp 128 = .ok (.sipush 268, 3) := by decide +kernel
theorem dX4_takeUp_131 : decode cX4_takeUp 131 = .ok (.iconst 5, 1) := by decide +kernel
theorem dX4_takeUp_132 : decode cX4_takeUp 132 = .ok (.iload_n 1, 1) := by decide +kernel
theorem dX4_takeUp_133 : decode cX4_takeUp 133 = .ok (.imul, 1) := by decide +kernel
theorem dX4_takeUp_134 : decode cX4_takeUp 134 = .ok (.iadd, 1) := by decide +kernel
theorem dX4_takeUp_135 : decode cX4_takeUp 135 = .ok (.iconst 1, 1) := by decide +kernel
theorem dX4_takeUp_136 : decode cX4_takeUp 136 = .ok (.iadd, 1) := by decide +kernel
theorem dX4_takeUp_137 : decode cX4_takeUp 137 = .ok (.iload_n 1, 1) := by decide +kernel
theorem dX4_takeUp_138 : decode cX4_takeUp 138 = .ok (.invokestatic 25, 3) := by decide +kernel
theorem dX4_takeUp_141 : decode cX4_takeUp 141 = .ok (.iastore, 1) := by decide +kernel
theorem dX4_takeUp_142 : decode cX4_takeUp 142 = .ok (.aload_n 0, 1) := by decide +kernel
theorem dX4_takeUp_143 : decode cX4_takeUp 143 = .ok (.getfield 7, 3) := by decide +kernel
theorem dX4_takeUp_146 : decode cX4_takeUp 146 = .ok (.sipush 268, 3) := by decide +kernel
theorem dX4_takeUp_149 : decode cX4_takeUp 149 = .ok (.iconst 5, 1) := by decide +kernel
theorem dX4_takeUp_150 : decode cX4_takeUp 150 = .ok (.iload_n 1, 1) := by decide +kernel
theorem dX4_takeUp_151 : decode cX4_takeUp 151 = .ok (.imul, 1) := by decide +kernel
theorem dX4_takeUp_152 : decode cX4_takeUp 152 = .ok (.iadd, 1) := by decide +kernel
theorem dX4_takeUp_153 : decode cX4_takeUp 153 = .ok (.iconst 2, 1) := by decide +kernel
theorem dX4_takeUp_154 : decode cX4_takeUp 154 = .ok (.iadd, 1) := by decide +kernel
theorem dX4_takeUp_155 : decode cX4_takeUp 155 = .ok (.iconst (-1), 1) := by decide +kernel
theorem dX4_takeUp_156 : decode cX4_takeUp 156 = .ok (.iastore, 1) := by decide +kernel
theorem dX4_takeUp_157 : decode cX4_takeUp 157 = .ok (.iload_n 2, 1) := by decide +kernel
theorem dX4_takeUp_158 : decode cX4_takeUp 158 = .ok (.ireturn, 1) := by decide +kernel
set_option maxRecDepth 20000 in
theorem ggX4_give_X4_isPlayer : GoodIn wsX4_give wsX4_isPlayer := goodIn_r _ [7, 8, 9, 6, 10] (by decide +kernel) (by decide +kernel)
set_option maxRecDepth 20000 in
theorem gX4_give_X4_isPlayer : GoodIn wsX4_give (va_wsS RX4 57 yX4_isPlayer wsX4_isPlayer) := goodIn_app (goodIn_of _ (by decide +kernel)) ggX4_give_X4_isPlayer
set_option maxRecDepth 20000 in
theorem ggX4_give_X4_in : GoodIn wsX4_give wsX4_in := goodIn_r _ [10] (by decide +kernel) (by decide +kernel)
set_option maxRecDepth 20000 in
theorem gX4_give_X4_in : GoodIn wsX4_give (va_wsS RX4 33 yX4_in wsX4_in) := goodIn_app (goodIn_of _ (by decide +kernel)) ggX4_give_X4_in
set_option maxRecDepth 20000 in
theorem ggX4_give_X4_of : GoodIn wsX4_give wsX4_of := goodIn_r _ [14, 3, 21, 22, 23, 24, 25, 26, 27, 28, 29, 30, 31, 32, 33] (by decide +kernel) (by decide +kernel)
set_option maxRecDepth 20000 in
theorem gX4_give_X4_of : GoodIn wsX4_give (wsV RX4 76 RX4 yX4_of wsX4_of) := goodIn_app (goodIn_of _ (by decide +kernel)) ggX4_give_X4_of
set_option maxRecDepth 20000 in
theorem ggX4_give_X4_save : GoodIn wsX4_give wsX4_save := goodIn_r _ [18, 19, 20, 3, 21, 22, 23, 24, 25, 26, 27, 28, 29, 30, 31, 32, 33] (by decide +kernel) (by decide +kernel)
set_option maxRecDepth 20000 in
theorem gX4_give_X4_save : GoodIn wsX4_give (wsV RX4 54 RX4 yX4_save wsX4_save) := goodIn_app (goodIn_of _ (by decide +kernel)) ggX4_give_X4_save
theorem dX4_give_0 : decode cX4_give 0 = .ok (.iload_n 1, 1) := by decide +kernel
theorem dX4_give_1 : decode cX4_give 1 = .ok (.invokestatic 57, 3) := by decide +kernel
theorem dX4_give_4 : decode cX4_give 4 = .ok (.ifCond .ne 10, 3) := by decide +kernel
theorem dX4_give_7 : decode cX4_give 7 = .ok (.aload_n 0, 1) := by decide +kernel
theorem dX4_give_8 : decode cX4_give 8 = .ok (.iconst 1, 1) := by decide +kernel
theorem dX4_give_9 : decode cX4_give 9 = .ok (.putfield 29, 3) := by decide +kernel
theorem dX4_give_12 : decode cX4_give 12 = .ok (.iconst 0, 1) := by decide +kernel
theorem dX4_give_13 : decode cX4_give 13 = .ok (.ireturn, 1) := by decide +kernel
theorem dX4_give_14 : decode cX4_give 14 = .ok (.aload_n 0, 1) := by decide +kernel
theorem dX4_give_15 : decode cX4_give 15 = .ok (.iload_n 2, 1) := by decide +kernel
theorem dX4_give_16 : decode cX4_give 16 = .ok (.iconst 1, 1) := by decide +kernel
theorem dX4_give_17 : decode cX4_give 17 = .ok (.sipush 999, 3) := by decide +kernel
theorem dX4_give_20 : decode cX4_give 20 = .ok (.invokestatic 33, 3) := by decide +kernel
theorem dX4_give_23 : decode cX4_give 23 = .ok (.ifCond .ne 7, 3) := by decide +kernel
theorem dX4_give_26 : decode cX4_give 26 = .ok (.iconst 2, 1) := by decide +kernel
theorem dX4_give_27 : decode cX4_give 27 = .ok (.goto 21, 3) := by decide +kernel
theorem dX4_give_30 : decode cX4_give 30 = .ok (.aload_n 0, 1) := by decide +kernel
theorem dX4_give_31 : decode cX4_give 31 = .ok (.iload_n 1, 1) := by decide +kernel
theorem dX4_give_32 : decode cX4_give 32 = .ok (.iconst 0, 1) := by decide +kernel
theorem dX4_give_33 : decode cX4_give 33 = .ok (.invokevirtual 76, 3) := by decide +kernel
theorem dX4_give_36 : decode cX4_give 36 = .ok (.iload_n 2, 1) := by decide +kernel
theorem dX4_give_37 : decode cX4_give 37 = .ok (.iadd, 1) := by decide +kernel
theorem dX4_give_38 : decode cX4_give 38 = .ok (.ldc 100, 2) := by decide +kernel
theorem dX4_give_40 : decode cX4_give 40 = .ok (.if_icmp .le 7, 3) := by decide +kernel
theorem dX4_give_43 : decode cX4_give 43 = .ok (.iconst 3, 1) := by decide +kernel
theorem dX4_give_44 : decode cX4_give 44 = .ok (.goto 4, 3) := by decide +kernel
theorem dX4_give_47 : decode cX4_give 47 = .ok (.iconst 0, 1) := by decide +kernel
theorem dX4_give_48 : decode cX4_give 48 = .ok (.putfield 29, 3) := by decide +kernel
theorem dX4_give_51 : decode cX4_give 51 = .ok (.aload_n 0, 1) := by decide +kernel
theorem dX4_give_52 : decode cX4_give 52 = .ok (.getfield 29, 3) := by decide +kernel
theorem dX4_give_55 : decode cX4_give 55 = .ok (.ifCond .le 5, 3) := by decide +kernel
theorem dX4_give_58 : decode cX4_give 58 = .ok (.iconst 0, 1) := by decide +kernel
theorem dX4_give_59 : decode cX4_give 59 = .ok (.ireturn, 1) := by decide +kernel
theorem dX4_give_60 : decode cX4_give 60 = .ok (.aload_n 0, 1) := by decide +kernel
theorem dX4_give_61 : decode cX4_give 61 = .ok (.invokevirtual 54, 3) := by decide +kernel
theorem dX4_give_64 : decode cX4_give 64 = .ok (.aload_n 0, 1) := by decide +kernel
theorem dX4_give_65 : decode cX4_give 65 = .ok (.getfield 7, 3) := by decide +kernel
theorem dX4_give_68 : decode cX4_give 68 = .ok (.sipush 268, 3) := by decide +kernel
theorem dX4_give_71 : decode cX4_give 71 = .ok (.iconst 5, 1) := by decide +kernel
theorem dX4_give_72 : decode cX4_give 72 = .ok (.iload_n 1, 1) := by decide +kernel
theorem dX4_give_73 : decode cX4_give 73 = .ok (.imul, 1) := by decide +kernel
theorem dX4_give_74 : decode cX4_give 74 = .ok (.iadd, 1) := by decide +kernel
theorem dX4_give_75 : decode cX4_give 75 = .ok (.iconst 0, 1) := by decide +kernel
theorem dX4_give_76 : decode cX4_give 76 = .ok (.iadd, 1) := by decide +kernel
theorem dX4_give_77 : decode cX4_give 77 = .ok (.dup2, 1) := by decide +kernel
theorem dX4_give_78 : decode cX4_give 78 = .ok (.iaload, 1) := by decide +kernel
theorem dX4_give_79 : decode cX4_give 79 = .ok (.iload_n 2, 1) := by decide +kernel
theorem dX4_give_80 : decode cX4_give 80 = .ok (.iadd, 1) := by decide +kernel
theorem dX4_give_81 : decode cX4_give 81 = .ok (.iastore, 1) := by decide +kernel
theorem dX4_give_82 : decode cX4_give 82 = .ok (.aload_n 0, 1) := by decide +kernel
theorem dX4_give_83 : decode cX4_give 83 = .ok (.iload_n 1, 1) := by decide +kernel
theorem dX4_give_84 : decode cX4_give 84 = .ok (.iconst 0, 1) := by decide +kernel
theorem dX4_give_85 : decode cX4_give 85 = .ok (.invokevirtual 76, 3) := by decide +kernel
theorem dX4_give_88 : decode cX4_give 88 = .ok (.ireturn, 1) := by decide +kernel
set_option maxRecDepth 20000 in
theorem ggX4_set_X4_in : GoodIn wsX4_set wsX4_in := goodIn_r _ [6] (by decide +kernel) (by decide +kernel)
set_option maxRecDepth 20000 in
theorem gX4_set_X4_in : GoodIn wsX4_set (va_wsS RX4 33 yX4_in wsX4_in) := goodIn_app (goodIn_of _ (by decide +kernel)) ggX4_set_X4_in
set_option maxRecDepth 20000 in
theorem ggX4_set_X4_save : GoodIn wsX4_set wsX4_save := goodIn_r _ [10, 11, 12, 2, 13, 14, 15, 16, 17, 18, 19, 20, 21, 22, 23, 24, 25] (by decide +kernel) (by decide +kernel)
set_option maxRecDepth 20000 in
theorem gX4_set_X4_save : GoodIn wsX4_set (wsV RX4 54 RX4 yX4_save wsX4_save) := goodIn_app (goodIn_of _ (by decide +kernel)) ggX4_set_X4_save
theorem dX4_set_0 : decode cX4_set 0 = .ok (.aload_n 0, 1) := by decide +kernel
theorem dX4_set_1 : decode cX4_set 1 = .ok (.iload_n 1, 1) := by decide +kernel
theorem dX4_set_2 : decode cX4_set 2 = .ok (.iconst 0, 1) := by decide +kernel
theorem dX4_set_3 : decode cX4_set 3 = .ok (.iconst 2, 1) := by decide +kernel
theorem dX4_set_4 : decode cX4_set 4 = .ok (.invokestatic 33, 3) := by decide +kernel
theorem dX4_set_7 : decode cX4_set 7 = .ok (.ifCond .ne 7, 3) := by decide +kernel
theorem dX4_set_10 : decode cX4_set 10 = .ok (.iconst 1, 1) := by decide +kernel
theorem dX4_set_11 : decode cX4_set 11 = .ok (.goto 40, 3) := by decide +kernel
theorem dX4_set_14 : decode cX4_set 14 = .ok (.iload_n 1, 1) := by decide +kernel
theorem dX4_set_15 : decode cX4_set 15 = .ok (.iconst 1, 1) := by decide +kernel
theorem dX4_set_16 : decode cX4_set 16 = .ok (.if_icmp .ne 20, 3) := by decide +kernel
theorem dX4_set_19 : decode cX4_set 19 = .ok (.iload_n 2, 1) := by decide +kernel
theorem dX4_set_20 : decode cX4_set 20 = .ok (.iconst 1, 1) := by decide +kernel
theorem dX4_set_21 : decode cX4_set 21 = .ok (.iconst 4, 1) := by decide +kernel
theorem dX4_set_22 : decode cX4_set 22 = .ok (.invokestatic 33, 3) := by decide +kernel
theorem dX4_set_25 : decode cX4_set 25 = .ok (.ifCond .eq 7, 3) := by decide +kernel
theorem dX4_set_28 : decode cX4_set 28 = .ok (.iconst 0, 1) := by decide +kernel
theorem dX4_set_29 : decode cX4_set 29 = .ok (.goto 22, 3) := by decide +kernel
theorem dX4_set_32 : decode cX4_set 32 = .ok (.iconst 2, 1) := by decide +kernel
theorem dX4_set_33 : decode cX4_set 33 = .ok (.goto 18, 3) := by decide +kernel
theorem dX4_set_36 : decode cX4_set 36 = .ok (.iload_n 2, 1) := by decide +kernel
theorem dX4_set_37 : decode cX4_set 37 = .ok (.iconst 0, 1) := by decide +kernel
theorem dX4_set_38 : decode cX4_set 38 = .ok (.bipush 9, 2) := by decide +kernel
theorem dX4_set_40 : decode cX4_set 40 = .ok (.invokestatic 33, 3) := by decide +kernel
theorem dX4_set_43 : decode cX4_set 43 = .ok (.ifCond .eq 7, 3) := by decide +kernel
theorem dX4_set_46 : decode cX4_set 46 = .ok (.iconst 0, 1) := by decide +kernel
theorem dX4_set_47 : decode cX4_set 47 = .ok (.goto 4, 3) := by decide +kernel
theorem dX4_set_50 : decode cX4_set 50 = .ok (.iconst 2, 1) := by decide +kernel
theorem dX4_set_51 : decode cX4_set 51 = .ok (.putfield 29, 3) := by decide +kernel
theorem dX4_set_54 : decode cX4_set 54 = .ok (.aload_n 0, 1) := by decide +kernel
theorem dX4_set_55 : decode cX4_set 55 = .ok (.getfield 29, 3) := by decide +kernel
theorem dX4_set_58 : decode cX4_set 58 = .ok (.ifCond .le 5, 3) := by decide +kernel
theorem dX4_set_61 : decode cX4_set 61 = .ok (.iconst 0, 1) := by decide +kernel
theorem dX4_set_62 : decode cX4_set 62 = .ok (.ireturn, 1) := by decide +kernel
theorem dX4_set_63 : decode cX4_set 63 = .ok (.aload_n 0, 1) := by decide +kernel
theorem dX4_set_64 : decode cX4_set 64 = .ok (.invokevirtual 54, 3) := by decide +kernel
theorem dX4_set_67 : decode cX4_set 67 = .ok (.aload_n 0, 1) := by decide +kernel
theorem dX4_set_68 : decode cX4_set 68 = .ok (.getfield 7, 3) := by decide +kernel
theorem dX4_set_71 : decode cX4_set 71 = .ok (.iconst 0, 1) := by decide +kernel
theorem dX4_set_72 : decode cX4_set 72 = .ok (.iload_n 1, 1) := by decide +kernel
theorem dX4_set_73 : decode cX4_set 73 = .ok (.iadd, 1) := by decide +kernel
theorem dX4_set_74 : decode cX4_set 74 = .ok (.iaload, 1) := by decide +kernel
theorem dX4_set_75 : decode cX4_set 75 = .ok (.istore_n 3, 1) := by decide +kernel
theorem dX4_set_76 : decode cX4_set 76 = .ok (.aload_n 0, 1) := by decide +kernel
theorem dX4_set_77 : decode cX4_set 77 = .ok (.getfield 7, 3) := by decide +kernel
theorem dX4_set_80 : decode cX4_set 80 = .ok (.iconst 0, 1) := by decide +kernel
theorem dX4_set_81 : decode cX4_set 81 = .ok (.iload_n 1, 1) := by decide +kernel
theorem dX4_set_82 : decode cX4_set 82 = .ok (.iadd, 1) := by decide +kernel
theorem dX4_set_83 : decode cX4_set 83 = .ok (.iload_n 2, 1) := by decide +kernel
theorem dX4_set_84 : decode cX4_set 84 = .ok (.iastore, 1) := by decide +kernel
theorem dX4_set_85 : decode cX4_set 85 = .ok (.iload_n 3, 1) := by decide +kernel
theorem dX4_set_86 : decode cX4_set 86 = .ok (.ireturn, 1) := by decide +kernel
set_option maxRecDepth 20000 in
theorem ggX4_append_X4_in : GoodIn wsX4_append wsX4_in := goodIn_r _ [7] (by decide +kernel) (by decide +kernel)
set_option maxRecDepth 20000 in
theorem gX4_append_X4_in : GoodIn wsX4_append (va_wsS RX4 33 yX4_in wsX4_in) := goodIn_app (goodIn_of _ (by decide +kernel)) ggX4_append_X4_in
theorem dX4_append_0 : decode cX4_append 0 = .ok (.aload_n 0, 1) := by decide +kernel
theorem dX4_append_1 : decode cX4_append 1 = .ok (.iload_n 1, 1) := by decide +kernel
theorem dX4_append_2 : decode cX4_append 2 = .ok (.bipush 33, 2) := by decide +kernel
theorem dX4_append_4 : decode cX4_append 4 = .ok (.bipush 126, 2) := by decide +kernel
theorem dX4_append_6 : decode cX4_append 6 = .ok (.invokestatic 33, 3) := by decide +kernel
theorem dX4_append_9 : decode cX4_append 9 = .ok (.ifCond .ne 7, 3) := by decide +kernel
theorem dX4_append_12 : decode cX4_append 12 = .ok (.iconst 1, 1) := by decide +kernel
theorem dX4_append_13 : decode cX4_append 13 = .ok (.goto 17, 3) := by decide +kernel
theorem dX4_append_16 : decode cX4_append 16 = .ok (.aload_n 0, 1) := by decide +kernel
theorem dX4_append_17 : decode cX4_append 17 = .ok (.getfield 101, 3) := by decide +kernel
theorem dX4_append_20 : decode cX4_append 20 = .ok (.bipush 60, 2) := by decide +kernel
theorem dX4_append_22 : decode cX4_append 22 = .ok (.if_icmp .ne 7, 3) := by decide +kernel
theorem dX4_append_25 : decode cX4_append 25 = .ok (.iconst 2, 1) := by decide +kernel
theorem dX4_append_26 : decode cX4_append 26 = .ok (.goto 4, 3) := by decide +kernel
theorem dX4_append_29 : decode cX4_append 29 = .ok (.iconst 0, 1) := by decide +kernel
theorem dX4_append_30 : decode cX4_append 30 = .ok (.putfield 29, 3) := by decide +kernel
theorem dX4_append_33 : decode cX4_append 33 = .ok (.aload_n 0, 1) := by decide +kernel
theorem dX4_append_34 : decode cX4_append 34 = .ok (.getfield 29, 3) := by decide +kernel
theorem dX4_append_37 : decode cX4_append 37 = .ok (.ifCond .le 5, 3) := by decide +kernel
theorem dX4_append_40 : decode cX4_append 40 = .ok (.iconst 0, 1) := by decide +kernel
theorem dX4_append_41 : decode cX4_append 41 = .ok (.ireturn, 1) := by decide +kernel
theorem dX4_append_42 : decode cX4_append 42 = .ok (.aload_n 0, 1) := by decide +kernel
theorem dX4_append_43 : decode cX4_append 43 = .ok (.getfield 16, 3) := by decide +kernel
theorem dX4_append_46 : decode cX4_append 46 = .ok (.aload_n 0, 1) := by decide +kernel
theorem dX4_append_47 : decode cX4_append 47 = .ok (.getfield 101, 3) := by decide +kernel
theorem dX4_append_50 : decode cX4_append 50 = .ok (.iload_n 1, 1) := by decide +kernel
