theorem dX5_init_0 : decode cX5_init 0 = .ok (.aload_n 0, 1) := by decide +kernel
theorem dX5_init_1 : decode cX5_init 1 = .ok (.invokespecial 1, 3) := by decide +kernel
theorem dX5_init_4 : decode cX5_init 4 = .ok (.aload_n 0, 1) := by decide +kernel
theorem dX5_init_5 : decode cX5_init 5 = .ok (.iconst 5, 1) := by decide +kernel
theorem dX5_init_6 : decode cX5_init 6 = .ok (.newarray .int, 2) := by decide +kernel
theorem dX5_init_8 : decode cX5_init 8 = .ok (.putfield 7, 3) := by decide +kernel
theorem dX5_init_11 : decode cX5_init 11 = .ok (.aload_n 0, 1) := by decide +kernel
theorem dX5_init_12 : decode cX5_init 12 = .ok (.iconst 5, 1) := by decide +kernel
theorem dX5_init_13 : decode cX5_init 13 = .ok (.newarray .int, 2) := by decide +kernel
theorem dX5_init_15 : decode cX5_init 15 = .ok (.putfield 13, 3) := by decide +kernel
theorem dX5_init_18 : decode cX5_init 18 = .ok (.aload_n 0, 1) := by decide +kernel
theorem dX5_init_19 : decode cX5_init 19 = .ok (.iconst 5, 1) := by decide +kernel
theorem dX5_init_20 : decode cX5_init 20 = .ok (.newarray .int, 2) := by decide +kernel
theorem dX5_init_22 : decode cX5_init 22 = .ok (.putfield 16, 3) := by decide +kernel
theorem dX5_init_25 : decode cX5_init 25 = .ok (.aload_n 0, 1) := by decide +kernel
theorem dX5_init_26 : decode cX5_init 26 = .ok (.iconst 5, 1) := by decide +kernel
theorem dX5_init_27 : decode cX5_init 27 = .ok (.newarray .boolean, 2) := by decide +kernel
theorem dX5_init_29 : decode cX5_init 29 = .ok (.putfield 19, 3) := by decide +kernel
theorem dX5_init_32 : decode cX5_init 32 = .ok (.aload_n 0, 1) := by decide +kernel
theorem dX5_init_33 : decode cX5_init 33 = .ok (.bipush 25, 2) := by decide +kernel
theorem dX5_init_35 : decode cX5_init 35 = .ok (.newarray .int, 2) := by decide +kernel
theorem dX5_init_37 : decode cX5_init 37 = .ok (.putfield 23, 3) := by decide +kernel
theorem dX5_init_40 : decode cX5_init 40 = .ok (.aload_n 0, 1) := by decide +kernel
theorem dX5_init_41 : decode cX5_init 41 = .ok (.bipush 25, 2) := by decide +kernel
theorem dX5_init_43 : decode cX5_init 43 = .ok (.newarray .int, 2) := by decide +kernel
theorem dX5_init_45 : decode cX5_init 45 = .ok (.putfield 26, 3) := by decide +kernel
theorem dX5_init_48 : decode cX5_init 48 = .ok (.aload_n 0, 1) := by decide +kernel
theorem dX5_init_49 : decode cX5_init 49 = .ok (.bipush 60, 2) := by decide +kernel
theorem dX5_init_51 : decode cX5_init 51 = .ok (.newarray .int, 2) := by decide +kernel
theorem dX5_init_53 : decode cX5_init 53 = .ok (.putfield 29, 3) := by decide +kernel
theorem dX5_init_56 : decode cX5_init 56 = .ok (.aload_n 0, 1) := by decide +kernel
theorem dX5_init_57 : decode cX5_init 57 = .ok (.bipush 60, 2) := by decide +kernel
theorem dX5_init_59 : decode cX5_init 59 = .ok (.newarray .int, 2) := by decide +kernel
theorem dX5_init_61 : decode cX5_init 61 = .ok (.putfield 32, 3) := by decide +kernel
theorem dX5_init_64 : decode cX5_init 64 = .ok (.aload_n 0, 1) := by decide +kernel
theorem dX5_init_65 : decode cX5_init 65 = .ok (.bipush 60, 2) := by decide +kernel
theorem dX5_init_67 : decode cX5_init 67 = .ok (.newarray .int, 2) := by decide +kernel
theorem dX5_init_69 : decode cX5_init 69 = .ok (.putfield 35, 3) := by decide +kernel
theorem dX5_init_72 : decode cX5_init 72 = .ok (.aload_n 0, 1) := by decide +kernel
theorem dX5_init_73 : decode cX5_init 73 = .ok (.bipush 60, 2) := by decide +kernel
theorem dX5_init_75 : decode cX5_init 75 = .ok (.newarray .int, 2) := by decide +kernel
theorem dX5_init_77 : decode cX5_init 77 = .ok (.putfield 38, 3) := by decide +kernel
theorem dX5_init_80 : decode cX5_init 80 = .ok (.aload_n 0, 1) := by decide +kernel
theorem dX5_init_81 : decode cX5_init 81 = .ok (.bipush 60, 2) := by decide +kernel
theorem dX5_init_83 : decode cX5_init 83 = .ok (.newarray .boolean, 2) := by decide +kernel
theorem dX5_init_85 : decode cX5_init 85 = .ok (.putfield 41, 3) := by decide +kernel
theorem dX5_init_88 : decode cX5_init 88 = .ok (.aload_n 0, 1) := by decide +kernel
theorem dX5_init_89 : decode cX5_init 89 = .ok (.bipush 100, 2) := by decide +kernel
theorem dX5_init_91 : decode cX5_init 91 = .ok (.putfield 44, 3) := by decide +kernel
theorem dX5_init_94 : decode cX5_init 94 = .ok (.aload_n 0, 1) := by decide +kernel
theorem dX5_init_95 : decode cX5_init 95 = .ok (.iconst 5, 1) := by decide +kernel
theorem dX5_init_96 : decode cX5_init 96 = .ok (.newarray .int, 2) := by decide +kernel
theorem dX5_init_98 : decode cX5_init 98 = .ok (.putfield 48, 3) := by decide +kernel
theorem dX5_init_101 : decode cX5_init 101 = .ok (.aload_n 0, 1) := by decide +kernel
theorem dX5_init_102 : decode cX5_init 102 = .ok (.bipush 40, 2) := by decide +kernel
theorem dX5_init_104 : decode cX5_init 104 = .ok (.newarray .int, 2) := by decide +kernel
theorem dX5_init_106 : decode cX5_init 106 = .ok (.putfield 51, 3) := by decide +kernel
theorem dX5_init_109 : decode cX5_init 109 = .ok (.aload_n 0, 1) := by decide +kernel
theorem dX5_init_110 : decode cX5_init 110 = .ok (.bipush 40, 2) := by decide +kernel
theorem dX5_init_112 : decode cX5_init 112 = .ok (.newarray .int, 2) := by decide +kernel
theorem dX5_init_114 : decode cX5_init 114 = .ok (.putfield 54, 3) := by decide +kernel
theorem dX5_init_117 : decode cX5_init 117 = .ok (.aload_n 0, 1) := by decide +kernel
theorem dX5_init_118 : decode cX5_init 118 = .ok (.bipush 40, 2) := by decide +kernel
theorem dX5_init_120 : decode cX5_init 120 = .ok (.newarray .int, 2) := by decide +kernel
theorem dX5_init_122 : decode cX5_init 122 = .ok (.putfield 57, 3) := by decide +kernel
theorem dX5_init_125 : decode cX5_init 125 = .ok (.aload_n 0, 1) := by decide +kernel
theorem dX5_init_126 : decode cX5_init 126 = .ok (.bipush 40, 2) := by decide +kernel
theorem dX5_init_128 : decode cX5_init 128 = .ok (.newarray .int, 2) := by decide +kernel
theorem dX5_init_130 : decode cX5_init 130 = .ok (.putfield 60, 3) := by decide +kernel
theorem dX5_init_133 : decode cX5_init 133 = .ok (.aload_n 0, 1) := by decide +kernel
theorem dX5_init_134 : decode cX5_init 134 = .ok (.bipush 40, 2) := by decide +kernel
theorem dX5_init_136 : decode cX5_init 136 = .ok (.newarray .int, 2) := by decide +kernel
theorem dX5_init_138 : decode cX5_init 138 = .ok (.putfield 63, 3) := by decide +kernel
theorem dX5_init_141 : decode cX5_init 141 = .ok (.aload_n 0, 1) := by decide +kernel
theorem dX5_init_142 : decode cX5_init 142 = .ok (.bipush 40, 2) := by decide +kernel
theorem dX5_init_144 : decode cX5_init 144 = .ok (.newarray .boolean, 2) := by decide +kernel
theorem dX5_init_146 : decode cX5_init 146 = .ok (.putfield 66, 3) := by decide +kernel
theorem dX5_init_149 : decode cX5_init 149 = .ok (.aload_n 0, 1) := by decide +kernel
theorem dX5_init_150 : decode cX5_init 150 = .ok (.bipush 100, 2) := by decide +kernel
theorem dX5_init_152 : decode cX5_init 152 = .ok (.putfield 69, 3) := by decide +kernel
theorem dX5_init_155 : decode cX5_init 155 = .ok (.aload_n 0, 1) := by decide +kernel
theorem dX5_init_156 : decode cX5_init 156 = .ok (.sipush 200, 3) := by decide +kernel
theorem dX5_init_159 : decode cX5_init 159 = .ok (.putfield 72, 3) := by decide +kernel
theorem dX5_init_162 : decode cX5_init 162 = .ok (.iconst 0, 1) := by decide +kernel
theorem dX5_init_163 : decode cX5_init 163 = .ok (.istore_n 1, 1) := by decide +kernel
theorem dX5_init_164 : decode cX5_init 164 = .ok (.iload_n 1, 1) := by decide +kernel
theorem dX5_init_165 : decode cX5_init 165 = .ok (.bipush 25, 2) := by decide +kernel
theorem dX5_init_167 : decode cX5_init 167 = .ok (.if_icmp .ge 17, 3) := by decide +kernel
theorem dX5_init_170 : decode cX5_init 170 = .ok (.aload_n 0, 1) := by decide +kernel
theorem dX5_init_171 : decode cX5_init 171 = .ok (.getfield 26, 3) := by decide +kernel
theorem dX5_init_174 : decode cX5_init 174 = .ok (.iload_n 1, 1) := by decide +kernel
theorem dX5_init_175 : decode cX5_init 175 = .ok (.ldc 75, 2) := by decide +kernel
theorem dX5_init_177 : decode cX5_init 177 = .ok (.iastore, 1) := by decide +kernel
theorem dX5_init_178 : decode cX5_init 178 = .ok (.iinc 1 1, 3) := by decide +kernel
theorem dX5_init_181 : decode cX5_init 181 = .ok (.goto (-17), 3) := by decide +kernel
theorem dX5_init_184 : decode cX5_init 184 = .ok (.return_, 1) := by decide +kernel
theorem dX5_thrown_0 : decode cX5_thrown 0 = .ok (.aload_n 0, 1) := by decide +kernel
theorem dX5_thrown_1 : decode cX5_thrown 1 = .ok (.getfield 76, 3) := by decide +kernel
theorem dX5_thrown_4 : decode cX5_thrown 4 = .ok (.ireturn, 1) := by decide +kernel
theorem dX5_fails_0 : decode cX5_fails 0 = .ok (.aload_n 0, 1) := by decide +kernel
theorem dX5_fails_1 : decode cX5_fails 1 = .ok (.iload_n 1, 1) := by decide +kernel
theorem dX5_fails_2 : decode cX5_fails 2 = .ok (.putfield 76, 3) := by decide +kernel
theorem dX5_fails_5 : decode cX5_fails 5 = .ok (.iconst 0, 1) := by decide +kernel
theorem dX5_fails_6 : decode cX5_fails 6 = .ok (.ireturn, 1) := by decide +kernel
theorem dX5_asks_0 : decode cX5_asks 0 = .ok (.aload_n 0, 1) := by decide +kernel
theorem dX5_asks_1 : decode cX5_asks 1 = .ok (.iload_n 1, 1) := by decide +kernel
theorem dX5_asks_2 : decode cX5_asks 2 = .ok (.ifCond .eq 7, 3) := by decide +kernel
theorem dX5_asks_5 : decode cX5_asks 5 = .ok (.iconst 0, 1) := by decide +kernel
theorem dX5_asks_6 : decode cX5_asks 6 = .ok (.goto 4, 3) := by decide +kernel
theorem dX5_asks_9 : decode cX5_asks 9 = .ok (.iconst 1, 1) := by decide +kernel
theorem dX5_asks_10 : decode cX5_asks 10 = .ok (.putfield 76, 3) := by decide +kernel
theorem dX5_asks_13 : decode cX5_asks 13 = .ok (.iload_n 1, 1) := by decide +kernel
theorem dX5_asks_14 : decode cX5_asks 14 = .ok (.ireturn, 1) := by decide +kernel
theorem dX5_in_0 : decode cX5_in 0 = .ok (.iload_n 0, 1) := by decide +kernel
theorem dX5_in_1 : decode cX5_in 1 = .ok (.iload_n 1, 1) := by decide +kernel
theorem dX5_in_2 : decode cX5_in 2 = .ok (.if_icmp .lt 12, 3) := by decide +kernel
theorem dX5_in_5 : decode cX5_in 5 = .ok (.iload_n 0, 1) := by decide +kernel
theorem dX5_in_6 : decode cX5_in 6 = .ok (.iload_n 2, 1) := by decide +kernel
theorem dX5_in_7 : decode cX5_in 7 = .ok (.if_icmp .gt 7, 3) := by decide +kernel
theorem dX5_in_10 : decode cX5_in 10 = .ok (.iconst 1, 1) := by decide +kernel
theorem dX5_in_11 : decode cX5_in 11 = .ok (.goto 4, 3) := by decide +kernel
theorem dX5_in_14 : decode cX5_in 14 = .ok (.iconst 0, 1) := by decide +kernel
theorem dX5_in_15 : decode cX5_in 15 = .ok (.ireturn, 1) := by decide +kernel
theorem dX5_isBank_0 : decode cX5_isBank 0 = .ok (.iload_n 0, 1) := by decide +kernel
theorem dX5_isBank_1 : decode cX5_isBank 1 = .ok (.ifCond .lt 12, 3) := by decide +kernel
theorem dX5_isBank_4 : decode cX5_isBank 4 = .ok (.iload_n 0, 1) := by decide +kernel
theorem dX5_isBank_5 : decode cX5_isBank 5 = .ok (.iconst 5, 1) := by decide +kernel
theorem dX5_isBank_6 : decode cX5_isBank 6 = .ok (.if_icmp .ge 7, 3) := by decide +kernel
theorem dX5_isBank_9 : decode cX5_isBank 9 = .ok (.iconst 1, 1) := by decide +kernel
theorem dX5_isBank_10 : decode cX5_isBank 10 = .ok (.goto 4, 3) := by decide +kernel
theorem dX5_isBank_13 : decode cX5_isBank 13 = .ok (.iconst 0, 1) := by decide +kernel
theorem dX5_isBank_14 : decode cX5_isBank 14 = .ok (.ireturn, 1) := by decide +kernel
theorem dX5_isPayment_0 : decode cX5_isPayment 0 = .ok (.iload_n 1, 1) := by decide +kernel
theorem dX5_isPayment_1 : decode cX5_isPayment 1 = .ok (.ifCond .lt 15, 3) := by decide +kernel
theorem dX5_isPayment_4 : decode cX5_isPayment 4 = .ok (.iload_n 1, 1) := by decide +kernel
theorem dX5_isPayment_5 : decode cX5_isPayment 5 = .ok (.aload_n 0, 1) := by decide +kernel
theorem dX5_isPayment_6 : decode cX5_isPayment 6 = .ok (.getfield 79, 3) := by decide +kernel
theorem dX5_isPayment_9 : decode cX5_isPayment 9 = .ok (.if_icmp .ge 7, 3) := by decide +kernel
theorem dX5_isPayment_12 : decode cX5_isPayment 12 = .ok (.iconst 1, 1) := by decide +kernel
theorem dX5_isPayment_13 : decode cX5_isPayment 13 = .ok (.goto 4, 3) := by decide +kernel
theorem dX5_isPayment_16 : decode cX5_isPayment 16 = .ok (.iconst 0, 1) := by decide +kernel
theorem dX5_isPayment_17 : decode cX5_isPayment 17 = .ok (.ireturn, 1) := by decide +kernel
set_option maxRecDepth 20000 in
theorem ggX5_fund_X5_isBank : GoodIn wsX5_fund wsX5_isBank := goodIn_r _ [8] (by decide +kernel) (by decide +kernel)
set_option maxRecDepth 20000 in
theorem gX5_fund_X5_isBank : GoodIn wsX5_fund (va_wsS RX5 82 yX5_isBank wsX5_isBank) := goodIn_app (goodIn_of _ (by decide +kernel)) ggX5_fund_X5_isBank
set_option maxRecDepth 20000 in
theorem ggX5_fund_X5_asks : GoodIn wsX5_fund wsX5_asks := goodIn_r _ [12, 13, 21, 22, 23, 24, 25, 26, 27, 28, 29, 30, 31, 32, 33, 34, 35, 36, 37, 38, 39, 40, 41, 42, 43, 44, 45] (by decide +kernel) (by decide +kernel)
set_option maxRecDepth 20000 in
theorem gX5_fund_X5_asks : GoodIn wsX5_fund (wsV RX5 86 RX5 yX5_asks wsX5_asks) := goodIn_app (goodIn_of _ (by decide +kernel)) ggX5_fund_X5_asks
set_option maxRecDepth 20000 in
theorem ggX5_fund_X5_in : GoodIn wsX5_fund wsX5_in := goodIn_r _ [16] (by decide +kernel) (by decide +kernel)
set_option maxRecDepth 20000 in
theorem gX5_fund_X5_in : GoodIn wsX5_fund (va_wsS RX5 90 yX5_in wsX5_in) := goodIn_app (goodIn_of _ (by decide +kernel)) ggX5_fund_X5_in
set_option maxRecDepth 20000 in
theorem ggX5_fund_X5_fails : GoodIn wsX5_fund wsX5_fails := goodIn_r _ [20, 13, 21, 22, 23, 24, 25, 26, 27, 28, 29, 30, 31, 32, 33, 34, 35, 36, 37, 38, 39, 40, 41, 42, 43, 44, 45] (by decide +kernel) (by decide +kernel)
set_option maxRecDepth 20000 in
theorem gX5_fund_X5_fails : GoodIn wsX5_fund (wsV RX5 94 RX5 yX5_fails wsX5_fails) := goodIn_app (goodIn_of _ (by decide +kernel)) ggX5_fund_X5_fails
theorem dX5_fund_0 : decode cX5_fund 0 = .ok (.aload_n 0, 1) := by decide +kernel
theorem dX5_fund_1 : decode cX5_fund 1 = .ok (.iload_n 1, 1) := by decide +kernel
theorem dX5_fund_2 : decode cX5_fund 2 = .ok (.invokestatic 82, 3) := by decide +kernel
theorem dX5_fund_5 : decode cX5_fund 5 = .ok (.invokevirtual 86, 3) := by decide +kernel
theorem dX5_fund_8 : decode cX5_fund 8 = .ok (.ifCond .ne 5, 3) := by decide +kernel
theorem dX5_fund_11 : decode cX5_fund 11 = .ok (.iconst 0, 1) := by decide +kernel
theorem dX5_fund_12 : decode cX5_fund 12 = .ok (.ireturn, 1) := by decide +kernel
theorem dX5_fund_13 : decode cX5_fund 13 = .ok (.iload_n 2, 1) := by decide +kernel
theorem dX5_fund_14 : decode cX5_fund 14 = .ok (.iconst 1, 1) := by decide +kernel
theorem dX5_fund_15 : decode cX5_fund 15 = .ok (.ldc 75, 2) := by decide +kernel
theorem dX5_fund_17 : decode cX5_fund 17 = .ok (.invokestatic 90, 3) := by decide +kernel
theorem dX5_fund_20 : decode cX5_fund 20 = .ok (.ifCond .ne 9, 3) := by decide +kernel
theorem dX5_fund_23 : decode cX5_fund 23 = .ok (.aload_n 0, 1) := by decide +kernel
theorem dX5_fund_24 : decode cX5_fund 24 = .ok (.iconst 2, 1) := by decide +kernel
theorem dX5_fund_25 : decode cX5_fund 25 = .ok (.invokevirtual 94, 3) := by decide +kernel
theorem dX5_fund_28 : decode cX5_fund 28 = .ok (.ireturn, 1) := by decide +kernel
theorem dX5_fund_29 : decode cX5_fund 29 = .ok (.aload_n 0, 1) := by decide +kernel
theorem dX5_fund_30 : decode cX5_fund 30 = .ok (.getfield 19, 3) := by decide +kernel
theorem dX5_fund_33 : decode cX5_fund 33 = .ok (.iload_n 1, 1) := by decide +kernel
theorem dX5_fund_34 : decode cX5_fund 34 = .ok (.baload, 1) := by decide +kernel
theorem dX5_fund_35 : decode cX5_fund 35 = .ok (.ifCond .ne 16, 3) := by decide +kernel
theorem dX5_fund_38 : decode cX5_fund 38 = .ok (.aload_n 0, 1) := by decide +kernel
theorem dX5_fund_39 : decode cX5_fund 39 = .ok (.getfield 7, 3) := by decide +kernel
theorem dX5_fund_42 : decode cX5_fund 42 = .ok (.iload_n 1, 1) := by decide +kernel
theorem dX5_fund_43 : decode cX5_fund 43 = .ok (.iaload, 1) := by decide +kernel
theorem dX5_fund_44 : decode cX5_fund 44 = .ok (.iload_n 2, 1) := by decide +kernel
theorem dX5_fund_45 : decode cX5_fund 45 = .ok (.iadd, 1) := by decide +kernel
theorem dX5_fund_46 : decode cX5_fund 46 = .ok (.ldc 98, 2) := by decide +kernel
theorem dX5_fund_48 : decode cX5_fund 48 = .ok (.if_icmp .le 9, 3) := by decide +kernel
theorem dX5_fund_51 : decode cX5_fund 51 = .ok (.aload_n 0, 1) := by decide +kernel
theorem dX5_fund_52 : decode cX5_fund 52 = .ok (.iconst 3, 1) := by decide +kernel
theorem dX5_fund_53 : decode cX5_fund 53 = .ok (.invokevirtual 94, 3) := by decide +kernel
theorem dX5_fund_56 : decode cX5_fund 56 = .ok (.ireturn, 1) := by decide +kernel
theorem dX5_fund_57 : decode cX5_fund 57 = .ok (.aload_n 0, 1) := by decide +kernel
theorem dX5_fund_58 : decode cX5_fund 58 = .ok (.getfield 7, 3) := by decide +kernel
theorem dX5_fund_61 : decode cX5_fund 61 = .ok (.iload_n 1, 1) := by decide +kernel
theorem dX5_fund_62 : decode cX5_fund 62 = .ok (.dup2, 1) := by decide +kernel
theorem dX5_fund_63 : decode cX5_fund 63 = .ok (.iaload, 1) := by decide +kernel
theorem dX5_fund_64 : decode cX5_fund 64 = .ok (.iload_n 2, 1) := by decide +kernel
theorem dX5_fund_65 : decode cX5_fund 65 = .ok (.iadd, 1) := by decide +kernel
theorem dX5_fund_66 : decode cX5_fund 66 = .ok (.iastore, 1) := by decide +kernel
theorem dX5_fund_67 : decode cX5_fund 67 = .ok (.aload_n 0, 1) := by decide +kernel
theorem dX5_fund_68 : decode cX5_fund 68 = .ok (.getfield 7, 3) := by decide +kernel
theorem dX5_fund_71 : decode cX5_fund 71 = .ok (.iload_n 1, 1) := by decide +kernel
theorem dX5_fund_72 : decode cX5_fund 72 = .ok (.iaload, 1) := by decide +kernel
theorem dX5_fund_73 : decode cX5_fund 73 = .ok (.ireturn, 1) := by decide +kernel
set_option maxRecDepth 20000 in
theorem ggX5_setFloor_X5_isBank : GoodIn wsX5_setFloor wsX5_isBank := goodIn_r _ [7] (by decide +kernel) (by decide +kernel)
set_option maxRecDepth 20000 in
theorem gX5_setFloor_X5_isBank : GoodIn wsX5_setFloor (va_wsS RX5 82 yX5_isBank wsX5_isBank) := goodIn_app (goodIn_of _ (by decide +kernel)) ggX5_setFloor_X5_isBank
set_option maxRecDepth 20000 in
theorem ggX5_setFloor_X5_asks : GoodIn wsX5_setFloor wsX5_asks := goodIn_r _ [11, 12, 20, 21, 22, 23, 24, 25, 26, 27, 28, 29, 30, 31, 32, 33, 34, 35, 36, 37, 38, 39, 40, 41, 42, 43, 44] (by decide +kernel) (by decide +kernel)
set_option maxRecDepth 20000 in
theorem gX5_setFloor_X5_asks : GoodIn wsX5_setFloor (wsV RX5 86 RX5 yX5_asks wsX5_asks) := goodIn_app (goodIn_of _ (by decide +kernel)) ggX5_setFloor_X5_asks
set_option maxRecDepth 20000 in
theorem ggX5_setFloor_X5_in : GoodIn wsX5_setFloor wsX5_in := goodIn_r _ [15] (by decide +kernel) (by decide +kernel)
set_option maxRecDepth 20000 in
theorem gX5_setFloor_X5_in : GoodIn wsX5_setFloor (va_wsS RX5 90 yX5_in wsX5_in) := goodIn_app (goodIn_of _ (by decide +kernel)) ggX5_setFloor_X5_in
set_option maxRecDepth 20000 in
theorem ggX5_setFloor_X5_fails : GoodIn wsX5_setFloor wsX5_fails := goodIn_r _ [19, 12, 20, 21, 22, 23, 24, 25, 26, 27, 28, 29, 30, 31, 32, 33, 34, 35, 36, 37, 38, 39, 40, 41, 42, 43, 44] (by decide +kernel) (by decide +kernel)
set_option maxRecDepth 20000 in
theorem gX5_setFloor_X5_fails : GoodIn wsX5_setFloor (wsV RX5 94 RX5 yX5_fails wsX5_fails) := goodIn_app (goodIn_of _ (by decide +kernel)) ggX5_setFloor_X5_fails
theorem dX5_setFloor_0 : decode cX5_setFloor 0 = .ok (.aload_n 0, 1) := by decide +kernel
theorem dX5_setFloor_1 : decode cX5_setFloor 1 = .ok (.iload_n 1, 1) := by decide +kernel
theorem dX5_setFloor_2 : decode cX5_setFloor 2 = .ok (.invokestatic 82, 3) := by decide +kernel
theorem dX5_setFloor_5 : decode cX5_setFloor 5 = .ok (.invokevirtual 86, 3) := by decide +kernel
theorem dX5_setFloor_8 : decode cX5_setFloor 8 = .ok (.ifCond .ne 5, 3) := by decide +kernel
theorem dX5_setFloor_11 : decode cX5_setFloor 11 = .ok (.iconst 0, 1) := by decide +kernel
theorem dX5_setFloor_12 : decode cX5_setFloor 12 = .ok (.ireturn, 1) := by decide +kernel
theorem dX5_setFloor_13 : decode cX5_setFloor 13 = .ok (.iload_n 2, 1) := by decide +kernel
theorem dX5_setFloor_14 : decode cX5_setFloor 14 = .ok (.ldc 99, 2) := by decide +kernel
theorem dX5_setFloor_16 : decode cX5_setFloor 16 = .ok (.iconst 0, 1) := by decide +kernel
theorem dX5_setFloor_17 : decode cX5_setFloor 17 = .ok (.invokestatic 90, 3) := by decide +kernel
theorem dX5_setFloor_20 : decode cX5_setFloor 20 = .ok (.ifCond .eq 13, 3) := by decide +kernel
theorem dX5_setFloor_23 : decode cX5_setFloor 23 = .ok (.iload_n 2, 1) := by decide +kernel
theorem dX5_setFloor_24 : decode cX5_setFloor 24 = .ok (.aload_n 0, 1) := by decide +kernel
theorem dX5_setFloor_25 : decode cX5_setFloor 25 = .ok (.getfield 7, 3) := by decide +kernel
theorem dX5_setFloor_28 : decode cX5_setFloor 28 = .ok (.iload_n 1, 1) := by decide +kernel
theorem dX5_setFloor_29 : decode cX5_setFloor 29 = .ok (.iaload, 1) := by decide +kernel
theorem dX5_setFloor_30 : decode cX5_setFloor 30 = .ok (.if_icmp .le 9, 3) := by decide +kernel
theorem dX5_setFloor_33 : decode cX5_setFloor 33 = .ok (.aload_n 0, 1) := by decide +kernel
theorem dX5_setFloor_34 : decode cX5_setFloor 34 = .ok (.iconst 2, 1) := by decide +kernel
theorem dX5_setFloor_35 : decode cX5_setFloor 35 = .ok (.invokevirtual 94, 3) := by decide +kernel
theorem dX5_setFloor_38 : decode cX5_setFloor 38 = .ok (.ireturn, 1) := by decide +kernel
theorem dX5_setFloor_39 : decode cX5_setFloor 39 = .ok (.aload_n 0, 1) := by decide +kernel
theorem dX5_setFloor_40 : decode cX5_setFloor 40 = .ok (.getfield 13, 3) := by decide +kernel
theorem dX5_setFloor_43 : decode cX5_setFloor 43 = .ok (.iload_n 1, 1) := by decide +kernel
theorem dX5_setFloor_44 : decode cX5_setFloor 44 = .ok (.iaload, 1) := by decide +kernel
theorem dX5_setFloor_45 : decode cX5_setFloor 45 = .ok (.istore_n 3, 1) := by decide +kernel
theorem dX5_setFloor_46 : decode cX5_setFloor 46 = .ok (.aload_n 0, 1) := by decide +kernel
theorem dX5_setFloor_47 : decode cX5_setFloor 47 = .ok (.getfield 13, 3) := by decide +kernel
theorem dX5_setFloor_50 : decode cX5_setFloor 50 = .ok (.iload_n 1, 1) := by decide +kernel
theorem dX5_setFloor_51 : decode cX5_setFloor 51 = .ok (.iload_n 2, 1) := by decide +kernel
theorem dX5_setFloor_52 : decode cX5_setFloor 52 = .ok (.iastore, 1) := by decide +kernel
theorem dX5_setFloor_53 : decode cX5_setFloor 53 = .ok (.iload_n 3, 1) := by decide +kernel
theorem dX5_setFloor_54 : decode cX5_setFloor 54 = .ok (.ireturn, 1) := by decide +kernel
set_option maxRecDepth 20000 in
theorem ggX5_setBound_X5_isBank : GoodIn wsX5_setBound wsX5_isBank := goodIn_r _ [7] (by decide +kernel) (by decide +kernel)
set_option maxRecDepth 20000 in
theorem gX5_setBound_X5_isBank : GoodIn wsX5_setBound (va_wsS RX5 82 yX5_isBank wsX5_isBank) := goodIn_app (goodIn_of _ (by decide +kernel)) ggX5_setBound_X5_isBank
set_option maxRecDepth 20000 in
theorem ggX5_setBound_X5_asks : GoodIn wsX5_setBound wsX5_asks := goodIn_r _ [11, 12, 20, 21, 22, 23, 24, 25, 26, 27, 28, 29, 30, 31, 32, 33, 34, 35, 36, 37, 38, 39, 40, 41, 42, 43, 44] (by decide +kernel) (by decide +kernel)
set_option maxRecDepth 20000 in
theorem gX5_setBound_X5_asks : GoodIn wsX5_setBound (wsV RX5 86 RX5 yX5_asks wsX5_asks) := goodIn_app (goodIn_of _ (by decide +kernel)) ggX5_setBound_X5_asks
set_option maxRecDepth 20000 in
theorem ggX5_setBound_X5_in : GoodIn wsX5_setBound wsX5_in := goodIn_r _ [15] (by decide +kernel) (by decide +kernel)
set_option maxRecDepth 20000 in
theorem gX5_setBound_X5_in : GoodIn wsX5_setBound (va_wsS RX5 90 yX5_in wsX5_in) := goodIn_app (goodIn_of _ (by decide +kernel)) ggX5_setBound_X5_in
set_option maxRecDepth 20000 in
theorem ggX5_setBound_X5_fails : GoodIn wsX5_setBound wsX5_fails := goodIn_r _ [19, 12, 20, 21, 22, 23, 24, 25, 26, 27, 28, 29, 30, 31, 32, 33, 34, 35, 36, 37, 38, 39, 40, 41, 42, 43, 44] (by decide +kernel) (by decide +kernel)
set_option maxRecDepth 20000 in
theorem gX5_setBound_X5_fails : GoodIn wsX5_setBound (wsV RX5 94 RX5 yX5_fails wsX5_fails) := goodIn_app (goodIn_of _ (by decide +kernel)) ggX5_setBound_X5_fails
theorem dX5_setBound_0 : decode cX5_setBound 0 = .ok (.aload_n 0, 1) := by decide +kernel
theorem dX5_setBound_1 : decode cX5_setBound 1 = .ok (.iload_n 1, 1) := by decide +kernel
theorem dX5_setBound_2 : decode cX5_setBound 2 = .ok (.invokestatic 82, 3) := by decide +kernel
theorem dX5_setBound_5 : decode cX5_setBound 5 = .ok (.ifCond .eq 14, 3) := by decide +kernel
theorem dX5_setBound_8 : decode cX5_setBound 8 = .ok (.iload_n 2, 1) := by decide +kernel
theorem dX5_setBound_9 : decode cX5_setBound 9 = .ok (.invokestatic 82, 3) := by decide +kernel
theorem dX5_setBound_12 : decode cX5_setBound 12 = .ok (.ifCond .eq 7, 3) := by decide +kernel
theorem dX5_setBound_15 : decode cX5_setBound 15 = .ok (.iconst 1, 1) := by decide +kernel
theorem dX5_setBound_16 : decode cX5_setBound 16 = .ok (.goto 4, 3) := by decide +kernel
theorem dX5_setBound_19 : decode cX5_setBound 19 = .ok (.iconst 0, 1) := by decide +kernel
theorem dX5_setBound_20 : decode cX5_setBound 20 = .ok (.invokevirtual 86, 3) := by decide +kernel
theorem dX5_setBound_23 : decode cX5_setBound 23 = .ok (.ifCond .ne 5, 3) := by decide +kernel
theorem dX5_setBound_26 : decode cX5_setBound 26 = .ok (.iconst 0, 1) := by decide +kernel
theorem dX5_setBound_27 : decode cX5_setBound 27 = .ok (.ireturn, 1) := by decide +kernel
theorem dX5_setBound_28 : decode cX5_setBound 28 = .ok (.iconst 5, 1) := by decide +kernel
theorem dX5_setBound_29 : decode cX5_setBound 29 = .ok (.iload_n 1, 1) := by decide +kernel
theorem dX5_setBound_30 : decode cX5_setBound 30 = .ok (.imul, 1) := by decide +kernel
theorem dX5_setBound_31 : decode cX5_setBound 31 = .ok (.iload_n 2, 1) := by decide +kernel
theorem dX5_setBound_32 : decode cX5_setBound 32 = .ok (.iadd, 1) := by decide +kernel
theorem dX5_setBound_33 : decode cX5_setBound 33 = .ok (.istore 4, 2) := by decide +kernel
theorem dX5_setBound_35 : decode cX5_setBound 35 = .ok (.iload_n 1, 1) := by decide +kernel
theorem dX5_setBound_36 : decode cX5_setBound 36 = .ok (.iload_n 2, 1) := by decide +kernel
theorem dX5_setBound_37 : decode cX5_setBound 37 = .ok (.if_icmp .eq 24, 3) := by decide +kernel
theorem dX5_setBound_40 : decode cX5_setBound 40 = .ok (.iload_n 3, 1) := by decide +kernel
theorem dX5_setBound_41 : decode cX5_setBound 41 = .ok (.iconst 0, 1) := by decide +kernel
theorem dX5_setBound_42 : decode cX5_setBound 42 = .ok (.ldc 75, 2) := by decide +kernel
theorem dX5_setBound_44 : decode cX5_setBound 44 = .ok (.invokestatic 90, 3) := by decide +kernel
theorem dX5_setBound_47 : decode cX5_setBound 47 = .ok (.ifCond .eq 14, 3) := by decide +kernel
theorem dX5_setBound_50 : decode cX5_setBound 50 = .ok (.iload_n 3, 1) := by decide +kernel
theorem dX5_setBound_51 : decode cX5_setBound 51 = .ok (.aload_n 0, 1) := by decide +kernel
theorem dX5_setBound_52 : decode cX5_setBound 52 = .ok (.getfield 23, 3) := by decide +kernel
theorem dX5_setBound_55 : decode cX5_setBound 55 = .ok (.iload 4, 2) := by decide +kernel
theorem dX5_setBound_57 : decode cX5_setBound 57 = .ok (.iaload, 1) := by decide +kernel
theorem dX5_setBound_58 : decode cX5_setBound 58 = .ok (.if_icmp .ge 9, 3) := by decide +kernel
theorem dX5_setBound_61 : decode cX5_setBound 61 = .ok (.aload_n 0, 1) := by decide +kernel
theorem dX5_setBound_62 : decode cX5_setBound 62 = .ok (.iconst 2, 1) := by decide +kernel
theorem dX5_setBound_63 : decode cX5_setBound 63 = .ok (.invokevirtual 94, 3) := by decide +kernel
theorem dX5_setBound_66 : decode cX5_setBound 66 = .ok (.ireturn, 1) := by decide +kernel
theorem dX5_setBound_67 : decode cX5_setBound 67 = .ok (.aload_n 0, 1) := by decide +kernel
theorem dX5_setBound_68 : decode cX5_setBound 68 = .ok (.getfield 26, 3) := by decide +kernel
theorem dX5_setBound_71 : decode cX5_setBound 71 = .ok (.iload 4, 2) := by decide +kernel
theorem dX5_setBound_73 : decode cX5_setBound 73 = .ok (.iaload, 1) := by decide +kernel
theorem dX5_setBound_74 : decode cX5_setBound 74 = .ok (.istore 5, 2) := by decide +kernel
theorem dX5_setBound_76 : decode cX5_setBound 76 = .ok (.aload_n 0, 1) := by decide +kernel
theorem dX5_setBound_77 : decode cX5_setBound 77 = .ok (.getfield 26, 3) := by decide +kernel
theorem dX5_setBound_80 : decode cX5_setBound 80 = .ok (.iload 4, 2) := by decide +kernel
theorem dX5_setBound_82 : decode cX5_setBound 82 = .ok (.iload_n 3, 1) := by decide +kernel
theorem dX5_setBound_83 : decode cX5_setBound 83 = .ok (.iastore, 1) := by decide +kernel
theorem dX5_setBound_84 : decode cX5_setBound 84 = .ok (.iload 5, 2) := by decide +kernel
theorem dX5_setBound_86 : decode cX5_setBound 86 = .ok (.ireturn, 1) := by decide +kernel
set_option maxRecDepth 20000 in
theorem ggX5_givePapers_X5_isBank : GoodIn wsX5_givePapers wsX5_isBank := goodIn_r _ [7] (by decide +kernel) (by decide +kernel)
set_option maxRecDepth 20000 in
theorem gX5_givePapers_X5_isBank : GoodIn wsX5_givePapers (va_wsS RX5 82 yX5_isBank wsX5_isBank) := goodIn_app (goodIn_of _ (by decide +kernel)) ggX5_givePapers_X5_isBank
set_option maxRecDepth 20000 in
theorem ggX5_givePapers_X5_asks : GoodIn wsX5_givePapers wsX5_asks := goodIn_r _ [11, 12, 20, 21, 22, 23, 24, 25, 26, 27, 28, 29, 30, 31, 32, 33, 34, 35, 36, 37, 38, 39, 40, 41, 42, 43, 44] (by decide +kernel) (by decide +kernel)
set_option maxRecDepth 20000 in
theorem gX5_givePapers_X5_asks : GoodIn wsX5_givePapers (wsV RX5 86 RX5 yX5_asks wsX5_asks) := goodIn_app (goodIn_of _ (by decide +kernel)) ggX5_givePapers_X5_asks
set_option maxRecDepth 20000 in
theorem ggX5_givePapers_X5_in : GoodIn wsX5_givePapers wsX5_in := goodIn_r _ [15] (by decide +kernel) (by decide +kernel)
set_option maxRecDepth 20000 in
theorem gX5_givePapers_X5_in : GoodIn wsX5_givePapers (va_wsS RX5 90 yX5_in wsX5_in) := goodIn_app (goodIn_of _ (by decide +kernel)) ggX5_givePapers_X5_in
set_option maxRecDepth 20000 in
theorem ggX5_givePapers_X5_fails : GoodIn wsX5_givePapers wsX5_fails := goodIn_r _ [19, 12, 20, 21, 22, 23, 24, 25, 26, 27, 28, 29, 30, 31, 32, 33, 34, 35, 36, 37, 38, 39, 40, 41, 42, 43, 44] (by decide +kernel) (by decide +kernel)
set_option maxRecDepth 20000 in
theorem gX5_givePapers_X5_fails : GoodIn wsX5_givePapers (wsV RX5 94 RX5 yX5_fails wsX5_fails) := goodIn_app (goodIn_of _ (by decide +kernel)) ggX5_givePapers_X5_fails
theorem dX5_givePapers_0 : decode cX5_givePapers 0 = .ok (.aload_n 0, 1) := by decide +kernel
theorem dX5_givePapers_1 : decode cX5_givePapers 1 = .ok (.iload_n 1, 1) := by decide +kernel
theorem dX5_givePapers_2 : decode cX5_givePapers 2 = .ok (.invokestatic 82, 3) := by decide +kernel
theorem dX5_givePapers_5 : decode cX5_givePapers 5 = .ok (.invokevirtual 86, 3) := by decide +kernel
theorem dX5_givePapers_8 : decode cX5_givePapers 8 = .ok (.ifCond .ne 5, 3) := by decide +kernel
theorem dX5_givePapers_11 : decode cX5_givePapers 11 = .ok (.iconst 0, 1) := by decide +kernel
theorem dX5_givePapers_12 : decode cX5_givePapers 12 = .ok (.ireturn, 1) := by decide +kernel
theorem dX5_givePapers_13 : decode cX5_givePapers 13 = .ok (.iload_n 2, 1) := by decide +kernel
theorem dX5_givePapers_14 : decode cX5_givePapers 14 = .ok (.iconst 1, 1) := by decide +kernel
theorem dX5_givePapers_15 : decode cX5_givePapers 15 = .ok (.sipush 1000, 3) := by decide +kernel
theorem dX5_givePapers_18 : decode cX5_givePapers 18 = .ok (.invokestatic 90, 3) := by decide +kernel
theorem dX5_givePapers_21 : decode cX5_givePapers 21 = .ok (.ifCond .ne 9, 3) := by decide +kernel
theorem dX5_givePapers_24 : decode cX5_givePapers 24 = .ok (.aload_n 0, 1) := by decide +kernel
theorem dX5_givePapers_25 : decode cX5_givePapers 25 = .ok (.iconst 2, 1) := by decide +kernel
theorem dX5_givePapers_26 : decode cX5_givePapers 26 = .ok (.invokevirtual 94, 3) := by decide +kernel
theorem dX5_givePapers_29 : decode cX5_givePapers 29 = .ok (.ireturn, 1) := by decide +kernel
theorem dX5_givePapers_30 : decode cX5_givePapers 30 = .ok (.aload_n 0, 1) := by decide +kernel
theorem dX5_givePapers_31 : decode cX5_givePapers 31 = .ok (.getfield 19, 3) := by decide +kernel
theorem dX5_givePapers_34 : decode cX5_givePapers 34 = .ok (.iload_n 1, 1) := by decide +kernel
theorem dX5_givePapers_35 : decode cX5_givePapers 35 = .ok (.baload, 1) := by decide +kernel
theorem dX5_givePapers_36 : decode cX5_givePapers 36 = .ok (.ifCond .ne 16, 3) := by decide +kernel
theorem dX5_givePapers_39 : decode cX5_givePapers 39 = .ok (.aload_n 0, 1) := by decide +kernel
theorem dX5_givePapers_40 : decode cX5_givePapers 40 = .ok (.getfield 16, 3) := by decide +kernel
theorem dX5_givePapers_43 : decode cX5_givePapers 43 = .ok (.iload_n 1, 1) := by decide +kernel
theorem dX5_givePapers_44 : decode cX5_givePapers 44 = .ok (.iaload, 1) := by decide +kernel
theorem dX5_givePapers_45 : decode cX5_givePapers 45 = .ok (.iload_n 2, 1) := by decide +kernel
theorem dX5_givePapers_46 : decode cX5_givePapers 46 = .ok (.iadd, 1) := by decide +kernel
theorem dX5_givePapers_47 : decode cX5_givePapers 47 = .ok (.ldc 100, 2) := by decide +kernel
theorem dX5_givePapers_49 : decode cX5_givePapers 49 = .ok (.if_icmp .le 9, 3) := by decide +kernel
theorem dX5_givePapers_52 : decode cX5_givePapers 52 = .ok (.aload_n 0, 1) := by decide +kernel
theorem dX5_givePapers_53 : decode cX5_givePapers 53 = .ok (.iconst 3, 1) := by decide +kernel
theorem dX5_givePapers_54 : decode cX5_givePapers 54 = .ok (.invokevirtual 94, 3) := by decide +kernel
theorem dX5_givePapers_57 : decode cX5_givePapers 57 = .ok (.ireturn, 1) := by decide +kernel
theorem dX5_givePapers_58 : decode cX5_givePapers 58 = .ok (.aload_n 0, 1) := by decide +kernel
theorem dX5_givePapers_59 : decode cX5_givePapers 59 = .ok (.getfield 16, 3) := by decide +kernel
theorem dX5_givePapers_62 : decode cX5_givePapers 62 = .ok (.iload_n 1, 1) := by decide +kernel
theorem dX5_givePapers_63 : decode cX5_givePapers 63 = .ok (.dup2, 1) := by decide +kernel
theorem dX5_givePapers_64 : decode cX5_givePapers 64 = .ok (.iaload, 1) := by decide +kernel
theorem dX5_givePapers_65 : decode cX5_givePapers 65 = .ok (.iload_n 2, 1) := by decide +kernel
theorem dX5_givePapers_66 : decode cX5_givePapers 66 = .ok (.iadd, 1) := by decide +kernel
theorem dX5_givePapers_67 : decode cX5_givePapers 67 = .ok (.iastore, 1) := by decide +kernel
theorem dX5_givePapers_68 : decode cX5_givePapers 68 = .ok (.aload_n 0, 1) := by decide +kernel
theorem dX5_givePapers_69 : decode cX5_givePapers 69 = .ok (.getfield 16, 3) := by decide +kernel
theorem dX5_givePapers_72 : decode cX5_givePapers 72 = .ok (.iload_n 1, 1) := by decide +kernel
theorem dX5_givePapers_73 : decode cX5_givePapers 73 = .ok (.iaload, 1) := by decide +kernel
theorem dX5_givePapers_74 : decode cX5_givePapers 74 = .ok (.ireturn, 1) := by decide +kernel
set_option maxRecDepth 20000 in
theorem ggX5_account_X5_isBank : GoodIn wsX5_account wsX5_isBank := goodIn_r _ [5] (by decide +kernel) (by decide +kernel)
set_option maxRecDepth 20000 in
theorem gX5_account_X5_isBank : GoodIn wsX5_account (va_wsS RX5 82 yX5_isBank wsX5_isBank) := goodIn_app (goodIn_of _ (by decide +kernel)) ggX5_account_X5_isBank
set_option maxRecDepth 20000 in
theorem ggX5_account_X5_asks : GoodIn wsX5_account wsX5_asks := goodIn_r _ [9, 10, 11, 12, 13, 14, 15, 16, 17, 18, 19, 20, 21, 22, 23, 24, 25, 26, 27, 28, 29, 30, 31, 32, 33, 34, 35] (by decide +kernel) (by decide +kernel)
set_option maxRecDepth 20000 in
theorem gX5_account_X5_asks : GoodIn wsX5_account (wsV RX5 86 RX5 yX5_asks wsX5_asks) := goodIn_app (goodIn_of _ (by decide +kernel)) ggX5_account_X5_asks
theorem dX5_account_0 : decode cX5_account 0 = .ok (.aload_n 0, 1) := by decide +kernel
theorem dX5_account_1 : decode cX5_account 1 = .ok (.iload_n 1, 1) := by decide +kernel
theorem dX5_account_2 : decode cX5_account 2 = .ok (.invokestatic 82, 3) := by decide +kernel
theorem dX5_account_5 : decode cX5_account 5 = .ok (.invokevirtual 86, 3) := by decide +kernel
theorem dX5_account_8 : decode cX5_account 8 = .ok (.ifCond .eq 12, 3) := by decide +kernel
theorem dX5_account_11 : decode cX5_account 11 = .ok (.aload_n 0, 1) := by decide +kernel
theorem dX5_account_12 : decode cX5_account 12 = .ok (.getfield 7, 3) := by decide +kernel
theorem dX5_account_15 : decode cX5_account 15 = .ok (.iload_n 1, 1) := by decide +kernel
theorem dX5_account_16 : decode cX5_account 16 = .ok (.iaload, 1) := by decide +kernel
theorem dX5_account_17 : decode cX5_account 17 = .ok (.goto 4, 3) := by decide +kernel
theorem dX5_account_20 : decode cX5_account 20 = .ok (.iconst 0, 1) := by decide +kernel
theorem dX5_account_21 : decode cX5_account 21 = .ok (.ireturn, 1) := by decide +kernel
set_option maxRecDepth 20000 in
theorem ggX5_papers_X5_isBank : GoodIn wsX5_papers wsX5_isBank := goodIn_r _ [5] (by decide +kernel) (by decide +kernel)
set_option maxRecDepth 20000 in
theorem gX5_papers_X5_isBank : GoodIn wsX5_papers (va_wsS RX5 82 yX5_isBank wsX5_isBank) := goodIn_app (goodIn_of _ (by decide +kernel)) ggX5_papers_X5_isBank
set_option maxRecDepth 20000 in
theorem ggX5_papers_X5_asks : GoodIn wsX5_papers wsX5_asks := goodIn_r _ [9, 10, 11, 12, 13, 14, 15, 16, 17, 18, 19, 20, 21, 22, 23, 24, 25, 26, 27, 28, 29, 30, 31, 32, 33, 34, 35] (by decide +kernel) (by decide +kernel)
set_option maxRecDepth 20000 in
theorem gX5_papers_X5_asks : GoodIn wsX5_papers (wsV RX5 86 RX5 yX5_asks wsX5_asks) := goodIn_app (goodIn_of _ (by decide +kernel)) ggX5_papers_X5_asks
theorem dX5_papers_0 : decode cX5_papers 0 = .ok (.aload_n 0, 1) := by decide +kernel
theorem dX5_papers_1 : decode cX5_papers 1 = .ok (.iload_n 1, 1) := by decide +kernel
theorem dX5_papers_2 : decode cX5_papers 2 = .ok (.invokestatic 82, 3) := by decide +kernel
theorem dX5_papers_5 : decode cX5_papers 5 = .ok (.invokevirtual 86, 3) := by decide +kernel
theorem dX5_papers_8 : decode cX5_papers 8 = .ok (.ifCond .eq 12, 3) := by decide +kernel
theorem dX5_papers_11 : decode cX5_papers 11 = .ok (.aload_n 0, 1) := by decide +kernel
theorem dX5_papers_12 : decode cX5_papers 12 = .ok (.getfield 16, 3) := by decide +kernel
theorem dX5_papers_15 : decode cX5_papers 15 = .ok (.iload_n 1, 1) := by decide +kernel
theorem dX5_papers_16 : decode cX5_papers 16 = .ok (.iaload, 1) := by decide +kernel
theorem dX5_papers_17 : decode cX5_papers 17 = .ok (.goto 4, 3) := by decide +kernel
theorem dX5_papers_20 : decode cX5_papers 20 = .ok (.iconst 0, 1) := by decide +kernel
theorem dX5_papers_21 : decode cX5_papers 21 = .ok (.ireturn, 1) := by decide +kernel
set_option maxRecDepth 20000 in
theorem ggX5_isOpen_X5_isBank : GoodIn wsX5_isOpen wsX5_isBank := goodIn_r _ [5] (by decide +kernel) (by decide +kernel)
set_option maxRecDepth 20000 in
theorem gX5_isOpen_X5_isBank : GoodIn wsX5_isOpen (va_wsS RX5 82 yX5_isBank wsX5_isBank) := goodIn_app (goodIn_of _ (by decide +kernel)) ggX5_isOpen_X5_isBank
set_option maxRecDepth 20000 in
theorem ggX5_isOpen_X5_asks : GoodIn wsX5_isOpen wsX5_asks := goodIn_r _ [9, 10, 11, 12, 13, 14, 15, 16, 17, 18, 19, 20, 21, 22, 23, 24, 25, 26, 27, 28, 29, 30, 31, 32, 33, 34, 35] (by decide +kernel) (by decide +kernel)
set_option maxRecDepth 20000 in
theorem gX5_isOpen_X5_asks : GoodIn wsX5_isOpen (wsV RX5 86 RX5 yX5_asks wsX5_asks) := goodIn_app (goodIn_of _ (by decide +kernel)) ggX5_isOpen_X5_asks
theorem dX5_isOpen_0 : decode cX5_isOpen 0 = .ok (.aload_n 0, 1) := by decide +kernel
theorem dX5_isOpen_1 : decode cX5_isOpen 1 = .ok (.iload_n 1, 1) := by decide +kernel
theorem dX5_isOpen_2 : decode cX5_isOpen 2 = .ok (.invokestatic 82, 3) := by decide +kernel
theorem dX5_isOpen_5 : decode cX5_isOpen 5 = .ok (.invokevirtual 86, 3) := by decide +kernel
theorem dX5_isOpen_8 : decode cX5_isOpen 8 = .ok (.ifCond .eq 16, 3) := by decide +kernel
theorem dX5_isOpen_11 : decode cX5_isOpen 11 = .ok (.aload_n 0, 1) := by decide +kernel
theorem dX5_isOpen_12 : decode cX5_isOpen 12 = .ok (.getfield 19, 3) := by decide +kernel
theorem dX5_isOpen_15 : decode cX5_isOpen 15 = .ok (.iload_n 1, 1) := by decide +kernel
theorem dX5_isOpen_16 : decode cX5_isOpen 16 = .ok (.baload, 1) := by decide +kernel
theorem dX5_isOpen_17 : decode cX5_isOpen 17 = .ok (.ifCond .ne 7, 3) := by decide +kernel
theorem dX5_isOpen_20 : decode cX5_isOpen 20 = .ok (.iconst 1, 1) := by decide +kernel
theorem dX5_isOpen_21 : decode cX5_isOpen 21 = .ok (.goto 4, 3) := by decide +kernel
theorem dX5_isOpen_24 : decode cX5_isOpen 24 = .ok (.iconst 0, 1) := by decide +kernel
theorem dX5_isOpen_25 : decode cX5_isOpen 25 = .ok (.ireturn, 1) := by decide +kernel
set_option maxRecDepth 20000 in
theorem ggX5_paid_X5_isBank : GoodIn wsX5_paid wsX5_isBank := goodIn_r _ [5] (by decide +kernel) (by decide +kernel)
set_option maxRecDepth 20000 in
theorem gX5_paid_X5_isBank : GoodIn wsX5_paid (va_wsS RX5 82 yX5_isBank wsX5_isBank) := goodIn_app (goodIn_of _ (by decide +kernel)) ggX5_paid_X5_isBank
set_option maxRecDepth 20000 in
theorem ggX5_paid_X5_asks : GoodIn wsX5_paid wsX5_asks := goodIn_r _ [9, 10, 11, 12, 13, 14, 15, 16, 17, 18, 19, 20, 21, 22, 23, 24, 25, 26, 27, 28, 29, 30, 31, 32, 33, 34, 35] (by decide +kernel) (by decide +kernel)
set_option maxRecDepth 20000 in
theorem gX5_paid_X5_asks : GoodIn wsX5_paid (wsV RX5 86 RX5 yX5_asks wsX5_asks) := goodIn_app (goodIn_of _ (by decide +kernel)) ggX5_paid_X5_asks
theorem dX5_paid_0 : decode cX5_paid 0 = .ok (.aload_n 0, 1) := by decide +kernel
theorem dX5_paid_1 : decode cX5_paid 1 = .ok (.iload_n 1, 1) := by decide +kernel
theorem dX5_paid_2 : decode cX5_paid 2 = .ok (.invokestatic 82, 3) := by decide +kernel
theorem dX5_paid_5 : decode cX5_paid 5 = .ok (.ifCond .eq 14, 3) := by decide +kernel
theorem dX5_paid_8 : decode cX5_paid 8 = .ok (.iload_n 2, 1) := by decide +kernel
theorem dX5_paid_9 : decode cX5_paid 9 = .ok (.invokestatic 82, 3) := by decide +kernel
theorem dX5_paid_12 : decode cX5_paid 12 = .ok (.ifCond .eq 7, 3) := by decide +kernel
theorem dX5_paid_15 : decode cX5_paid 15 = .ok (.iconst 1, 1) := by decide +kernel
theorem dX5_paid_16 : decode cX5_paid 16 = .ok (.goto 4, 3) := by decide +kernel
theorem dX5_paid_19 : decode cX5_paid 19 = .ok (.iconst 0, 1) := by decide +kernel
theorem dX5_paid_20 : decode cX5_paid 20 = .ok (.invokevirtual 86, 3) := by decide +kernel
theorem dX5_paid_23 : decode cX5_paid 23 = .ok (.ifCond .eq 16, 3) := by decide +kernel
theorem dX5_paid_26 : decode cX5_paid 26 = .ok (.aload_n 0, 1) := by decide +kernel
theorem dX5_paid_27 : decode cX5_paid 27 = .ok (.getfield 23, 3) := by decide +kernel
theorem dX5_paid_30 : decode cX5_paid 30 = .ok (.iconst 5, 1) := by decide +kernel
theorem dX5_paid_31 : decode cX5_paid 31 = .ok (.iload_n 1, 1) := by decide +kernel
theorem dX5_paid_32 : decode cX5_paid 32 = .ok (.imul, 1) := by decide +kernel
theorem dX5_paid_33 : decode cX5_paid 33 = .ok (.iload_n 2, 1) := by decide +kernel
theorem dX5_paid_34 : decode cX5_paid 34 = .ok (.iadd, 1) := by decide +kernel
theorem dX5_paid_35 : decode cX5_paid 35 = .ok (.iaload, 1) := by decide +kernel
theorem dX5_paid_36 : decode cX5_paid 36 = .ok (.goto 4, 3) := by decide +kernel
theorem dX5_paid_39 : decode cX5_paid 39 = .ok (.iconst 0, 1) := by decide +kernel
theorem dX5_paid_40 : decode cX5_paid 40 = .ok (.ireturn, 1) := by decide +kernel
set_option maxRecDepth 20000 in
theorem ggX5_pay_X5_isBank : GoodIn wsX5_pay wsX5_isBank := goodIn_r _ [12] (by decide +kernel) (by decide +kernel)
set_option maxRecDepth 20000 in
theorem gX5_pay_X5_isBank : GoodIn wsX5_pay (va_wsS RX5 82 yX5_isBank wsX5_isBank) := goodIn_app (goodIn_of _ (by decide +kernel)) ggX5_pay_X5_isBank
set_option maxRecDepth 20000 in
theorem ggX5_pay_X5_asks : GoodIn wsX5_pay wsX5_asks := goodIn_r _ [16, 17, 25, 26, 27, 28, 29, 30, 31, 32, 33, 34, 35, 36, 37, 38, 39, 40, 41, 42, 43, 44, 45, 46, 47, 48, 49] (by decide +kernel) (by decide +kernel)
set_option maxRecDepth 20000 in
theorem gX5_pay_X5_asks : GoodIn wsX5_pay (wsV RX5 86 RX5 yX5_asks wsX5_asks) := goodIn_app (goodIn_of _ (by decide +kernel)) ggX5_pay_X5_asks
set_option maxRecDepth 20000 in
theorem ggX5_pay_X5_in : GoodIn wsX5_pay wsX5_in := goodIn_r _ [20] (by decide +kernel) (by decide +kernel)
set_option maxRecDepth 20000 in
theorem gX5_pay_X5_in : GoodIn wsX5_pay (va_wsS RX5 90 yX5_in wsX5_in) := goodIn_app (goodIn_of _ (by decide +kernel)) ggX5_pay_X5_in
set_option maxRecDepth 20000 in
theorem ggX5_pay_X5_fails : GoodIn wsX5_pay wsX5_fails := goodIn_r _ [24, 17, 25, 26, 27, 28, 29, 30, 31, 32, 33, 34, 35, 36, 37, 38, 39, 40, 41, 42, 43, 44, 45, 46, 47, 48, 49] (by decide +kernel) (by decide +kernel)
set_option maxRecDepth 20000 in
theorem gX5_pay_X5_fails : GoodIn wsX5_pay (wsV RX5 94 RX5 yX5_fails wsX5_fails) := goodIn_app (goodIn_of _ (by decide +kernel)) ggX5_pay_X5_fails
theorem dX5_pay_0 : decode cX5_pay 0 = .ok (.aload_n 0, 1) := by decide +kernel
theorem dX5_pay_1 : decode cX5_pay 1 = .ok (.iload_n 1, 1) := by decide +kernel
theorem dX5_pay_2 : decode cX5_pay 2 = .ok (.invokestatic 82, 3) := by decide +kernel
theorem dX5_pay_5 : decode cX5_pay 5 = .ok (.ifCond .eq 14, 3) := by decide +kernel
theorem dX5_pay_8 : decode cX5_pay 8 = .ok (.iload_n 2, 1) := by decide +kernel
theorem dX5_pay_9 : decode cX5_pay 9 = .ok (.invokestatic 82, 3) := by decide +kernel
theorem dX5_pay_12 : decode cX5_pay 12 = .ok (.ifCond .eq 7, 3) := by decide +kernel
theorem dX5_pay_15 : decode cX5_pay 15 = .ok (.iconst 1, 1) := by decide +kernel
theorem dX5_pay_16 : decode cX5_pay 16 = .ok (.goto 4, 3) := by decide +kernel
theorem dX5_pay_19 : decode cX5_pay 19 = .ok (.iconst 0, 1) := by decide +kernel
theorem dX5_pay_20 : decode cX5_pay 20 = .ok (.invokevirtual 86, 3) := by decide +kernel
theorem dX5_pay_23 : decode cX5_pay 23 = .ok (.ifCond .ne 5, 3) := by decide +kernel
theorem dX5_pay_26 : decode cX5_pay 26 = .ok (.iconst 0, 1) := by decide +kernel
theorem dX5_pay_27 : decode cX5_pay 27 = .ok (.ireturn, 1) := by decide +kernel
theorem dX5_pay_28 : decode cX5_pay 28 = .ok (.iload_n 1, 1) := by decide +kernel
theorem dX5_pay_29 : decode cX5_pay 29 = .ok (.iload_n 2, 1) := by decide +kernel
theorem dX5_pay_30 : decode cX5_pay 30 = .ok (.if_icmp .eq 23, 3) := by decide +kernel
theorem dX5_pay_33 : decode cX5_pay 33 = .ok (.iload_n 3, 1) := by decide +kernel
theorem dX5_pay_34 : decode cX5_pay 34 = .ok (.iconst 1, 1) := by decide +kernel
theorem dX5_pay_35 : decode cX5_pay 35 = .ok (.ldc 100, 2) := by decide +kernel
theorem dX5_pay_37 : decode cX5_pay 37 = .ok (.invokestatic 90, 3) := by decide +kernel
theorem dX5_pay_40 : decode cX5_pay 40 = .ok (.ifCond .eq 13, 3) := by decide +kernel
theorem dX5_pay_43 : decode cX5_pay 43 = .ok (.iload 4, 2) := by decide +kernel
theorem dX5_pay_45 : decode cX5_pay 45 = .ok (.iconst 0, 1) := by decide +kernel
theorem dX5_pay_46 : decode cX5_pay 46 = .ok (.iconst 2, 1) := by decide +kernel
theorem dX5_pay_47 : decode cX5_pay 47 = .ok (.invokestatic 90, 3) := by decide +kernel
theorem dX5_pay_50 : decode cX5_pay 50 = .ok (.ifCond .ne 9, 3) := by decide +kernel
theorem dX5_pay_53 : decode cX5_pay 53 = .ok (.aload_n 0, 1) := by decide +kernel
theorem dX5_pay_54 : decode cX5_pay 54 = .ok (.iconst 2, 1) := by decide +kernel
theorem dX5_pay_55 : decode cX5_pay 55 = .ok (.invokevirtual 94, 3) := by decide +kernel
theorem dX5_pay_58 : decode cX5_pay 58 = .ok (.ireturn, 1) := by decide +kernel
theorem dX5_pay_59 : decode cX5_pay 59 = .ok (.aload_n 0, 1) := by decide +kernel
theorem dX5_pay_60 : decode cX5_pay 60 = .ok (.getfield 19, 3) := by decide +kernel
theorem dX5_pay_63 : decode cX5_pay 63 = .ok (.iload_n 1, 1) := by decide +kernel
theorem dX5_pay_64 : decode cX5_pay 64 = .ok (.baload, 1) := by decide +kernel
theorem dX5_pay_65 : decode cX5_pay 65 = .ok (.ifCond .ne 21, 3) := by decide +kernel
theorem dX5_pay_68 : decode cX5_pay 68 = .ok (.aload_n 0, 1) := by decide +kernel
theorem dX5_pay_69 : decode cX5_pay 69 = .ok (.getfield 19, 3) := by decide +kernel
theorem dX5_pay_72 : decode cX5_pay 72 = .ok (.iload_n 2, 1) := by decide +kernel
theorem dX5_pay_73 : decode cX5_pay 73 = .ok (.baload, 1) := by decide +kernel
theorem dX5_pay_74 : decode cX5_pay 74 = .ok (.ifCond .ne 12, 3) := by decide +kernel
theorem dX5_pay_77 : decode cX5_pay 77 = .ok (.aload_n 0, 1) := by decide +kernel
theorem dX5_pay_78 : decode cX5_pay 78 = .ok (.getfield 79, 3) := by decide +kernel
theorem dX5_pay_81 : decode cX5_pay 81 = .ok (.bipush 60, 2) := by decide +kernel
theorem dX5_pay_83 : decode cX5_pay 83 = .ok (.if_icmp .ne 9, 3) := by decide +kernel
theorem dX5_pay_86 : decode cX5_pay 86 = .ok (.aload_n 0, 1) := by decide +kernel
theorem dX5_pay_87 : decode cX5_pay 87 = .ok (.iconst 3, 1) := by decide +kernel
theorem dX5_pay_88 : decode cX5_pay 88 = .ok (.invokevirtual 94, 3) := by decide +kernel
theorem dX5_pay_91 : decode cX5_pay 91 = .ok (.ireturn, 1) := by decide +kernel
theorem dX5_pay_92 : decode cX5_pay 92 = .ok (.aload_n 0, 1) := by decide +kernel
theorem dX5_pay_93 : decode cX5_pay 93 = .ok (.getfield 29, 3) := by decide +kernel
theorem dX5_pay_96 : decode cX5_pay 96 = .ok (.aload_n 0, 1) := by decide +kernel
theorem dX5_pay_97 : decode cX5_pay 97 = .ok (.getfield 79, 3) := by decide +kernel
theorem dX5_pay_100 : decode cX5_pay 100 = .ok (.iload_n 1, 1) := by decide +kernel
theorem dX5_pay_101 : decode cX5_pay 101 = .ok (.iastore, 1) := by decide +kernel
theorem dX5_pay_102 : decode cX5_pay 102 = .ok (.aload_n 0, 1) := by decide +kernel
theorem dX5_pay_103 : decode cX5_pay 103 = .ok (.getfield 32, 3) := by decide +kernel
theorem dX5_pay_106 : decode cX5_pay 106 = .ok (.aload_n 0, 1) := by decide +kernel
theorem dX5_pay_107 : decode cX5_pay 107 = .ok (.getfield 79, 3) := by decide +kernel
theorem dX5_pay_110 : decode cX5_pay 110 = .ok (.iload_n 2, 1) := by decide +kernel
theorem dX5_pay_111 : decode cX5_pay 111 = .ok (.iastore, 1) := by decide +kernel
theorem dX5_pay_112 : decode cX5_pay 112 = .ok (.aload_n 0, 1) := by decide +kernel
theorem dX5_pay_113 : decode cX5_pay 113 = .ok (.getfield 35, 3) := by decide +kernel
theorem dX5_pay_116 : decode cX5_pay 116 = .ok (.aload_n 0, 1) := by decide +kernel
theorem dX5_pay_117 : decode cX5_pay 117 = .ok (.getfield 79, 3) := by decide +kernel
theorem dX5_pay_120 : decode cX5_pay 120 = .ok (.iload_n 3, 1) := by decide +kernel
theorem dX5_pay_121 : decode cX5_pay 121 = .ok (.iastore, 1) := by decide +kernel
theorem dX5_pay_122 : decode cX5_pay 122 = .ok (.aload_n 0, 1) := by decide +kernel
theorem dX5_pay_123 : decode cX5_pay 123 = .ok (.getfield 38, 3) := by decide +kernel
theorem dX5_pay_126 : decode cX5_pay 126 = .ok (.aload_n 0, 1) := by decide +kernel
theorem dX5_pay_127 : decode cX5_pay 127 = .ok (.getfield 79, 3) := by decide +kernel
theorem dX5_pay_130 : decode cX5_pay 130 = .ok (.iload 4, 2) := by decide +kernel
theorem dX5_pay_132 : decode cX5_pay 132 = .ok (.iastore, 1) := by decide +kernel
theorem dX5_pay_133 : decode cX5_pay 133 = .ok (.aload_n 0, 1) := by decide +kernel
theorem dX5_pay_134 : decode cX5_pay 134 = .ok (.getfield 41, 3) := by decide +kernel
theorem dX5_pay_137 : decode cX5_pay 137 = .ok (.aload_n 0, 1) := by decide +kernel
theorem dX5_pay_138 : decode cX5_pay 138 = .ok (.getfield 79, 3) := by decide +kernel
theorem dX5_pay_141 : decode cX5_pay 141 = .ok (.iconst 1, 1) := by decide +kernel
theorem dX5_pay_142 : decode cX5_pay 142 = .ok (.bastore, 1) := by decide +kernel
theorem dX5_pay_143 : decode cX5_pay 143 = .ok (.aload_n 0, 1) := by decide +kernel
theorem dX5_pay_144 : decode cX5_pay 144 = .ok (.dup, 1) := by decide +kernel
theorem dX5_pay_145 : decode cX5_pay 145 = .ok (.getfield 79, 3) := by decide +kernel
theorem dX5_pay_148 : decode cX5_pay 148 = .ok (.iconst 1, 1) := by decide +kernel
theorem dX5_pay_149 : decode cX5_pay 149 = .ok (.iadd, 1) := by decide +kernel
theorem dX5_pay_150 : decode cX5_pay 150 = .ok (.putfield 79, 3) := by decide +kernel
theorem dX5_pay_153 : decode cX5_pay 153 = .ok (.aload_n 0, 1) := by decide +kernel
theorem dX5_pay_154 : decode cX5_pay 154 = .ok (.getfield 79, 3) := by decide +kernel
theorem dX5_pay_157 : decode cX5_pay 157 = .ok (.iconst 1, 1) := by decide +kernel
theorem dX5_pay_158 : decode cX5_pay 158 = .ok (.isub, 1) := by decide +kernel
theorem dX5_pay_159 : decode cX5_pay 159 = .ok (.ireturn, 1) := by decide +kernel
theorem dX5_waiting_0 : decode cX5_waiting 0 = .ok (.iconst 0, 1) := by decide +kernel
theorem dX5_waiting_1 : decode cX5_waiting 1 = .ok (.istore_n 1, 1) := by decide +kernel
theorem dX5_waiting_2 : decode cX5_waiting 2 = .ok (.iconst 0, 1) := by decide +kernel
theorem dX5_waiting_3 : decode cX5_waiting 3 = .ok (.istore_n 2, 1) := by decide +kernel
theorem dX5_waiting_4 : decode cX5_waiting 4 = .ok (.iload_n 2, 1) := by decide +kernel
theorem dX5_waiting_5 : decode cX5_waiting 5 = .ok (.aload_n 0, 1) := by decide +kernel
theorem dX5_waiting_6 : decode cX5_waiting 6 = .ok (.getfield 79, 3) := by decide +kernel
theorem dX5_waiting_9 : decode cX5_waiting 9 = .ok (.if_icmp .ge 26, 3) := by decide +kernel
theorem dX5_waiting_12 : decode cX5_waiting 12 = .ok (.iload_n 1, 1) := by decide +kernel
theorem dX5_waiting_13 : decode cX5_waiting 13 = .ok (.aload_n 0, 1) := by decide +kernel
theorem dX5_waiting_14 : decode cX5_waiting 14 = .ok (.getfield 41, 3) := by decide +kernel
theorem dX5_waiting_17 : decode cX5_waiting 17 = .ok (.iload_n 2, 1) := by decide +kernel
theorem dX5_waiting_18 : decode cX5_waiting 18 = .ok (.baload, 1) := by decide +kernel
theorem dX5_waiting_19 : decode cX5_waiting 19 = .ok (.ifCond .eq 7, 3) := by decide +kernel
theorem dX5_waiting_22 : decode cX5_waiting 22 = .ok (.iconst 1, 1) := by decide +kernel
theorem dX5_waiting_23 : decode cX5_waiting 23 = .ok (.goto 4, 3) := by decide +kernel
theorem dX5_waiting_26 : decode cX5_waiting 26 = .ok (.iconst 0, 1) := by decide +kernel
theorem dX5_waiting_27 : decode cX5_waiting 27 = .ok (.iadd, 1) := by decide +kernel
theorem dX5_waiting_28 : decode cX5_waiting 28 = .ok (.istore_n 1, 1) := by decide +kernel
theorem dX5_waiting_29 : decode cX5_waiting 29 = .ok (.iinc 2 1, 3) := by decide +kernel
theorem dX5_waiting_32 : decode cX5_waiting 32 = .ok (.goto (-28), 3) := by decide +kernel
theorem dX5_waiting_35 : decode cX5_waiting 35 = .ok (.iload_n 1, 1) := by decide +kernel
theorem dX5_waiting_36 : decode cX5_waiting 36 = .ok (.ireturn, 1) := by decide +kernel
set_option maxRecDepth 20000 in
theorem ggX5_drop_X5_isPayment : GoodIn wsX5_drop wsX5_isPayment := goodIn_r _ [6, 7, 21, 22, 23, 24, 25, 26, 27, 28, 29, 30, 31, 32, 33, 34, 35, 36, 37, 38, 39, 40, 41, 42, 43, 44, 45] (by decide +kernel) (by decide +kernel)
set_option maxRecDepth 20000 in
theorem gX5_drop_X5_isPayment : GoodIn wsX5_drop (wsV RX5 101 RX5 yX5_isPayment wsX5_isPayment) := goodIn_app (goodIn_of _ (by decide +kernel)) ggX5_drop_X5_isPayment
set_option maxRecDepth 20000 in
theorem ggX5_drop_X5_asks : GoodIn wsX5_drop wsX5_asks := goodIn_r _ [11, 12, 21, 22, 23, 24, 25, 26, 27, 28, 29, 30, 31, 32, 33, 34, 35, 36, 37, 38, 39, 40, 41, 42, 43, 44, 45] (by decide +kernel) (by decide +kernel)
set_option maxRecDepth 20000 in
theorem gX5_drop_X5_asks : GoodIn wsX5_drop (wsV RX5 86 RX5 yX5_asks wsX5_asks) := goodIn_app (goodIn_of _ (by decide +kernel)) ggX5_drop_X5_asks
set_option maxRecDepth 20000 in
theorem ggX5_drop_X5_fails : GoodIn wsX5_drop wsX5_fails := goodIn_r _ [16, 12, 21, 22, 23, 24, 25, 26, 27, 28, 29, 30, 31, 32, 33, 34, 35, 36, 37, 38, 39, 40, 41, 42, 43, 44, 45] (by decide +kernel) (by decide +kernel)
set_option maxRecDepth 20000 in
theorem gX5_drop_X5_fails : GoodIn wsX5_drop (wsV RX5 94 RX5 yX5_fails wsX5_fails) := goodIn_app (goodIn_of _ (by decide +kernel)) ggX5_drop_X5_fails
set_option maxRecDepth 20000 in
theorem ggX5_drop_X5_waiting : GoodIn wsX5_drop wsX5_waiting := goodIn_r _ [20, 7, 1, 21, 22, 23, 24, 25, 26, 27, 28, 29, 30, 31, 32, 33, 34, 35, 36, 37, 38, 39, 40, 41, 42, 43, 44, 45] (by decide +kernel) (by decide +kernel)
set_option maxRecDepth 20000 in
theorem gX5_drop_X5_waiting : GoodIn wsX5_drop (wsV RX5 104 RX5 yX5_waiting wsX5_waiting) := goodIn_app (goodIn_of _ (by decide +kernel)) ggX5_drop_X5_waiting
theorem dX5_drop_0 : decode cX5_drop 0 = .ok (.aload_n 0, 1) := by decide +kernel
theorem dX5_drop_1 : decode cX5_drop 1 = .ok (.aload_n 0, 1) := by decide +kernel
theorem dX5_drop_2 : decode cX5_drop 2 = .ok (.iload_n 1, 1) := by decide +kernel
theorem dX5_drop_3 : decode cX5_drop 3 = .ok (.invokevirtual 101, 3) := by decide +kernel
theorem dX5_drop_6 : decode cX5_drop 6 = .ok (.invokevirtual 86, 3) := by decide +kernel
theorem dX5_drop_9 : decode cX5_drop 9 = .ok (.ifCond .ne 5, 3) := by decide +kernel
theorem dX5_drop_12 : decode cX5_drop 12 = .ok (.iconst 0, 1) := by decide +kernel
theorem dX5_drop_13 : decode cX5_drop 13 = .ok (.ireturn, 1) := by decide +kernel
theorem dX5_drop_14 : decode cX5_drop 14 = .ok (.aload_n 0, 1) := by decide +kernel
theorem dX5_drop_15 : decode cX5_drop 15 = .ok (.getfield 41, 3) := by decide +kernel
theorem dX5_drop_18 : decode cX5_drop 18 = .ok (.iload_n 1, 1) := by decide +kernel
theorem dX5_drop_19 : decode cX5_drop 19 = .ok (.baload, 1) := by decide +kernel
theorem dX5_drop_20 : decode cX5_drop 20 = .ok (.ifCond .ne 9, 3) := by decide +kernel
theorem dX5_drop_23 : decode cX5_drop 23 = .ok (.aload_n 0, 1) := by decide +kernel
theorem dX5_drop_24 : decode cX5_drop 24 = .ok (.iconst 2, 1) := by decide +kernel
theorem dX5_drop_25 : decode cX5_drop 25 = .ok (.invokevirtual 94, 3) := by decide +kernel
theorem dX5_drop_28 : decode cX5_drop 28 = .ok (.ireturn, 1) := by decide +kernel
theorem dX5_drop_29 : decode cX5_drop 29 = .ok (.aload_n 0, 1) := by decide +kernel
theorem dX5_drop_30 : decode cX5_drop 30 = .ok (.getfield 41, 3) := by decide +kernel
theorem dX5_drop_33 : decode cX5_drop 33 = .ok (.iload_n 1, 1) := by decide +kernel
theorem dX5_drop_34 : decode cX5_drop 34 = .ok (.iconst 0, 1) := by decide +kernel
theorem dX5_drop_35 : decode cX5_drop 35 = .ok (.bastore, 1) := by decide +kernel
theorem dX5_drop_36 : decode cX5_drop 36 = .ok (.aload_n 0, 1) := by decide +kernel
theorem dX5_drop_37 : decode cX5_drop 37 = .ok (.invokevirtual 104, 3) := by decide +kernel
theorem dX5_drop_40 : decode cX5_drop 40 = .ok (.ireturn, 1) := by decide +kernel
set_option maxRecDepth 20000 in
theorem ggX5_setSmall_X5_in : GoodIn wsX5_setSmall wsX5_in := goodIn_r _ [6] (by decide +kernel) (by decide +kernel)
set_option maxRecDepth 20000 in
theorem gX5_setSmall_X5_in : GoodIn wsX5_setSmall (va_wsS RX5 90 yX5_in wsX5_in) := goodIn_app (goodIn_of _ (by decide +kernel)) ggX5_setSmall_X5_in
set_option maxRecDepth 20000 in
theorem ggX5_setSmall_X5_asks : GoodIn wsX5_setSmall wsX5_asks := goodIn_r _ [10, 11, 12, 13, 14, 15, 16, 17, 18, 19, 20, 21, 22, 23, 24, 25, 26, 27, 28, 29, 30, 31, 32, 33, 34, 35, 36] (by decide +kernel) (by decide +kernel)
set_option maxRecDepth 20000 in
theorem gX5_setSmall_X5_asks : GoodIn wsX5_setSmall (wsV RX5 86 RX5 yX5_asks wsX5_asks) := goodIn_app (goodIn_of _ (by decide +kernel)) ggX5_setSmall_X5_asks
theorem dX5_setSmall_0 : decode cX5_setSmall 0 = .ok (.aload_n 0, 1) := by decide +kernel
theorem dX5_setSmall_1 : decode cX5_setSmall 1 = .ok (.iload_n 1, 1) := by decide +kernel
theorem dX5_setSmall_2 : decode cX5_setSmall 2 = .ok (.iconst 0, 1) := by decide +kernel
theorem dX5_setSmall_3 : decode cX5_setSmall 3 = .ok (.ldc 100, 2) := by decide +kernel
theorem dX5_setSmall_5 : decode cX5_setSmall 5 = .ok (.invokestatic 90, 3) := by decide +kernel
theorem dX5_setSmall_8 : decode cX5_setSmall 8 = .ok (.invokevirtual 86, 3) := by decide +kernel
theorem dX5_setSmall_11 : decode cX5_setSmall 11 = .ok (.ifCond .ne 5, 3) := by decide +kernel
theorem dX5_setSmall_14 : decode cX5_setSmall 14 = .ok (.iconst 0, 1) := by decide +kernel
theorem dX5_setSmall_15 : decode cX5_setSmall 15 = .ok (.ireturn, 1) := by decide +kernel
theorem dX5_setSmall_16 : decode cX5_setSmall 16 = .ok (.aload_n 0, 1) := by decide +kernel
theorem dX5_setSmall_17 : decode cX5_setSmall 17 = .ok (.getfield 44, 3) := by decide +kernel
theorem dX5_setSmall_20 : decode cX5_setSmall 20 = .ok (.istore_n 2, 1) := by decide +kernel
theorem dX5_setSmall_21 : decode cX5_setSmall 21 = .ok (.aload_n 0, 1) := by decide +kernel
theorem dX5_setSmall_22 : decode cX5_setSmall 22 = .ok (.iload_n 1, 1) := by decide +kernel
theorem dX5_setSmall_23 : decode cX5_setSmall 23 = .ok (.putfield 44, 3) := by decide +kernel
theorem dX5_setSmall_26 : decode cX5_setSmall 26 = .ok (.iload_n 2, 1) := by decide +kernel
theorem dX5_setSmall_27 : decode cX5_setSmall 27 = .ok (.ireturn, 1) := by decide +kernel
theorem dX5_at_0 : decode cX5_at 0 = .ok (.iconst 0, 1) := by decide +kernel
theorem dX5_at_1 : decode cX5_at 1 = .ok (.istore_n 3, 1) := by decide +kernel
theorem dX5_at_2 : decode cX5_at 2 = .ok (.iconst 2, 1) := by decide +kernel
theorem dX5_at_3 : decode cX5_at 3 = .ok (.istore 4, 2) := by decide +kernel
theorem dX5_at_5 : decode cX5_at 5 = .ok (.iload 4, 2) := by decide +kernel
theorem dX5_at_7 : decode cX5_at 7 = .ok (.ifCond .lt 71, 3) := by decide +kernel
theorem dX5_at_10 : decode cX5_at 10 = .ok (.iconst 0, 1) := by decide +kernel
theorem dX5_at_11 : decode cX5_at 11 = .ok (.istore 5, 2) := by decide +kernel
theorem dX5_at_13 : decode cX5_at 13 = .ok (.iload 5, 2) := by decide +kernel
theorem dX5_at_15 : decode cX5_at 15 = .ok (.aload_n 0, 1) := by decide +kernel
theorem dX5_at_16 : decode cX5_at 16 = .ok (.getfield 79, 3) := by decide +kernel
theorem dX5_at_19 : decode cX5_at 19 = .ok (.if_icmp .ge 53, 3) := by decide +kernel
theorem dX5_at_22 : decode cX5_at 22 = .ok (.aload_n 0, 1) := by decide +kernel
theorem dX5_at_23 : decode cX5_at 23 = .ok (.getfield 41, 3) := by decide +kernel
theorem dX5_at_26 : decode cX5_at 26 = .ok (.iload 5, 2) := by decide +kernel
theorem dX5_at_28 : decode cX5_at 28 = .ok (.baload, 1) := by decide +kernel
theorem dX5_at_29 : decode cX5_at 29 = .ok (.ifCond .eq 37, 3) := by decide +kernel
theorem dX5_at_32 : decode cX5_at 32 = .ok (.aload_n 0, 1) := by decide +kernel
theorem dX5_at_33 : decode cX5_at 33 = .ok (.getfield 29, 3) := by decide +kernel
theorem dX5_at_36 : decode cX5_at 36 = .ok (.iload 5, 2) := by decide +kernel
theorem dX5_at_38 : decode cX5_at 38 = .ok (.iaload, 1) := by decide +kernel
theorem dX5_at_39 : decode cX5_at 39 = .ok (.iload_n 1, 1) := by decide +kernel
theorem dX5_at_40 : decode cX5_at 40 = .ok (.if_icmp .ne 26, 3) := by decide +kernel
theorem dX5_at_43 : decode cX5_at 43 = .ok (.aload_n 0, 1) := by decide +kernel
theorem dX5_at_44 : decode cX5_at 44 = .ok (.getfield 38, 3) := by decide +kernel
theorem dX5_at_47 : decode cX5_at 47 = .ok (.iload 5, 2) := by decide +kernel
theorem dX5_at_49 : decode cX5_at 49 = .ok (.iaload, 1) := by decide +kernel
theorem dX5_at_50 : decode cX5_at 50 = .ok (.iload 4, 2) := by decide +kernel
theorem dX5_at_52 : decode cX5_at 52 = .ok (.if_icmp .ne 14, 3) := by decide +kernel
theorem dX5_at_55 : decode cX5_at 55 = .ok (.iload_n 3, 1) := by decide +kernel
theorem dX5_at_56 : decode cX5_at 56 = .ok (.iload_n 2, 1) := by decide +kernel
theorem dX5_at_57 : decode cX5_at 57 = .ok (.if_icmp .ne 6, 3) := by decide +kernel
theorem dX5_at_60 : decode cX5_at 60 = .ok (.iload 5, 2) := by decide +kernel
theorem dX5_at_62 : decode cX5_at 62 = .ok (.ireturn, 1) := by decide +kernel
theorem dX5_at_63 : decode cX5_at 63 = .ok (.iinc 3 1, 3) := by decide +kernel
theorem dX5_at_66 : decode cX5_at 66 = .ok (.iinc 5 1, 3) := by decide +kernel
theorem dX5_at_69 : decode cX5_at 69 = .ok (.goto (-56), 3) := by decide +kernel
theorem dX5_at_72 : decode cX5_at 72 = .ok (.iinc 4 (-1), 3) := by decide +kernel
theorem dX5_at_75 : decode cX5_at 75 = .ok (.goto (-70), 3) := by decide +kernel
theorem dX5_at_78 : decode cX5_at 78 = .ok (.iconst (-1), 1) := by decide +kernel
theorem dX5_at_79 : decode cX5_at 79 = .ok (.ireturn, 1) := by decide +kernel
theorem dX5_reason_0 : decode cX5_reason 0 = .ok (.aload_n 0, 1) := by decide +kernel
theorem dX5_reason_1 : decode cX5_reason 1 = .ok (.getfield 29, 3) := by decide +kernel
theorem dX5_reason_4 : decode cX5_reason 4 = .ok (.iload_n 1, 1) := by decide +kernel
theorem dX5_reason_5 : decode cX5_reason 5 = .ok (.iaload, 1) := by decide +kernel
theorem dX5_reason_6 : decode cX5_reason 6 = .ok (.istore_n 2, 1) := by decide +kernel
theorem dX5_reason_7 : decode cX5_reason 7 = .ok (.iconst 5, 1) := by decide +kernel
theorem dX5_reason_8 : decode cX5_reason 8 = .ok (.iload_n 2, 1) := by decide +kernel
theorem dX5_reason_9 : decode cX5_reason 9 = .ok (.imul, 1) := by decide +kernel
theorem dX5_reason_10 : decode cX5_reason 10 = .ok (.aload_n 0, 1) := by decide +kernel
theorem dX5_reason_11 : decode cX5_reason 11 = .ok (.getfield 32, 3) := by decide +kernel
theorem dX5_reason_14 : decode cX5_reason 14 = .ok (.iload_n 1, 1) := by decide +kernel
theorem dX5_reason_15 : decode cX5_reason 15 = .ok (.iaload, 1) := by decide +kernel
theorem dX5_reason_16 : decode cX5_reason 16 = .ok (.iadd, 1) := by decide +kernel
theorem dX5_reason_17 : decode cX5_reason 17 = .ok (.istore_n 3, 1) := by decide +kernel
theorem dX5_reason_18 : decode cX5_reason 18 = .ok (.aload_n 0, 1) := by decide +kernel
theorem dX5_reason_19 : decode cX5_reason 19 = .ok (.getfield 41, 3) := by decide +kernel
theorem dX5_reason_22 : decode cX5_reason 22 = .ok (.iload_n 1, 1) := by decide +kernel
theorem dX5_reason_23 : decode cX5_reason 23 = .ok (.baload, 1) := by decide +kernel
theorem dX5_reason_24 : decode cX5_reason 24 = .ok (.ifCond .ne 7, 3) := by decide +kernel
theorem dX5_reason_27 : decode cX5_reason 27 = .ok (.iconst 3, 1) := by decide +kernel
theorem dX5_reason_28 : decode cX5_reason 28 = .ok (.goto 56, 3) := by decide +kernel
theorem dX5_reason_31 : decode cX5_reason 31 = .ok (.aload_n 0, 1) := by decide +kernel
theorem dX5_reason_32 : decode cX5_reason 32 = .ok (.getfield 7, 3) := by decide +kernel
theorem dX5_reason_35 : decode cX5_reason 35 = .ok (.iload_n 2, 1) := by decide +kernel
theorem dX5_reason_36 : decode cX5_reason 36 = .ok (.iaload, 1) := by decide +kernel
theorem dX5_reason_37 : decode cX5_reason 37 = .ok (.aload_n 0, 1) := by decide +kernel
theorem dX5_reason_38 : decode cX5_reason 38 = .ok (.getfield 35, 3) := by decide +kernel
theorem dX5_reason_41 : decode cX5_reason 41 = .ok (.iload_n 1, 1) := by decide +kernel
theorem dX5_reason_42 : decode cX5_reason 42 = .ok (.iaload, 1) := by decide +kernel
theorem dX5_reason_43 : decode cX5_reason 43 = .ok (.isub, 1) := by decide +kernel
theorem dX5_reason_44 : decode cX5_reason 44 = .ok (.aload_n 0, 1) := by decide +kernel
theorem dX5_reason_45 : decode cX5_reason 45 = .ok (.getfield 13, 3) := by decide +kernel
theorem dX5_reason_48 : decode cX5_reason 48 = .ok (.iload_n 2, 1) := by decide +kernel
theorem dX5_reason_49 : decode cX5_reason 49 = .ok (.iaload, 1) := by decide +kernel
theorem dX5_reason_50 : decode cX5_reason 50 = .ok (.if_icmp .ge 7, 3) := by decide +kernel
theorem dX5_reason_53 : decode cX5_reason 53 = .ok (.iconst 1, 1) := by decide +kernel
theorem dX5_reason_54 : decode cX5_reason 54 = .ok (.goto 30, 3) := by decide +kernel
theorem dX5_reason_57 : decode cX5_reason 57 = .ok (.aload_n 0, 1) := by decide +kernel
theorem dX5_reason_58 : decode cX5_reason 58 = .ok (.getfield 23, 3) := by decide +kernel
theorem dX5_reason_61 : decode cX5_reason 61 = .ok (.iload_n 3, 1) := by decide +kernel
theorem dX5_reason_62 : decode cX5_reason 62 = .ok (.iaload, 1) := by decide +kernel
theorem dX5_reason_63 : decode cX5_reason 63 = .ok (.aload_n 0, 1) := by decide +kernel
theorem dX5_reason_64 : decode cX5_reason 64 = .ok (.getfield 35, 3) := by decide +kernel
theorem dX5_reason_67 : decode cX5_reason 67 = .ok (.iload_n 1, 1) := by decide +kernel
theorem dX5_reason_68 : decode cX5_reason 68 = .ok (.iaload, 1) := by decide +kernel
theorem dX5_reason_69 : decode cX5_reason 69 = .ok (.iadd, 1) := by decide +kernel
theorem dX5_reason_70 : decode cX5_reason 70 = .ok (.aload_n 0, 1) := by decide +kernel
theorem dX5_reason_71 : decode cX5_reason 71 = .ok (.getfield 26, 3) := by decide +kernel
theorem dX5_reason_74 : decode cX5_reason 74 = .ok (.iload_n 3, 1) := by decide +kernel
theorem dX5_reason_75 : decode cX5_reason 75 = .ok (.iaload, 1) := by decide +kernel
theorem dX5_reason_76 : decode cX5_reason 76 = .ok (.if_icmp .le 7, 3) := by decide +kernel
theorem dX5_reason_79 : decode cX5_reason 79 = .ok (.iconst 2, 1) := by decide +kernel
theorem dX5_reason_80 : decode cX5_reason 80 = .ok (.goto 4, 3) := by decide +kernel
theorem dX5_reason_83 : decode cX5_reason 83 = .ok (.iconst 0, 1) := by decide +kernel
theorem dX5_reason_84 : decode cX5_reason 84 = .ok (.ireturn, 1) := by decide +kernel
theorem dX5_moves_0 : decode cX5_moves 0 = .ok (.iload_n 2, 1) := by decide +kernel
theorem dX5_moves_1 : decode cX5_moves 1 = .ok (.aload_n 0, 1) := by decide +kernel
theorem dX5_moves_2 : decode cX5_moves 2 = .ok (.getfield 35, 3) := by decide +kernel
theorem dX5_moves_5 : decode cX5_moves 5 = .ok (.iload_n 1, 1) := by decide +kernel
theorem dX5_moves_6 : decode cX5_moves 6 = .ok (.iaload, 1) := by decide +kernel
theorem dX5_moves_7 : decode cX5_moves 7 = .ok (.imul, 1) := by decide +kernel
theorem dX5_moves_8 : decode cX5_moves 8 = .ok (.istore_n 3, 1) := by decide +kernel
theorem dX5_moves_9 : decode cX5_moves 9 = .ok (.aload_n 0, 1) := by decide +kernel
theorem dX5_moves_10 : decode cX5_moves 10 = .ok (.getfield 7, 3) := by decide +kernel
theorem dX5_moves_13 : decode cX5_moves 13 = .ok (.aload_n 0, 1) := by decide +kernel
theorem dX5_moves_14 : decode cX5_moves 14 = .ok (.getfield 29, 3) := by decide +kernel
theorem dX5_moves_17 : decode cX5_moves 17 = .ok (.iload_n 1, 1) := by decide +kernel
theorem dX5_moves_18 : decode cX5_moves 18 = .ok (.iaload, 1) := by decide +kernel
theorem dX5_moves_19 : decode cX5_moves 19 = .ok (.dup2, 1) := by decide +kernel
theorem dX5_moves_20 : decode cX5_moves 20 = .ok (.iaload, 1) := by decide +kernel
theorem dX5_moves_21 : decode cX5_moves 21 = .ok (.iload_n 3, 1) := by decide +kernel
theorem dX5_moves_22 : decode cX5_moves 22 = .ok (.isub, 1) := by decide +kernel
theorem dX5_moves_23 : decode cX5_moves 23 = .ok (.iastore, 1) := by decide +kernel
theorem dX5_moves_24 : decode cX5_moves 24 = .ok (.aload_n 0, 1) := by decide +kernel
theorem dX5_moves_25 : decode cX5_moves 25 = .ok (.getfield 7, 3) := by decide +kernel
theorem dX5_moves_28 : decode cX5_moves 28 = .ok (.aload_n 0, 1) := by decide +kernel
theorem dX5_moves_29 : decode cX5_moves 29 = .ok (.getfield 32, 3) := by decide +kernel
theorem dX5_moves_32 : decode cX5_moves 32 = .ok (.iload_n 1, 1) := by decide +kernel
theorem dX5_moves_33 : decode cX5_moves 33 = .ok (.iaload, 1) := by decide +kernel
theorem dX5_moves_34 : decode cX5_moves 34 = .ok (.dup2, 1) := by decide +kernel
theorem dX5_moves_35 : decode cX5_moves 35 = .ok (.iaload, 1) := by decide +kernel
theorem dX5_moves_36 : decode cX5_moves 36 = .ok (.iload_n 3, 1) := by decide +kernel
theorem dX5_moves_37 : decode cX5_moves 37 = .ok (.iadd, 1) := by decide +kernel
theorem dX5_moves_38 : decode cX5_moves 38 = .ok (.iastore, 1) := by decide +kernel
theorem dX5_moves_39 : decode cX5_moves 39 = .ok (.aload_n 0, 1) := by decide +kernel
theorem dX5_moves_40 : decode cX5_moves 40 = .ok (.getfield 23, 3) := by decide +kernel
theorem dX5_moves_43 : decode cX5_moves 43 = .ok (.iconst 5, 1) := by decide +kernel
theorem dX5_moves_44 : decode cX5_moves 44 = .ok (.aload_n 0, 1) := by decide +kernel
theorem dX5_moves_45 : decode cX5_moves 45 = .ok (.getfield 29, 3) := by decide +kernel
theorem dX5_moves_48 : decode cX5_moves 48 = .ok (.iload_n 1, 1) := by decide +kernel
theorem dX5_moves_49 : decode cX5_moves 49 = .ok (.iaload, 1) := by decide +kernel
theorem dX5_moves_50 : decode cX5_moves 50 = .ok (.imul, 1) := by decide +kernel
theorem dX5_moves_51 : decode cX5_moves 51 = .ok (.aload_n 0, 1) := by decide +kernel
theorem dX5_moves_52 : decode cX5_moves 52 = .ok (.getfield 32, 3) := by decide +kernel
theorem dX5_moves_55 : decode cX5_moves 55 = .ok (.iload_n 1, 1) := by decide +kernel
theorem dX5_moves_56 : decode cX5_moves 56 = .ok (.iaload, 1) := by decide +kernel
theorem dX5_moves_57 : decode cX5_moves 57 = .ok (.iadd, 1) := by decide +kernel
theorem dX5_moves_58 : decode cX5_moves 58 = .ok (.dup2, 1) := by decide +kernel
theorem dX5_moves_59 : decode cX5_moves 59 = .ok (.iaload, 1) := by decide +kernel
theorem dX5_moves_60 : decode cX5_moves 60 = .ok (.iload_n 3, 1) := by decide +kernel
theorem dX5_moves_61 : decode cX5_moves 61 = .ok (.iadd, 1) := by decide +kernel
theorem dX5_moves_62 : decode cX5_moves 62 = .ok (.iastore, 1) := by decide +kernel
theorem dX5_moves_63 : decode cX5_moves 63 = .ok (.aload_n 0, 1) := by decide +kernel
theorem dX5_moves_64 : decode cX5_moves 64 = .ok (.getfield 23, 3) := by decide +kernel
theorem dX5_moves_67 : decode cX5_moves 67 = .ok (.iconst 5, 1) := by decide +kernel
theorem dX5_moves_68 : decode cX5_moves 68 = .ok (.aload_n 0, 1) := by decide +kernel
theorem dX5_moves_69 : decode cX5_moves 69 = .ok (.getfield 32, 3) := by decide +kernel
theorem dX5_moves_72 : decode cX5_moves 72 = .ok (.iload_n 1, 1) := by decide +kernel
theorem dX5_moves_73 : decode cX5_moves 73 = .ok (.iaload, 1) := by decide +kernel
theorem dX5_moves_74 : decode cX5_moves 74 = .ok (.imul, 1) := by decide +kernel
theorem dX5_moves_75 : decode cX5_moves 75 = .ok (.aload_n 0, 1) := by decide +kernel
theorem dX5_moves_76 : decode cX5_moves 76 = .ok (.getfield 29, 3) := by decide +kernel
theorem dX5_moves_79 : decode cX5_moves 79 = .ok (.iload_n 1, 1) := by decide +kernel
theorem dX5_moves_80 : decode cX5_moves 80 = .ok (.iaload, 1) := by decide +kernel
theorem dX5_moves_81 : decode cX5_moves 81 = .ok (.iadd, 1) := by decide +kernel
theorem dX5_moves_82 : decode cX5_moves 82 = .ok (.dup2, 1) := by decide +kernel
theorem dX5_moves_83 : decode cX5_moves 83 = .ok (.iaload, 1) := by decide +kernel
theorem dX5_moves_84 : decode cX5_moves 84 = .ok (.iload_n 3, 1) := by decide +kernel
theorem dX5_moves_85 : decode cX5_moves 85 = .ok (.isub, 1) := by decide +kernel
theorem dX5_moves_86 : decode cX5_moves 86 = .ok (.iastore, 1) := by decide +kernel
theorem dX5_moves_87 : decode cX5_moves 87 = .ok (.return_, 1) := by decide +kernel
set_option maxRecDepth 20000 in
theorem ggX5_goes_X5_moves : GoodIn wsX5_goes wsX5_moves := goodIn_r _ [6, 7, 8, 9, 10, 11, 12, 13, 14, 15, 16, 17, 18, 19, 20, 21, 22, 23, 24, 25, 26, 27, 28, 29, 30, 31, 32, 33, 34, 35, 36] (by decide +kernel) (by decide +kernel)
set_option maxRecDepth 20000 in
theorem gX5_goes_X5_moves : GoodIn wsX5_goes (wsV RX5 108 RX5 yX5_moves wsX5_moves) := goodIn_app (goodIn_of _ (by decide +kernel)) ggX5_goes_X5_moves
theorem dX5_goes_0 : decode cX5_goes 0 = .ok (.aload_n 0, 1) := by decide +kernel
theorem dX5_goes_1 : decode cX5_goes 1 = .ok (.iload_n 1, 1) := by decide +kernel
theorem dX5_goes_2 : decode cX5_goes 2 = .ok (.iconst 1, 1) := by decide +kernel
theorem dX5_goes_3 : decode cX5_goes 3 = .ok (.invokevirtual 108, 3) := by decide +kernel
theorem dX5_goes_6 : decode cX5_goes 6 = .ok (.aload_n 0, 1) := by decide +kernel
theorem dX5_goes_7 : decode cX5_goes 7 = .ok (.getfield 41, 3) := by decide +kernel
theorem dX5_goes_10 : decode cX5_goes 10 = .ok (.iload_n 1, 1) := by decide +kernel
theorem dX5_goes_11 : decode cX5_goes 11 = .ok (.iconst 0, 1) := by decide +kernel
theorem dX5_goes_12 : decode cX5_goes 12 = .ok (.bastore, 1) := by decide +kernel
theorem dX5_goes_13 : decode cX5_goes 13 = .ok (.return_, 1) := by decide +kernel
theorem dX5_isSound_0 : decode cX5_isSound 0 = .ok (.iconst 1, 1) := by decide +kernel
theorem dX5_isSound_1 : decode cX5_isSound 1 = .ok (.istore_n 1, 1) := by decide +kernel
theorem dX5_isSound_2 : decode cX5_isSound 2 = .ok (.iconst 0, 1) := by decide +kernel
theorem dX5_isSound_3 : decode cX5_isSound 3 = .ok (.istore_n 2, 1) := by decide +kernel
theorem dX5_isSound_4 : decode cX5_isSound 4 = .ok (.iload_n 2, 1) := by decide +kernel
theorem dX5_isSound_5 : decode cX5_isSound 5 = .ok (.bipush 25, 2) := by decide +kernel
theorem dX5_isSound_7 : decode cX5_isSound 7 = .ok (.if_icmp .ge 53, 3) := by decide +kernel
theorem dX5_isSound_10 : decode cX5_isSound 10 = .ok (.iload_n 1, 1) := by decide +kernel
theorem dX5_isSound_11 : decode cX5_isSound 11 = .ok (.ifCond .eq 41, 3) := by decide +kernel
theorem dX5_isSound_14 : decode cX5_isSound 14 = .ok (.aload_n 0, 1) := by decide +kernel
theorem dX5_isSound_15 : decode cX5_isSound 15 = .ok (.getfield 7, 3) := by decide +kernel
theorem dX5_isSound_18 : decode cX5_isSound 18 = .ok (.iload_n 2, 1) := by decide +kernel
theorem dX5_isSound_19 : decode cX5_isSound 19 = .ok (.iconst 5, 1) := by decide +kernel
theorem dX5_isSound_20 : decode cX5_isSound 20 = .ok (.idiv, 1) := by decide +kernel
theorem dX5_isSound_21 : decode cX5_isSound 21 = .ok (.iaload, 1) := by decide +kernel
theorem dX5_isSound_22 : decode cX5_isSound 22 = .ok (.aload_n 0, 1) := by decide +kernel
theorem dX5_isSound_23 : decode cX5_isSound 23 = .ok (.getfield 13, 3) := by decide +kernel
theorem dX5_isSound_26 : decode cX5_isSound 26 = .ok (.iload_n 2, 1) := by decide +kernel
theorem dX5_isSound_27 : decode cX5_isSound 27 = .ok (.iconst 5, 1) := by decide +kernel
theorem dX5_isSound_28 : decode cX5_isSound 28 = .ok (.idiv, 1) := by decide +kernel
theorem dX5_isSound_29 : decode cX5_isSound 29 = .ok (.iaload, 1) := by decide +kernel
theorem dX5_isSound_30 : decode cX5_isSound 30 = .ok (.if_icmp .lt 22, 3) := by decide +kernel
theorem dX5_isSound_33 : decode cX5_isSound 33 = .ok (.aload_n 0, 1) := by decide +kernel
theorem dX5_isSound_34 : decode cX5_isSound 34 = .ok (.getfield 23, 3) := by decide +kernel
theorem dX5_isSound_37 : decode cX5_isSound 37 = .ok (.iload_n 2, 1) := by decide +kernel
theorem dX5_isSound_38 : decode cX5_isSound 38 = .ok (.iaload, 1) := by decide +kernel
theorem dX5_isSound_39 : decode cX5_isSound 39 = .ok (.aload_n 0, 1) := by decide +kernel
theorem dX5_isSound_40 : decode cX5_isSound 40 = .ok (.getfield 26, 3) := by decide +kernel
theorem dX5_isSound_43 : decode cX5_isSound 43 = .ok (.iload_n 2, 1) := by decide +kernel
theorem dX5_isSound_44 : decode cX5_isSound 44 = .ok (.iaload, 1) := by decide +kernel
theorem dX5_isSound_45 : decode cX5_isSound 45 = .ok (.if_icmp .gt 7, 3) := by decide +kernel
theorem dX5_isSound_48 : decode cX5_isSound 48 = .ok (.iconst 1, 1) := by decide +kernel
theorem dX5_isSound_49 : decode cX5_isSound 49 = .ok (.goto 4, 3) := by decide +kernel
theorem dX5_isSound_52 : decode cX5_isSound 52 = .ok (.iconst 0, 1) := by decide +kernel
theorem dX5_isSound_53 : decode cX5_isSound 53 = .ok (.istore_n 1, 1) := by decide +kernel
theorem dX5_isSound_54 : decode cX5_isSound 54 = .ok (.iinc 2 1, 3) := by decide +kernel
theorem dX5_isSound_57 : decode cX5_isSound 57 = .ok (.goto (-53), 3) := by decide +kernel
theorem dX5_isSound_60 : decode cX5_isSound 60 = .ok (.iload_n 1, 1) := by decide +kernel
theorem dX5_isSound_61 : decode cX5_isSound 61 = .ok (.ireturn, 1) := by decide +kernel
set_option maxRecDepth 20000 in
theorem ggX5_next_X5_at : GoodIn wsX5_next wsX5_at := goodIn_r _ [7, 8, 9, 10, 11, 21, 22, 23, 24, 25, 26, 27, 28, 29, 30, 31, 32, 33, 34, 35, 36, 37, 38, 39, 40, 41, 42, 43, 44, 45] (by decide +kernel) (by decide +kernel)
set_option maxRecDepth 20000 in
theorem gX5_next_X5_at : GoodIn wsX5_next (wsV RX5 112 RX5 yX5_at wsX5_at) := goodIn_app (goodIn_of _ (by decide +kernel)) ggX5_next_X5_at
set_option maxRecDepth 20000 in
theorem ggX5_next_X5_reason : GoodIn wsX5_next wsX5_reason := goodIn_r _ [15, 10, 16, 9, 17, 1, 18, 19, 20, 21, 22, 23, 24, 25, 26, 27, 28, 29, 30, 31, 32, 33, 34, 35, 36, 37, 38, 39, 40, 41, 42, 43, 44, 45] (by decide +kernel) (by decide +kernel)
set_option maxRecDepth 20000 in
theorem gX5_next_X5_reason : GoodIn wsX5_next (wsV RX5 116 RX5 yX5_reason wsX5_reason) := goodIn_app (goodIn_of _ (by decide +kernel)) ggX5_next_X5_reason
theorem dX5_next_0 : decode cX5_next 0 = .ok (.aload_n 0, 1) := by decide +kernel
theorem dX5_next_1 : decode cX5_next 1 = .ok (.iload_n 1, 1) := by decide +kernel
theorem dX5_next_2 : decode cX5_next 2 = .ok (.iconst 0, 1) := by decide +kernel
theorem dX5_next_3 : decode cX5_next 3 = .ok (.invokevirtual 112, 3) := by decide +kernel
theorem dX5_next_6 : decode cX5_next 6 = .ok (.istore_n 2, 1) := by decide +kernel
theorem dX5_next_7 : decode cX5_next 7 = .ok (.iload_n 2, 1) := by decide +kernel
theorem dX5_next_8 : decode cX5_next 8 = .ok (.iconst (-1), 1) := by decide +kernel
theorem dX5_next_9 : decode cX5_next 9 = .ok (.if_icmp .eq 11, 3) := by decide +kernel
theorem dX5_next_12 : decode cX5_next 12 = .ok (.aload_n 0, 1) := by decide +kernel
theorem dX5_next_13 : decode cX5_next 13 = .ok (.iload_n 2, 1) := by decide +kernel
theorem dX5_next_14 : decode cX5_next 14 = .ok (.invokevirtual 116, 3) := by decide +kernel
theorem dX5_next_17 : decode cX5_next 17 = .ok (.ifCond .ne 5, 3) := by decide +kernel
theorem dX5_next_20 : decode cX5_next 20 = .ok (.iload_n 2, 1) := by decide +kernel
theorem dX5_next_21 : decode cX5_next 21 = .ok (.ireturn, 1) := by decide +kernel
theorem dX5_next_22 : decode cX5_next 22 = .ok (.iconst 1, 1) := by decide +kernel
theorem dX5_next_23 : decode cX5_next 23 = .ok (.istore_n 3, 1) := by decide +kernel
theorem dX5_next_24 : decode cX5_next 24 = .ok (.aload_n 0, 1) := by decide +kernel
theorem dX5_next_25 : decode cX5_next 25 = .ok (.iload_n 1, 1) := by decide +kernel
theorem dX5_next_26 : decode cX5_next 26 = .ok (.iload_n 3, 1) := by decide +kernel
theorem dX5_next_27 : decode cX5_next 27 = .ok (.invokevirtual 112, 3) := by decide +kernel
theorem dX5_next_30 : decode cX5_next 30 = .ok (.istore 4, 2) := by decide +kernel
theorem dX5_next_32 : decode cX5_next 32 = .ok (.iload 4, 2) := by decide +kernel
theorem dX5_next_34 : decode cX5_next 34 = .ok (.iconst (-1), 1) := by decide +kernel
theorem dX5_next_35 : decode cX5_next 35 = .ok (.if_icmp .eq 40, 3) := by decide +kernel
theorem dX5_next_38 : decode cX5_next 38 = .ok (.aload_n 0, 1) := by decide +kernel
theorem dX5_next_39 : decode cX5_next 39 = .ok (.getfield 35, 3) := by decide +kernel
theorem dX5_next_42 : decode cX5_next 42 = .ok (.iload 4, 2) := by decide +kernel
theorem dX5_next_44 : decode cX5_next 44 = .ok (.iaload, 1) := by decide +kernel
theorem dX5_next_45 : decode cX5_next 45 = .ok (.aload_n 0, 1) := by decide +kernel
theorem dX5_next_46 : decode cX5_next 46 = .ok (.getfield 44, 3) := by decide +kernel
theorem dX5_next_49 : decode cX5_next 49 = .ok (.if_icmp .gt 12, 3) := by decide +kernel
theorem dX5_next_52 : decode cX5_next 52 = .ok (.aload_n 0, 1) := by decide +kernel
theorem dX5_next_53 : decode cX5_next 53 = .ok (.iload 4, 2) := by decide +kernel
theorem dX5_next_55 : decode cX5_next 55 = .ok (.invokevirtual 116, 3) := by decide +kernel
theorem dX5_next_58 : decode cX5_next 58 = .ok (.ifCond .eq 17, 3) := by decide +kernel
theorem dX5_next_61 : decode cX5_next 61 = .ok (.iinc 3 1, 3) := by decide +kernel
theorem dX5_next_64 : decode cX5_next 64 = .ok (.aload_n 0, 1) := by decide +kernel
theorem dX5_next_65 : decode cX5_next 65 = .ok (.iload_n 1, 1) := by decide +kernel
theorem dX5_next_66 : decode cX5_next 66 = .ok (.iload_n 3, 1) := by decide +kernel
theorem dX5_next_67 : decode cX5_next 67 = .ok (.invokevirtual 112, 3) := by decide +kernel
theorem dX5_next_70 : decode cX5_next 70 = .ok (.istore 4, 2) := by decide +kernel
theorem dX5_next_72 : decode cX5_next 72 = .ok (.goto (-40), 3) := by decide +kernel
theorem dX5_next_75 : decode cX5_next 75 = .ok (.iload 4, 2) := by decide +kernel
theorem dX5_next_77 : decode cX5_next 77 = .ok (.ireturn, 1) := by decide +kernel
set_option maxRecDepth 20000 in
theorem ggX5_goTogether_X5_at : GoodIn wsX5_goTogether wsX5_at := goodIn_r _ [6, 7, 8, 9, 10, 37, 38, 39, 40, 41, 42, 43, 44, 45, 46, 47, 48, 49, 50, 51, 52, 53, 54, 55, 56, 57, 58, 59, 60, 61] (by decide +kernel) (by decide +kernel)
set_option maxRecDepth 20000 in
theorem gX5_goTogether_X5_at : GoodIn wsX5_goTogether (wsV RX5 112 RX5 yX5_at wsX5_at) := goodIn_app (goodIn_of _ (by decide +kernel)) ggX5_goTogether_X5_at
set_option maxRecDepth 20000 in
theorem ggX5_goTogether_X5_isSet : GoodIn wsX5_goTogether wsX5_isSet := goodIn_r _ [14, 1, 15, 16, 17, 5, 18, 2, 3, 4, 6, 7, 8, 9, 10, 19, 20, 21, 22, 23, 24, 25, 26, 27, 28, 29, 30, 31, 32, 37, 38, 39, 40, 41, 42, 43, 44, 45, 46, 47, 48, 49, 50, 51, 52, 53, 54, 55, 56, 57, 58, 59, 60, 61] (by decide +kernel) (by decide +kernel)
set_option maxRecDepth 20000 in
theorem gX5_goTogether_X5_isSet : GoodIn wsX5_goTogether (wsV RX5 119 RX5 yX5_isSet wsX5_isSet) := goodIn_app (goodIn_of _ (by decide +kernel)) ggX5_goTogether_X5_isSet
set_option maxRecDepth 20000 in
theorem ggX5_goTogether_X5_firsts : GoodIn wsX5_goTogether wsX5_firsts := goodIn_r _ [18, 1, 2, 3, 4, 5, 6, 7, 8, 9, 10, 37, 38, 39, 40, 41, 42, 43, 44, 45, 46, 47, 48, 49, 50, 51, 52, 53, 54, 55, 56, 57, 58, 59, 60, 61] (by decide +kernel) (by decide +kernel)
set_option maxRecDepth 20000 in
theorem gX5_goTogether_X5_firsts : GoodIn wsX5_goTogether (wsV RX5 122 RX5 yX5_firsts wsX5_firsts) := goodIn_app (goodIn_of _ (by decide +kernel)) ggX5_goTogether_X5_firsts
set_option maxRecDepth 20000 in
theorem ggX5_goTogether_X5_goes : GoodIn wsX5_goTogether wsX5_goes := goodIn_r _ [36, 8, 19, 20, 21, 5, 22, 23, 24, 9, 25, 26, 37, 38, 39, 40, 41, 42, 43, 44, 45, 46, 47, 48, 49, 50, 51, 52, 53, 54, 55, 56, 57, 58, 59, 60, 61] (by decide +kernel) (by decide +kernel)
set_option maxRecDepth 20000 in
theorem gX5_goTogether_X5_goes : GoodIn wsX5_goTogether (wsV RX5 126 RX5 yX5_goes wsX5_goes) := goodIn_app (goodIn_of _ (by decide +kernel)) ggX5_goTogether_X5_goes
theorem dX5_goTogether_0 : decode cX5_goTogether 0 = .ok (.iconst 0, 1) := by decide +kernel
theorem dX5_goTogether_1 : decode cX5_goTogether 1 = .ok (.istore_n 1, 1) := by decide +kernel
theorem dX5_goTogether_2 : decode cX5_goTogether 2 = .ok (.iconst 0, 1) := by decide +kernel
theorem dX5_goTogether_3 : decode cX5_goTogether 3 = .ok (.istore_n 2, 1) := by decide +kernel
theorem dX5_goTogether_4 : decode cX5_goTogether 4 = .ok (.iconst 1, 1) := by decide +kernel
theorem dX5_goTogether_5 : decode cX5_goTogether 5 = .ok (.istore_n 3, 1) := by decide +kernel
theorem dX5_goTogether_6 : decode cX5_goTogether 6 = .ok (.iload_n 3, 1) := by decide +kernel
theorem dX5_goTogether_7 : decode cX5_goTogether 7 = .ok (.bipush 32, 2) := by decide +kernel
theorem dX5_goTogether_9 : decode cX5_goTogether 9 = .ok (.if_icmp .ge 114, 3) := by decide +kernel
theorem dX5_goTogether_12 : decode cX5_goTogether 12 = .ok (.iconst 0, 1) := by decide +kernel
theorem dX5_goTogether_13 : decode cX5_goTogether 13 = .ok (.istore 4, 2) := by decide +kernel
theorem dX5_goTogether_15 : decode cX5_goTogether 15 = .ok (.iconst 1, 1) := by decide +kernel
theorem dX5_goTogether_16 : decode cX5_goTogether 16 = .ok (.istore 5, 2) := by decide +kernel
theorem dX5_goTogether_18 : decode cX5_goTogether 18 = .ok (.iconst 0, 1) := by decide +kernel
theorem dX5_goTogether_19 : decode cX5_goTogether 19 = .ok (.istore 6, 2) := by decide +kernel
theorem dX5_goTogether_21 : decode cX5_goTogether 21 = .ok (.iload 6, 2) := by decide +kernel
theorem dX5_goTogether_23 : decode cX5_goTogether 23 = .ok (.iconst 5, 1) := by decide +kernel
theorem dX5_goTogether_24 : decode cX5_goTogether 24 = .ok (.if_icmp .ge 69, 3) := by decide +kernel
theorem dX5_goTogether_27 : decode cX5_goTogether 27 = .ok (.iload_n 3, 1) := by decide +kernel
theorem dX5_goTogether_28 : decode cX5_goTogether 28 = .ok (.iload 6, 2) := by decide +kernel
theorem dX5_goTogether_30 : decode cX5_goTogether 30 = .ok (.ishr, 1) := by decide +kernel
theorem dX5_goTogether_31 : decode cX5_goTogether 31 = .ok (.iconst 1, 1) := by decide +kernel
theorem dX5_goTogether_32 : decode cX5_goTogether 32 = .ok (.iand, 1) := by decide +kernel
theorem dX5_goTogether_33 : decode cX5_goTogether 33 = .ok (.iconst 1, 1) := by decide +kernel
theorem dX5_goTogether_34 : decode cX5_goTogether 34 = .ok (.if_icmp .ne 7, 3) := by decide +kernel
theorem dX5_goTogether_37 : decode cX5_goTogether 37 = .ok (.iconst 1, 1) := by decide +kernel
theorem dX5_goTogether_38 : decode cX5_goTogether 38 = .ok (.goto 4, 3) := by decide +kernel
theorem dX5_goTogether_41 : decode cX5_goTogether 41 = .ok (.iconst 0, 1) := by decide +kernel
theorem dX5_goTogether_42 : decode cX5_goTogether 42 = .ok (.istore 7, 2) := by decide +kernel
theorem dX5_goTogether_44 : decode cX5_goTogether 44 = .ok (.iload 4, 2) := by decide +kernel
theorem dX5_goTogether_46 : decode cX5_goTogether 46 = .ok (.iload 7, 2) := by decide +kernel
theorem dX5_goTogether_48 : decode cX5_goTogether 48 = .ok (.ifCond .eq 7, 3) := by decide +kernel
theorem dX5_goTogether_51 : decode cX5_goTogether 51 = .ok (.iconst 1, 1) := by decide +kernel
theorem dX5_goTogether_52 : decode cX5_goTogether 52 = .ok (.goto 4, 3) := by decide +kernel
theorem dX5_goTogether_55 : decode cX5_goTogether 55 = .ok (.iconst 0, 1) := by decide +kernel
theorem dX5_goTogether_56 : decode cX5_goTogether 56 = .ok (.iadd, 1) := by decide +kernel
theorem dX5_goTogether_57 : decode cX5_goTogether 57 = .ok (.istore 4, 2) := by decide +kernel
theorem dX5_goTogether_59 : decode cX5_goTogether 59 = .ok (.iload 5, 2) := by decide +kernel
theorem dX5_goTogether_61 : decode cX5_goTogether 61 = .ok (.ifCond .eq 23, 3) := by decide +kernel
theorem dX5_goTogether_64 : decode cX5_goTogether 64 = .ok (.iload 7, 2) := by decide +kernel
theorem dX5_goTogether_66 : decode cX5_goTogether 66 = .ok (.ifCond .eq 14, 3) := by decide +kernel
theorem dX5_goTogether_69 : decode cX5_goTogether 69 = .ok (.aload_n 0, 1) := by decide +kernel
theorem dX5_goTogether_70 : decode cX5_goTogether 70 = .ok (.iload 6, 2) := by decide +kernel
theorem dX5_goTogether_72 : decode cX5_goTogether 72 = .ok (.iconst 0, 1) := by decide +kernel
theorem dX5_goTogether_73 : decode cX5_goTogether 73 = .ok (.invokevirtual 112, 3) := by decide +kernel
theorem dX5_goTogether_76 : decode cX5_goTogether 76 = .ok (.iconst (-1), 1) := by decide +kernel
theorem dX5_goTogether_77 : decode cX5_goTogether 77 = .ok (.if_icmp .eq 7, 3) := by decide +kernel
theorem dX5_goTogether_80 : decode cX5_goTogether 80 = .ok (.iconst 1, 1) := by decide +kernel
theorem dX5_goTogether_81 : decode cX5_goTogether 81 = .ok (.goto 4, 3) := by decide +kernel
theorem dX5_goTogether_84 : decode cX5_goTogether 84 = .ok (.iconst 0, 1) := by decide +kernel
theorem dX5_goTogether_85 : decode cX5_goTogether 85 = .ok (.istore 5, 2) := by decide +kernel
theorem dX5_goTogether_87 : decode cX5_goTogether 87 = .ok (.iinc 6 1, 3) := by decide +kernel
theorem dX5_goTogether_90 : decode cX5_goTogether 90 = .ok (.goto (-69), 3) := by decide +kernel
theorem dX5_goTogether_93 : decode cX5_goTogether 93 = .ok (.iload 5, 2) := by decide +kernel
theorem dX5_goTogether_95 : decode cX5_goTogether 95 = .ok (.ifCond .eq 22, 3) := by decide +kernel
theorem dX5_goTogether_98 : decode cX5_goTogether 98 = .ok (.iload 4, 2) := by decide +kernel
theorem dX5_goTogether_100 : decode cX5_goTogether 100 = .ok (.iload_n 2, 1) := by decide +kernel
theorem dX5_goTogether_101 : decode cX5_goTogether 101 = .ok (.if_icmp .le 16, 3) := by decide +kernel
theorem dX5_goTogether_104 : decode cX5_goTogether 104 = .ok (.aload_n 0, 1) := by decide +kernel
theorem dX5_goTogether_105 : decode cX5_goTogether 105 = .ok (.iload_n 3, 1) := by decide +kernel
theorem dX5_goTogether_106 : decode cX5_goTogether 106 = .ok (.invokevirtual 119, 3) := by decide +kernel
theorem dX5_goTogether_109 : decode cX5_goTogether 109 = .ok (.ifCond .eq 8, 3) := by decide +kernel
theorem dX5_goTogether_112 : decode cX5_goTogether 112 = .ok (.iload_n 3, 1) := by decide +kernel
theorem dX5_goTogether_113 : decode cX5_goTogether 113 = .ok (.istore_n 1, 1) := by decide +kernel
theorem dX5_goTogether_114 : decode cX5_goTogether 114 = .ok (.iload 4, 2) := by decide +kernel
theorem dX5_goTogether_116 : decode cX5_goTogether 116 = .ok (.istore_n 2, 1) := by decide +kernel
theorem dX5_goTogether_117 : decode cX5_goTogether 117 = .ok (.iinc 3 1, 3) := by decide +kernel
theorem dX5_goTogether_120 : decode cX5_goTogether 120 = .ok (.goto (-114), 3) := by decide +kernel
theorem dX5_goTogether_123 : decode cX5_goTogether 123 = .ok (.aload_n 0, 1) := by decide +kernel
theorem dX5_goTogether_124 : decode cX5_goTogether 124 = .ok (.iload_n 1, 1) := by decide +kernel
theorem dX5_goTogether_125 : decode cX5_goTogether 125 = .ok (.invokevirtual 122, 3) := by decide +kernel
theorem dX5_goTogether_128 : decode cX5_goTogether 128 = .ok (.iconst 0, 1) := by decide +kernel
theorem dX5_goTogether_129 : decode cX5_goTogether 129 = .ok (.istore_n 3, 1) := by decide +kernel
theorem dX5_goTogether_130 : decode cX5_goTogether 130 = .ok (.iload_n 3, 1) := by decide +kernel
theorem dX5_goTogether_131 : decode cX5_goTogether 131 = .ok (.iconst 5, 1) := by decide +kernel
theorem dX5_goTogether_132 : decode cX5_goTogether 132 = .ok (.if_icmp .ge 29, 3) := by decide +kernel
theorem dX5_goTogether_135 : decode cX5_goTogether 135 = .ok (.aload_n 0, 1) := by decide +kernel
theorem dX5_goTogether_136 : decode cX5_goTogether 136 = .ok (.getfield 48, 3) := by decide +kernel
theorem dX5_goTogether_139 : decode cX5_goTogether 139 = .ok (.iload_n 3, 1) := by decide +kernel
theorem dX5_goTogether_140 : decode cX5_goTogether 140 = .ok (.iaload, 1) := by decide +kernel
theorem dX5_goTogether_141 : decode cX5_goTogether 141 = .ok (.iconst (-1), 1) := by decide +kernel
theorem dX5_goTogether_142 : decode cX5_goTogether 142 = .ok (.if_icmp .eq 13, 3) := by decide +kernel
theorem dX5_goTogether_145 : decode cX5_goTogether 145 = .ok (.aload_n 0, 1) := by decide +kernel
theorem dX5_goTogether_146 : decode cX5_goTogether 146 = .ok (.aload_n 0, 1) := by decide +kernel
theorem dX5_goTogether_147 : decode cX5_goTogether 147 = .ok (.getfield 48, 3) := by decide +kernel
theorem dX5_goTogether_150 : decode cX5_goTogether 150 = .ok (.iload_n 3, 1) := by decide +kernel
theorem dX5_goTogether_151 : decode cX5_goTogether 151 = .ok (.iaload, 1) := by decide +kernel
theorem dX5_goTogether_152 : decode cX5_goTogether 152 = .ok (.invokevirtual 126, 3) := by decide +kernel
theorem dX5_goTogether_155 : decode cX5_goTogether 155 = .ok (.iinc 3 1, 3) := by decide +kernel
theorem dX5_goTogether_158 : decode cX5_goTogether 158 = .ok (.goto (-28), 3) := by decide +kernel
theorem dX5_goTogether_161 : decode cX5_goTogether 161 = .ok (.iload_n 2, 1) := by decide +kernel
theorem dX5_goTogether_162 : decode cX5_goTogether 162 = .ok (.ireturn, 1) := by decide +kernel
set_option maxRecDepth 20000 in
theorem ggX5_firsts_X5_at : GoodIn wsX5_firsts wsX5_at := goodIn_r _ [6, 7, 8, 9, 10, 11, 12, 13, 14, 15, 16, 17, 18, 19, 20, 21, 22, 23, 24, 25, 26, 27, 28, 29, 30, 31, 32, 33, 34, 35] (by decide +kernel) (by decide +kernel)
set_option maxRecDepth 20000 in
theorem gX5_firsts_X5_at : GoodIn wsX5_firsts (wsV RX5 112 RX5 yX5_at wsX5_at) := goodIn_app (goodIn_of _ (by decide +kernel)) ggX5_firsts_X5_at
theorem dX5_firsts_0 : decode cX5_firsts 0 = .ok (.iconst 0, 1) := by decide +kernel
theorem dX5_firsts_1 : decode cX5_firsts 1 = .ok (.istore_n 2, 1) := by decide +kernel
theorem dX5_firsts_2 : decode cX5_firsts 2 = .ok (.iload_n 2, 1) := by decide +kernel
theorem dX5_firsts_3 : decode cX5_firsts 3 = .ok (.iconst 5, 1) := by decide +kernel
theorem dX5_firsts_4 : decode cX5_firsts 4 = .ok (.if_icmp .ge 34, 3) := by decide +kernel
theorem dX5_firsts_7 : decode cX5_firsts 7 = .ok (.aload_n 0, 1) := by decide +kernel
theorem dX5_firsts_8 : decode cX5_firsts 8 = .ok (.getfield 48, 3) := by decide +kernel
theorem dX5_firsts_11 : decode cX5_firsts 11 = .ok (.iload_n 2, 1) := by decide +kernel
theorem dX5_firsts_12 : decode cX5_firsts 12 = .ok (.iload_n 1, 1) := by decide +kernel
theorem dX5_firsts_13 : decode cX5_firsts 13 = .ok (.iload_n 2, 1) := by decide +kernel
theorem dX5_firsts_14 : decode cX5_firsts 14 = .ok (.ishr, 1) := by decide +kernel
theorem dX5_firsts_15 : decode cX5_firsts 15 = .ok (.iconst 1, 1) := by decide +kernel
theorem dX5_firsts_16 : decode cX5_firsts 16 = .ok (.iand, 1) := by decide +kernel
theorem dX5_firsts_17 : decode cX5_firsts 17 = .ok (.iconst 1, 1) := by decide +kernel
theorem dX5_firsts_18 : decode cX5_firsts 18 = .ok (.if_icmp .ne 12, 3) := by decide +kernel
theorem dX5_firsts_21 : decode cX5_firsts 21 = .ok (.aload_n 0, 1) := by decide +kernel
theorem dX5_firsts_22 : decode cX5_firsts 22 = .ok (.iload_n 2, 1) := by decide +kernel
theorem dX5_firsts_23 : decode cX5_firsts 23 = .ok (.iconst 0, 1) := by decide +kernel
theorem dX5_firsts_24 : decode cX5_firsts 24 = .ok (.invokevirtual 112, 3) := by decide +kernel
theorem dX5_firsts_27 : decode cX5_firsts 27 = .ok (.goto 4, 3) := by decide +kernel
theorem dX5_firsts_30 : decode cX5_firsts 30 = .ok (.iconst (-1), 1) := by decide +kernel
theorem dX5_firsts_31 : decode cX5_firsts 31 = .ok (.iastore, 1) := by decide +kernel
theorem dX5_firsts_32 : decode cX5_firsts 32 = .ok (.iinc 2 1, 3) := by decide +kernel
theorem dX5_firsts_35 : decode cX5_firsts 35 = .ok (.goto (-33), 3) := by decide +kernel
theorem dX5_firsts_38 : decode cX5_firsts 38 = .ok (.return_, 1) := by decide +kernel
set_option maxRecDepth 20000 in
theorem ggX5_isSet_X5_firsts : GoodIn wsX5_isSet wsX5_firsts := goodIn_r _ [6, 1, 7, 8, 9, 5, 10, 11, 12, 13, 14, 29, 30, 31, 32, 33, 34, 35, 36, 37, 38, 39, 40, 41, 42, 43, 44, 45, 46, 47, 48, 49, 50, 51, 52, 53] (by decide +kernel) (by decide +kernel)
set_option maxRecDepth 20000 in
theorem gX5_isSet_X5_firsts : GoodIn wsX5_isSet (wsV RX5 122 RX5 yX5_firsts wsX5_firsts) := goodIn_app (goodIn_of _ (by decide +kernel)) ggX5_isSet_X5_firsts
set_option maxRecDepth 20000 in
theorem ggX5_isSet_X5_moves : GoodIn wsX5_isSet wsX5_moves := goodIn_r _ [18, 19, 20, 13, 21, 22, 29, 30, 31, 32, 33, 34, 35, 36, 37, 38, 39, 40, 41, 42, 43, 44, 45, 46, 47, 48, 49, 50, 51, 52, 53] (by decide +kernel) (by decide +kernel)
set_option maxRecDepth 20000 in
theorem gX5_isSet_X5_moves : GoodIn wsX5_isSet (wsV RX5 108 RX5 yX5_moves wsX5_moves) := goodIn_app (goodIn_of _ (by decide +kernel)) ggX5_isSet_X5_moves
set_option maxRecDepth 20000 in
theorem ggX5_isSet_X5_isSound : GoodIn wsX5_isSet wsX5_isSound := goodIn_r _ [26, 20, 27, 22, 28, 29, 30, 31, 32, 33, 34, 35, 36, 37, 38, 39, 40, 41, 42, 43, 44, 45, 46, 47, 48, 49, 50, 51, 52, 53] (by decide +kernel) (by decide +kernel)
set_option maxRecDepth 20000 in
theorem gX5_isSet_X5_isSound : GoodIn wsX5_isSet (wsV RX5 129 RX5 yX5_isSound wsX5_isSound) := goodIn_app (goodIn_of _ (by decide +kernel)) ggX5_isSet_X5_isSound
theorem dX5_isSet_0 : decode cX5_isSet 0 = .ok (.aload_n 0, 1) := by decide +kernel
theorem dX5_isSet_1 : decode cX5_isSet 1 = .ok (.iload_n 1, 1) := by decide +kernel
theorem dX5_isSet_2 : decode cX5_isSet 2 = .ok (.invokevirtual 122, 3) := by decide +kernel
theorem dX5_isSet_5 : decode cX5_isSet 5 = .ok (.iconst 0, 1) := by decide +kernel
theorem dX5_isSet_6 : decode cX5_isSet 6 = .ok (.istore_n 2, 1) := by decide +kernel
theorem dX5_isSet_7 : decode cX5_isSet 7 = .ok (.iload_n 2, 1) := by decide +kernel
theorem dX5_isSet_8 : decode cX5_isSet 8 = .ok (.iconst 5, 1) := by decide +kernel
theorem dX5_isSet_9 : decode cX5_isSet 9 = .ok (.if_icmp .ge 30, 3) := by decide +kernel
theorem dX5_isSet_12 : decode cX5_isSet 12 = .ok (.aload_n 0, 1) := by decide +kernel
theorem dX5_isSet_13 : decode cX5_isSet 13 = .ok (.getfield 48, 3) := by decide +kernel
theorem dX5_isSet_16 : decode cX5_isSet 16 = .ok (.iload_n 2, 1) := by decide +kernel
theorem dX5_isSet_17 : decode cX5_isSet 17 = .ok (.iaload, 1) := by decide +kernel
theorem dX5_isSet_18 : decode cX5_isSet 18 = .ok (.iconst (-1), 1) := by decide +kernel
theorem dX5_isSet_19 : decode cX5_isSet 19 = .ok (.if_icmp .eq 14, 3) := by decide +kernel
theorem dX5_isSet_22 : decode cX5_isSet 22 = .ok (.aload_n 0, 1) := by decide +kernel
theorem dX5_isSet_23 : decode cX5_isSet 23 = .ok (.aload_n 0, 1) := by decide +kernel
theorem dX5_isSet_24 : decode cX5_isSet 24 = .ok (.getfield 48, 3) := by decide +kernel
theorem dX5_isSet_27 : decode cX5_isSet 27 = .ok (.iload_n 2, 1) := by decide +kernel
theorem dX5_isSet_28 : decode cX5_isSet 28 = .ok (.iaload, 1) := by decide +kernel
theorem dX5_isSet_29 : decode cX5_isSet 29 = .ok (.iconst 1, 1) := by decide +kernel
theorem dX5_isSet_30 : decode cX5_isSet 30 = .ok (.invokevirtual 108, 3) := by decide +kernel
theorem dX5_isSet_33 : decode cX5_isSet 33 = .ok (.iinc 2 1, 3) := by decide +kernel
theorem dX5_isSet_36 : decode cX5_isSet 36 = .ok (.goto (-29), 3) := by decide +kernel
theorem dX5_isSet_39 : decode cX5_isSet 39 = .ok (.aload_n 0, 1) := by decide +kernel
theorem dX5_isSet_40 : decode cX5_isSet 40 = .ok (.invokevirtual 129, 3) := by decide +kernel
theorem dX5_isSet_43 : decode cX5_isSet 43 = .ok (.istore_n 2, 1) := by decide +kernel
theorem dX5_isSet_44 : decode cX5_isSet 44 = .ok (.iconst 0, 1) := by decide +kernel
theorem dX5_isSet_45 : decode cX5_isSet 45 = .ok (.istore_n 3, 1) := by decide +kernel
theorem dX5_isSet_46 : decode cX5_isSet 46 = .ok (.iload_n 3, 1) := by decide +kernel
theorem dX5_isSet_47 : decode cX5_isSet 47 = .ok (.iconst 5, 1) := by decide +kernel
theorem dX5_isSet_48 : decode cX5_isSet 48 = .ok (.if_icmp .ge 30, 3) := by decide +kernel
theorem dX5_isSet_51 : decode cX5_isSet 51 = .ok (.aload_n 0, 1) := by decide +kernel
theorem dX5_isSet_52 : decode cX5_isSet 52 = .ok (.getfield 48, 3) := by decide +kernel
theorem dX5_isSet_55 : decode cX5_isSet 55 = .ok (.iload_n 3, 1) := by decide +kernel
theorem dX5_isSet_56 : decode cX5_isSet 56 = .ok (.iaload, 1) := by decide +kernel
theorem dX5_isSet_57 : decode cX5_isSet 57 = .ok (.iconst (-1), 1) := by decide +kernel
theorem dX5_isSet_58 : decode cX5_isSet 58 = .ok (.if_icmp .eq 14, 3) := by decide +kernel
theorem dX5_isSet_61 : decode cX5_isSet 61 = .ok (.aload_n 0, 1) := by decide +kernel
theorem dX5_isSet_62 : decode cX5_isSet 62 = .ok (.aload_n 0, 1) := by decide +kernel
theorem dX5_isSet_63 : decode cX5_isSet 63 = .ok (.getfield 48, 3) := by decide +kernel
theorem dX5_isSet_66 : decode cX5_isSet 66 = .ok (.iload_n 3, 1) := by decide +kernel
theorem dX5_isSet_67 : decode cX5_isSet 67 = .ok (.iaload, 1) := by decide +kernel
theorem dX5_isSet_68 : decode cX5_isSet 68 = .ok (.iconst (-1), 1) := by decide +kernel
theorem dX5_isSet_69 : decode cX5_isSet 69 = .ok (.invokevirtual 108, 3) := by decide +kernel
theorem dX5_isSet_72 : decode cX5_isSet 72 = .ok (.iinc 3 1, 3) := by decide +kernel
theorem dX5_isSet_75 : decode cX5_isSet 75 = .ok (.goto (-29), 3) := by decide +kernel
theorem dX5_isSet_78 : decode cX5_isSet 78 = .ok (.iload_n 2, 1) := by decide +kernel
theorem dX5_isSet_79 : decode cX5_isSet 79 = .ok (.ireturn, 1) := by decide +kernel
set_option maxRecDepth 20000 in
theorem ggX5_run_X5_next : GoodIn wsX5_run wsX5_next := goodIn_r _ [6, 7, 8, 9, 10, 11, 5, 12, 13, 14, 15, 16, 17, 18, 19, 20, 21, 22, 23, 24, 25, 51, 52, 53, 54, 55, 56, 57, 58, 59, 60, 61, 62, 63, 64, 65, 66, 67, 68, 69, 70, 71, 72, 73, 74, 75] (by decide +kernel) (by decide +kernel)
set_option maxRecDepth 20000 in
theorem gX5_run_X5_next : GoodIn wsX5_run (wsV RX5 133 RX5 yX5_next wsX5_next) := goodIn_app (goodIn_of _ (by decide +kernel)) ggX5_run_X5_next
set_option maxRecDepth 20000 in
theorem ggX5_run_X5_goes : GoodIn wsX5_run wsX5_goes := goodIn_r _ [29, 14, 30, 31, 32, 5, 33, 7, 22, 15, 21, 24, 51, 52, 53, 54, 55, 56, 57, 58, 59, 60, 61, 62, 63, 64, 65, 66, 67, 68, 69, 70, 71, 72, 73, 74, 75] (by decide +kernel) (by decide +kernel)
set_option maxRecDepth 20000 in
theorem gX5_run_X5_goes : GoodIn wsX5_run (wsV RX5 126 RX5 yX5_goes wsX5_goes) := goodIn_app (goodIn_of _ (by decide +kernel)) ggX5_run_X5_goes
set_option maxRecDepth 20000 in
theorem ggX5_run_X5_goTogether : GoodIn wsX5_run wsX5_goTogether := goodIn_r _ [37, 38, 9, 10, 11, 5, 12, 13, 14, 15, 16, 39, 40, 41, 42, 43, 44, 45, 46, 30, 31, 32, 33, 7, 22, 21, 24, 47, 48, 49, 50, 23, 25, 26, 27, 28, 29, 51, 52, 53, 54, 55, 56, 57, 58, 59, 60, 61, 62, 63, 64, 65, 66, 67, 68, 69, 70, 71, 72, 73, 74, 75] (by decide +kernel) (by decide +kernel)
set_option maxRecDepth 20000 in
theorem gX5_run_X5_goTogether : GoodIn wsX5_run (wsV RX5 136 RX5 yX5_goTogether wsX5_goTogether) := goodIn_app (goodIn_of _ (by decide +kernel)) ggX5_run_X5_goTogether
theorem dX5_run_0 : decode cX5_run 0 = .ok (.aload_n 0, 1) := by decide +kernel
theorem dX5_run_1 : decode cX5_run 1 = .ok (.iconst 0, 1) := by decide +kernel
theorem dX5_run_2 : decode cX5_run 2 = .ok (.putfield 76, 3) := by decide +kernel
theorem dX5_run_5 : decode cX5_run 5 = .ok (.iconst 0, 1) := by decide +kernel
theorem dX5_run_6 : decode cX5_run 6 = .ok (.istore_n 1, 1) := by decide +kernel
theorem dX5_run_7 : decode cX5_run 7 = .ok (.iconst 1, 1) := by decide +kernel
theorem dX5_run_8 : decode cX5_run 8 = .ok (.istore_n 2, 1) := by decide +kernel
theorem dX5_run_9 : decode cX5_run 9 = .ok (.iload_n 2, 1) := by decide +kernel
theorem dX5_run_10 : decode cX5_run 10 = .ok (.ifCond .eq 75, 3) := by decide +kernel
theorem dX5_run_13 : decode cX5_run 13 = .ok (.iconst 0, 1) := by decide +kernel
theorem dX5_run_14 : decode cX5_run 14 = .ok (.istore_n 3, 1) := by decide +kernel
theorem dX5_run_15 : decode cX5_run 15 = .ok (.iconst 0, 1) := by decide +kernel
theorem dX5_run_16 : decode cX5_run 16 = .ok (.istore 4, 2) := by decide +kernel
theorem dX5_run_18 : decode cX5_run 18 = .ok (.iload 4, 2) := by decide +kernel
theorem dX5_run_20 : decode cX5_run 20 = .ok (.iconst 5, 1) := by decide +kernel
theorem dX5_run_21 : decode cX5_run 21 = .ok (.if_icmp .ge 32, 3) := by decide +kernel
theorem dX5_run_24 : decode cX5_run 24 = .ok (.aload_n 0, 1) := by decide +kernel
theorem dX5_run_25 : decode cX5_run 25 = .ok (.iload 4, 2) := by decide +kernel
theorem dX5_run_27 : decode cX5_run 27 = .ok (.invokevirtual 133, 3) := by decide +kernel
theorem dX5_run_30 : decode cX5_run 30 = .ok (.istore 5, 2) := by decide +kernel
theorem dX5_run_32 : decode cX5_run 32 = .ok (.iload 5, 2) := by decide +kernel
theorem dX5_run_34 : decode cX5_run 34 = .ok (.iconst (-1), 1) := by decide +kernel
theorem dX5_run_35 : decode cX5_run 35 = .ok (.if_icmp .eq 12, 3) := by decide +kernel
theorem dX5_run_38 : decode cX5_run 38 = .ok (.aload_n 0, 1) := by decide +kernel
theorem dX5_run_39 : decode cX5_run 39 = .ok (.iload 5, 2) := by decide +kernel
theorem dX5_run_41 : decode cX5_run 41 = .ok (.invokevirtual 126, 3) := by decide +kernel
theorem dX5_run_44 : decode cX5_run 44 = .ok (.iinc 3 1, 3) := by decide +kernel
theorem dX5_run_47 : decode cX5_run 47 = .ok (.iinc 4 1, 3) := by decide +kernel
theorem dX5_run_50 : decode cX5_run 50 = .ok (.goto (-32), 3) := by decide +kernel
theorem dX5_run_53 : decode cX5_run 53 = .ok (.iload_n 3, 1) := by decide +kernel
theorem dX5_run_54 : decode cX5_run 54 = .ok (.iload_n 3, 1) := by decide +kernel
theorem dX5_run_55 : decode cX5_run 55 = .ok (.ifCond .ne 10, 3) := by decide +kernel
theorem dX5_run_58 : decode cX5_run 58 = .ok (.aload_n 0, 1) := by decide +kernel
theorem dX5_run_59 : decode cX5_run 59 = .ok (.invokevirtual 136, 3) := by decide +kernel
theorem dX5_run_62 : decode cX5_run 62 = .ok (.goto 4, 3) := by decide +kernel
theorem dX5_run_65 : decode cX5_run 65 = .ok (.iconst 0, 1) := by decide +kernel
theorem dX5_run_66 : decode cX5_run 66 = .ok (.iadd, 1) := by decide +kernel
theorem dX5_run_67 : decode cX5_run 67 = .ok (.istore_n 3, 1) := by decide +kernel
theorem dX5_run_68 : decode cX5_run 68 = .ok (.iload_n 1, 1) := by decide +kernel
theorem dX5_run_69 : decode cX5_run 69 = .ok (.iload_n 3, 1) := by decide +kernel
theorem dX5_run_70 : decode cX5_run 70 = .ok (.iadd, 1) := by decide +kernel
theorem dX5_run_71 : decode cX5_run 71 = .ok (.istore_n 1, 1) := by decide +kernel
theorem dX5_run_72 : decode cX5_run 72 = .ok (.iload_n 3, 1) := by decide +kernel
theorem dX5_run_73 : decode cX5_run 73 = .ok (.ifCond .le 7, 3) := by decide +kernel
theorem dX5_run_76 : decode cX5_run 76 = .ok (.iconst 1, 1) := by decide +kernel
theorem dX5_run_77 : decode cX5_run 77 = .ok (.goto 4, 3) := by decide +kernel
theorem dX5_run_80 : decode cX5_run 80 = .ok (.iconst 0, 1) := by decide +kernel
theorem dX5_run_81 : decode cX5_run 81 = .ok (.istore_n 2, 1) := by decide +kernel
theorem dX5_run_82 : decode cX5_run 82 = .ok (.goto (-73), 3) := by decide +kernel
theorem dX5_run_85 : decode cX5_run 85 = .ok (.iload_n 1, 1) := by decide +kernel
theorem dX5_run_86 : decode cX5_run 86 = .ok (.ireturn, 1) := by decide +kernel
set_option maxRecDepth 20000 in
theorem ggX5_queued_X5_isBank : GoodIn wsX5_queued wsX5_isBank := goodIn_r _ [4] (by decide +kernel) (by decide +kernel)
set_option maxRecDepth 20000 in
theorem gX5_queued_X5_isBank : GoodIn wsX5_queued (va_wsS RX5 82 yX5_isBank wsX5_isBank) := goodIn_app (goodIn_of _ (by decide +kernel)) ggX5_queued_X5_isBank
set_option maxRecDepth 20000 in
theorem ggX5_queued_X5_asks : GoodIn wsX5_queued wsX5_asks := goodIn_r _ [8, 9, 18, 19, 20, 21, 22, 23, 24, 25, 26, 27, 28, 29, 30, 31, 32, 33, 34, 35, 36, 37, 38, 39, 40, 41, 42] (by decide +kernel) (by decide +kernel)
set_option maxRecDepth 20000 in
theorem gX5_queued_X5_asks : GoodIn wsX5_queued (wsV RX5 86 RX5 yX5_asks wsX5_asks) := goodIn_app (goodIn_of _ (by decide +kernel)) ggX5_queued_X5_asks
set_option maxRecDepth 20000 in
theorem ggX5_queued_X5_at : GoodIn wsX5_queued wsX5_at := goodIn_r _ [13, 14, 15, 16, 17, 18, 19, 20, 21, 22, 23, 24, 25, 26, 27, 28, 29, 30, 31, 32, 33, 34, 35, 36, 37, 38, 39, 40, 41, 42] (by decide +kernel) (by decide +kernel)
set_option maxRecDepth 20000 in
theorem gX5_queued_X5_at : GoodIn wsX5_queued (wsV RX5 112 RX5 yX5_at wsX5_at) := goodIn_app (goodIn_of _ (by decide +kernel)) ggX5_queued_X5_at
theorem dX5_queued_0 : decode cX5_queued 0 = .ok (.aload_n 0, 1) := by decide +kernel
theorem dX5_queued_1 : decode cX5_queued 1 = .ok (.iload_n 1, 1) := by decide +kernel
theorem dX5_queued_2 : decode cX5_queued 2 = .ok (.invokestatic 82, 3) := by decide +kernel
theorem dX5_queued_5 : decode cX5_queued 5 = .ok (.ifCond .eq 11, 3) := by decide +kernel
theorem dX5_queued_8 : decode cX5_queued 8 = .ok (.iload_n 2, 1) := by decide +kernel
theorem dX5_queued_9 : decode cX5_queued 9 = .ok (.ifCond .lt 7, 3) := by decide +kernel
theorem dX5_queued_12 : decode cX5_queued 12 = .ok (.iconst 1, 1) := by decide +kernel
theorem dX5_queued_13 : decode cX5_queued 13 = .ok (.goto 4, 3) := by decide +kernel
theorem dX5_queued_16 : decode cX5_queued 16 = .ok (.iconst 0, 1) := by decide +kernel
theorem dX5_queued_17 : decode cX5_queued 17 = .ok (.invokevirtual 86, 3) := by decide +kernel
theorem dX5_queued_20 : decode cX5_queued 20 = .ok (.ifCond .eq 12, 3) := by decide +kernel
theorem dX5_queued_23 : decode cX5_queued 23 = .ok (.aload_n 0, 1) := by decide +kernel
theorem dX5_queued_24 : decode cX5_queued 24 = .ok (.iload_n 1, 1) := by decide +kernel
theorem dX5_queued_25 : decode cX5_queued 25 = .ok (.iload_n 2, 1) := by decide +kernel
theorem dX5_queued_26 : decode cX5_queued 26 = .ok (.invokevirtual 112, 3) := by decide +kernel
theorem dX5_queued_29 : decode cX5_queued 29 = .ok (.goto 4, 3) := by decide +kernel
theorem dX5_queued_32 : decode cX5_queued 32 = .ok (.iconst 0, 1) := by decide +kernel
theorem dX5_queued_33 : decode cX5_queued 33 = .ok (.ireturn, 1) := by decide +kernel
set_option maxRecDepth 20000 in
theorem ggX5_why_X5_isPayment : GoodIn wsX5_why wsX5_isPayment := goodIn_r _ [5, 6, 24, 25, 26, 27, 28, 29, 30, 31, 32, 33, 34, 35, 36, 37, 38, 39, 40, 41, 42, 43, 44, 45, 46, 47, 48] (by decide +kernel) (by decide +kernel)
set_option maxRecDepth 20000 in
theorem gX5_why_X5_isPayment : GoodIn wsX5_why (wsV RX5 101 RX5 yX5_isPayment wsX5_isPayment) := goodIn_app (goodIn_of _ (by decide +kernel)) ggX5_why_X5_isPayment
set_option maxRecDepth 20000 in
theorem ggX5_why_X5_asks : GoodIn wsX5_why wsX5_asks := goodIn_r _ [10, 11, 24, 25, 26, 27, 28, 29, 30, 31, 32, 33, 34, 35, 36, 37, 38, 39, 40, 41, 42, 43, 44, 45, 46, 47, 48] (by decide +kernel) (by decide +kernel)
set_option maxRecDepth 20000 in
theorem gX5_why_X5_asks : GoodIn wsX5_why (wsV RX5 86 RX5 yX5_asks wsX5_asks) := goodIn_app (goodIn_of _ (by decide +kernel)) ggX5_why_X5_asks
set_option maxRecDepth 20000 in
theorem ggX5_why_X5_reason : GoodIn wsX5_why wsX5_reason := goodIn_r _ [15, 16, 17, 18, 19, 20, 21, 22, 23, 24, 25, 26, 27, 28, 29, 30, 31, 32, 33, 34, 35, 36, 37, 38, 39, 40, 41, 42, 43, 44, 45, 46, 47, 48] (by decide +kernel) (by decide +kernel)
set_option maxRecDepth 20000 in
theorem gX5_why_X5_reason : GoodIn wsX5_why (wsV RX5 116 RX5 yX5_reason wsX5_reason) := goodIn_app (goodIn_of _ (by decide +kernel)) ggX5_why_X5_reason
theorem dX5_why_0 : decode cX5_why 0 = .ok (.aload_n 0, 1) := by decide +kernel
theorem dX5_why_1 : decode cX5_why 1 = .ok (.aload_n 0, 1) := by decide +kernel
theorem dX5_why_2 : decode cX5_why 2 = .ok (.iload_n 1, 1) := by decide +kernel
theorem dX5_why_3 : decode cX5_why 3 = .ok (.invokevirtual 101, 3) := by decide +kernel
theorem dX5_why_6 : decode cX5_why 6 = .ok (.invokevirtual 86, 3) := by decide +kernel
theorem dX5_why_9 : decode cX5_why 9 = .ok (.ifCond .eq 11, 3) := by decide +kernel
theorem dX5_why_12 : decode cX5_why 12 = .ok (.aload_n 0, 1) := by decide +kernel
theorem dX5_why_13 : decode cX5_why 13 = .ok (.iload_n 1, 1) := by decide +kernel
theorem dX5_why_14 : decode cX5_why 14 = .ok (.invokevirtual 116, 3) := by decide +kernel
theorem dX5_why_17 : decode cX5_why 17 = .ok (.goto 4, 3) := by decide +kernel
theorem dX5_why_20 : decode cX5_why 20 = .ok (.iconst 0, 1) := by decide +kernel
theorem dX5_why_21 : decode cX5_why 21 = .ok (.ireturn, 1) := by decide +kernel
set_option maxRecDepth 20000 in
theorem ggX5_canAny_X5_waiting : GoodIn wsX5_canAny wsX5_waiting := goodIn_r _ [5, 6, 7, 32, 33, 34, 35, 36, 37, 38, 39, 40, 41, 42, 43, 44, 45, 46, 47, 48, 49, 50, 51, 52, 53, 54, 55, 56] (by decide +kernel) (by decide +kernel)
set_option maxRecDepth 20000 in
theorem gX5_canAny_X5_waiting : GoodIn wsX5_canAny (wsV RX5 104 RX5 yX5_waiting wsX5_waiting) := goodIn_app (goodIn_of _ (by decide +kernel)) ggX5_canAny_X5_waiting
set_option maxRecDepth 20000 in
theorem ggX5_canAny_X5_asks : GoodIn wsX5_canAny wsX5_asks := goodIn_r _ [11, 12, 32, 33, 34, 35, 36, 37, 38, 39, 40, 41, 42, 43, 44, 45, 46, 47, 48, 49, 50, 51, 52, 53, 54, 55, 56] (by decide +kernel) (by decide +kernel)
set_option maxRecDepth 20000 in
theorem gX5_canAny_X5_asks : GoodIn wsX5_canAny (wsV RX5 86 RX5 yX5_asks wsX5_asks) := goodIn_app (goodIn_of _ (by decide +kernel)) ggX5_canAny_X5_asks
set_option maxRecDepth 20000 in
theorem ggX5_canAny_X5_moveSet : GoodIn wsX5_canAny wsX5_moveSet := goodIn_r _ [16, 6, 7, 17, 18, 19, 4, 20, 21, 22, 23, 24, 25, 32, 33, 34, 35, 36, 37, 38, 39, 40, 41, 42, 43, 44, 45, 46, 47, 48, 49, 50, 51, 52, 53, 54, 55, 56] (by decide +kernel) (by decide +kernel)
set_option maxRecDepth 20000 in
theorem gX5_canAny_X5_moveSet : GoodIn wsX5_canAny (wsV RX5 139 RX5 yX5_moveSet wsX5_moveSet) := goodIn_app (goodIn_of _ (by decide +kernel)) ggX5_canAny_X5_moveSet
set_option maxRecDepth 20000 in
theorem ggX5_canAny_X5_isSound : GoodIn wsX5_canAny wsX5_isSound := goodIn_r _ [29, 22, 30, 25, 31, 32, 33, 34, 35, 36, 37, 38, 39, 40, 41, 42, 43, 44, 45, 46, 47, 48, 49, 50, 51, 52, 53, 54, 55, 56] (by decide +kernel) (by decide +kernel)
set_option maxRecDepth 20000 in
theorem gX5_canAny_X5_isSound : GoodIn wsX5_canAny (wsV RX5 129 RX5 yX5_isSound wsX5_isSound) := goodIn_app (goodIn_of _ (by decide +kernel)) ggX5_canAny_X5_isSound
theorem dX5_canAny_0 : decode cX5_canAny 0 = .ok (.aload_n 0, 1) := by decide +kernel
theorem dX5_canAny_1 : decode cX5_canAny 1 = .ok (.aload_n 0, 1) := by decide +kernel
theorem dX5_canAny_2 : decode cX5_canAny 2 = .ok (.invokevirtual 104, 3) := by decide +kernel
theorem dX5_canAny_5 : decode cX5_canAny 5 = .ok (.bipush 10, 2) := by decide +kernel
theorem dX5_canAny_7 : decode cX5_canAny 7 = .ok (.if_icmp .gt 7, 3) := by decide +kernel
theorem dX5_canAny_10 : decode cX5_canAny 10 = .ok (.iconst 1, 1) := by decide +kernel
theorem dX5_canAny_11 : decode cX5_canAny 11 = .ok (.goto 4, 3) := by decide +kernel
theorem dX5_canAny_14 : decode cX5_canAny 14 = .ok (.iconst 0, 1) := by decide +kernel
theorem dX5_canAny_15 : decode cX5_canAny 15 = .ok (.invokevirtual 86, 3) := by decide +kernel
theorem dX5_canAny_18 : decode cX5_canAny 18 = .ok (.ifCond .ne 5, 3) := by decide +kernel
theorem dX5_canAny_21 : decode cX5_canAny 21 = .ok (.iconst 0, 1) := by decide +kernel
theorem dX5_canAny_22 : decode cX5_canAny 22 = .ok (.ireturn, 1) := by decide +kernel
theorem dX5_canAny_23 : decode cX5_canAny 23 = .ok (.iconst 0, 1) := by decide +kernel
theorem dX5_canAny_24 : decode cX5_canAny 24 = .ok (.istore_n 1, 1) := by decide +kernel
theorem dX5_canAny_25 : decode cX5_canAny 25 = .ok (.iconst 1, 1) := by decide +kernel
theorem dX5_canAny_26 : decode cX5_canAny 26 = .ok (.istore_n 2, 1) := by decide +kernel
theorem dX5_canAny_27 : decode cX5_canAny 27 = .ok (.iload_n 2, 1) := by decide +kernel
theorem dX5_canAny_28 : decode cX5_canAny 28 = .ok (.iconst 1, 1) := by decide +kernel
theorem dX5_canAny_29 : decode cX5_canAny 29 = .ok (.aload_n 0, 1) := by decide +kernel
theorem dX5_canAny_30 : decode cX5_canAny 30 = .ok (.invokevirtual 104, 3) := by decide +kernel
theorem dX5_canAny_33 : decode cX5_canAny 33 = .ok (.ishl, 1) := by decide +kernel
theorem dX5_canAny_34 : decode cX5_canAny 34 = .ok (.if_icmp .ge 30, 3) := by decide +kernel
theorem dX5_canAny_37 : decode cX5_canAny 37 = .ok (.iload_n 1, 1) := by decide +kernel
theorem dX5_canAny_38 : decode cX5_canAny 38 = .ok (.ifCond .ne 26, 3) := by decide +kernel
theorem dX5_canAny_41 : decode cX5_canAny 41 = .ok (.aload_n 0, 1) := by decide +kernel
theorem dX5_canAny_42 : decode cX5_canAny 42 = .ok (.iload_n 2, 1) := by decide +kernel
theorem dX5_canAny_43 : decode cX5_canAny 43 = .ok (.iconst 1, 1) := by decide +kernel
theorem dX5_canAny_44 : decode cX5_canAny 44 = .ok (.invokevirtual 139, 3) := by decide +kernel
theorem dX5_canAny_47 : decode cX5_canAny 47 = .ok (.aload_n 0, 1) := by decide +kernel
theorem dX5_canAny_48 : decode cX5_canAny 48 = .ok (.invokevirtual 129, 3) := by decide +kernel
theorem dX5_canAny_51 : decode cX5_canAny 51 = .ok (.istore_n 1, 1) := by decide +kernel
theorem dX5_canAny_52 : decode cX5_canAny 52 = .ok (.aload_n 0, 1) := by decide +kernel
theorem dX5_canAny_53 : decode cX5_canAny 53 = .ok (.iload_n 2, 1) := by decide +kernel
theorem dX5_canAny_54 : decode cX5_canAny 54 = .ok (.iconst (-1), 1) := by decide +kernel
theorem dX5_canAny_55 : decode cX5_canAny 55 = .ok (.invokevirtual 139, 3) := by decide +kernel
theorem dX5_canAny_58 : decode cX5_canAny 58 = .ok (.iinc 2 1, 3) := by decide +kernel
theorem dX5_canAny_61 : decode cX5_canAny 61 = .ok (.goto (-34), 3) := by decide +kernel
theorem dX5_canAny_64 : decode cX5_canAny 64 = .ok (.iload_n 1, 1) := by decide +kernel
theorem dX5_canAny_65 : decode cX5_canAny 65 = .ok (.ireturn, 1) := by decide +kernel
set_option maxRecDepth 20000 in
theorem ggX5_moveSet_X5_moves : GoodIn wsX5_moveSet wsX5_moves := goodIn_r _ [7, 8, 9, 10, 11, 12, 13, 14, 15, 16, 17, 18, 19, 20, 21, 22, 23, 24, 25, 26, 27, 28, 29, 30, 31, 32, 33, 34, 35, 36, 37] (by decide +kernel) (by decide +kernel)
set_option maxRecDepth 20000 in
theorem gX5_moveSet_X5_moves : GoodIn wsX5_moveSet (wsV RX5 108 RX5 yX5_moves wsX5_moves) := goodIn_app (goodIn_of _ (by decide +kernel)) ggX5_moveSet_X5_moves
theorem dX5_moveSet_0 : decode cX5_moveSet 0 = .ok (.iconst 0, 1) := by decide +kernel
theorem dX5_moveSet_1 : decode cX5_moveSet 1 = .ok (.istore_n 3, 1) := by decide +kernel
theorem dX5_moveSet_2 : decode cX5_moveSet 2 = .ok (.iconst 0, 1) := by decide +kernel
theorem dX5_moveSet_3 : decode cX5_moveSet 3 = .ok (.istore 4, 2) := by decide +kernel
theorem dX5_moveSet_5 : decode cX5_moveSet 5 = .ok (.iload 4, 2) := by decide +kernel
theorem dX5_moveSet_7 : decode cX5_moveSet 7 = .ok (.aload_n 0, 1) := by decide +kernel
theorem dX5_moveSet_8 : decode cX5_moveSet 8 = .ok (.getfield 79, 3) := by decide +kernel
theorem dX5_moveSet_11 : decode cX5_moveSet 11 = .ok (.if_icmp .ge 38, 3) := by decide +kernel
theorem dX5_moveSet_14 : decode cX5_moveSet 14 = .ok (.aload_n 0, 1) := by decide +kernel
theorem dX5_moveSet_15 : decode cX5_moveSet 15 = .ok (.getfield 41, 3) := by decide +kernel
theorem dX5_moveSet_18 : decode cX5_moveSet 18 = .ok (.iload 4, 2) := by decide +kernel
theorem dX5_moveSet_20 : decode cX5_moveSet 20 = .ok (.baload, 1) := by decide +kernel
theorem dX5_moveSet_21 : decode cX5_moveSet 21 = .ok (.ifCond .eq 22, 3) := by decide +kernel
theorem dX5_moveSet_24 : decode cX5_moveSet 24 = .ok (.iload_n 1, 1) := by decide +kernel
theorem dX5_moveSet_25 : decode cX5_moveSet 25 = .ok (.iload_n 3, 1) := by decide +kernel
theorem dX5_moveSet_26 : decode cX5_moveSet 26 = .ok (.ishr, 1) := by decide +kernel
theorem dX5_moveSet_27 : decode cX5_moveSet 27 = .ok (.iconst 1, 1) := by decide +kernel
theorem dX5_moveSet_28 : decode cX5_moveSet 28 = .ok (.iand, 1) := by decide +kernel
theorem dX5_moveSet_29 : decode cX5_moveSet 29 = .ok (.iconst 1, 1) := by decide +kernel
theorem dX5_moveSet_30 : decode cX5_moveSet 30 = .ok (.if_icmp .ne 10, 3) := by decide +kernel
theorem dX5_moveSet_33 : decode cX5_moveSet 33 = .ok (.aload_n 0, 1) := by decide +kernel
theorem dX5_moveSet_34 : decode cX5_moveSet 34 = .ok (.iload 4, 2) := by decide +kernel
theorem dX5_moveSet_36 : decode cX5_moveSet 36 = .ok (.iload_n 2, 1) := by decide +kernel
theorem dX5_moveSet_37 : decode cX5_moveSet 37 = .ok (.invokevirtual 108, 3) := by decide +kernel
theorem dX5_moveSet_40 : decode cX5_moveSet 40 = .ok (.iinc 3 1, 3) := by decide +kernel
theorem dX5_moveSet_43 : decode cX5_moveSet 43 = .ok (.iinc 4 1, 3) := by decide +kernel
theorem dX5_moveSet_46 : decode cX5_moveSet 46 = .ok (.goto (-41), 3) := by decide +kernel
theorem dX5_moveSet_49 : decode cX5_moveSet 49 = .ok (.return_, 1) := by decide +kernel
set_option maxRecDepth 20000 in
theorem ggX5_setPrice_X5_in : GoodIn wsX5_setPrice wsX5_in := goodIn_r _ [6] (by decide +kernel) (by decide +kernel)
set_option maxRecDepth 20000 in
theorem gX5_setPrice_X5_in : GoodIn wsX5_setPrice (va_wsS RX5 90 yX5_in wsX5_in) := goodIn_app (goodIn_of _ (by decide +kernel)) ggX5_setPrice_X5_in
set_option maxRecDepth 20000 in
theorem ggX5_setPrice_X5_asks : GoodIn wsX5_setPrice wsX5_asks := goodIn_r _ [10, 11, 12, 13, 14, 15, 16, 17, 18, 19, 20, 21, 22, 23, 24, 25, 26, 27, 28, 29, 30, 31, 32, 33, 34, 35, 36] (by decide +kernel) (by decide +kernel)
set_option maxRecDepth 20000 in
theorem gX5_setPrice_X5_asks : GoodIn wsX5_setPrice (wsV RX5 86 RX5 yX5_asks wsX5_asks) := goodIn_app (goodIn_of _ (by decide +kernel)) ggX5_setPrice_X5_asks
theorem dX5_setPrice_0 : decode cX5_setPrice 0 = .ok (.aload_n 0, 1) := by decide +kernel
theorem dX5_setPrice_1 : decode cX5_setPrice 1 = .ok (.iload_n 1, 1) := by decide +kernel
theorem dX5_setPrice_2 : decode cX5_setPrice 2 = .ok (.iconst 1, 1) := by decide +kernel
theorem dX5_setPrice_3 : decode cX5_setPrice 3 = .ok (.sipush 1000, 3) := by decide +kernel
theorem dX5_setPrice_6 : decode cX5_setPrice 6 = .ok (.invokestatic 90, 3) := by decide +kernel
theorem dX5_setPrice_9 : decode cX5_setPrice 9 = .ok (.ifCond .eq 18, 3) := by decide +kernel
theorem dX5_setPrice_12 : decode cX5_setPrice 12 = .ok (.iload_n 2, 1) := by decide +kernel
theorem dX5_setPrice_13 : decode cX5_setPrice 13 = .ok (.iconst 0, 1) := by decide +kernel
theorem dX5_setPrice_14 : decode cX5_setPrice 14 = .ok (.sipush 1000, 3) := by decide +kernel
theorem dX5_setPrice_17 : decode cX5_setPrice 17 = .ok (.invokestatic 90, 3) := by decide +kernel
theorem dX5_setPrice_20 : decode cX5_setPrice 20 = .ok (.ifCond .eq 7, 3) := by decide +kernel
theorem dX5_setPrice_23 : decode cX5_setPrice 23 = .ok (.iconst 1, 1) := by decide +kernel
theorem dX5_setPrice_24 : decode cX5_setPrice 24 = .ok (.goto 4, 3) := by decide +kernel
theorem dX5_setPrice_27 : decode cX5_setPrice 27 = .ok (.iconst 0, 1) := by decide +kernel
theorem dX5_setPrice_28 : decode cX5_setPrice 28 = .ok (.invokevirtual 86, 3) := by decide +kernel
theorem dX5_setPrice_31 : decode cX5_setPrice 31 = .ok (.ifCond .eq 13, 3) := by decide +kernel
theorem dX5_setPrice_34 : decode cX5_setPrice 34 = .ok (.aload_n 0, 1) := by decide +kernel
theorem dX5_setPrice_35 : decode cX5_setPrice 35 = .ok (.iload_n 1, 1) := by decide +kernel
theorem dX5_setPrice_36 : decode cX5_setPrice 36 = .ok (.putfield 69, 3) := by decide +kernel
theorem dX5_setPrice_39 : decode cX5_setPrice 39 = .ok (.aload_n 0, 1) := by decide +kernel
theorem dX5_setPrice_40 : decode cX5_setPrice 40 = .ok (.iload_n 2, 1) := by decide +kernel
theorem dX5_setPrice_41 : decode cX5_setPrice 41 = .ok (.putfield 72, 3) := by decide +kernel
theorem dX5_setPrice_44 : decode cX5_setPrice 44 = .ok (.return_, 1) := by decide +kernel
set_option maxRecDepth 20000 in
theorem ggX5_lend_X5_isBank : GoodIn wsX5_lend wsX5_isBank := goodIn_r _ [19] (by decide +kernel) (by decide +kernel)
set_option maxRecDepth 20000 in
theorem gX5_lend_X5_isBank : GoodIn wsX5_lend (va_wsS RX5 82 yX5_isBank wsX5_isBank) := goodIn_app (goodIn_of _ (by decide +kernel)) ggX5_lend_X5_isBank
set_option maxRecDepth 20000 in
theorem ggX5_lend_X5_asks : GoodIn wsX5_lend wsX5_asks := goodIn_r _ [23, 24, 32, 33, 34, 35, 36, 37, 38, 39, 40, 41, 42, 43, 44, 45, 46, 47, 48, 49, 50, 51, 52, 53, 54, 55, 56] (by decide +kernel) (by decide +kernel)
set_option maxRecDepth 20000 in
theorem gX5_lend_X5_asks : GoodIn wsX5_lend (wsV RX5 86 RX5 yX5_asks wsX5_asks) := goodIn_app (goodIn_of _ (by decide +kernel)) ggX5_lend_X5_asks
set_option maxRecDepth 20000 in
theorem ggX5_lend_X5_in : GoodIn wsX5_lend wsX5_in := goodIn_r _ [27] (by decide +kernel) (by decide +kernel)
set_option maxRecDepth 20000 in
theorem gX5_lend_X5_in : GoodIn wsX5_lend (va_wsS RX5 90 yX5_in wsX5_in) := goodIn_app (goodIn_of _ (by decide +kernel)) ggX5_lend_X5_in
set_option maxRecDepth 20000 in
theorem ggX5_lend_X5_fails : GoodIn wsX5_lend wsX5_fails := goodIn_r _ [31, 24, 32, 33, 34, 35, 36, 37, 38, 39, 40, 41, 42, 43, 44, 45, 46, 47, 48, 49, 50, 51, 52, 53, 54, 55, 56] (by decide +kernel) (by decide +kernel)
set_option maxRecDepth 20000 in
theorem gX5_lend_X5_fails : GoodIn wsX5_lend (wsV RX5 94 RX5 yX5_fails wsX5_fails) := goodIn_app (goodIn_of _ (by decide +kernel)) ggX5_lend_X5_fails
theorem dX5_lend_0 : decode cX5_lend 0 = .ok (.aload_n 0, 1) := by decide +kernel
theorem dX5_lend_1 : decode cX5_lend 1 = .ok (.iload_n 1, 1) := by decide +kernel
theorem dX5_lend_2 : decode cX5_lend 2 = .ok (.invokestatic 82, 3) := by decide +kernel
theorem dX5_lend_5 : decode cX5_lend 5 = .ok (.ifCond .eq 14, 3) := by decide +kernel
theorem dX5_lend_8 : decode cX5_lend 8 = .ok (.iload_n 2, 1) := by decide +kernel
theorem dX5_lend_9 : decode cX5_lend 9 = .ok (.invokestatic 82, 3) := by decide +kernel
theorem dX5_lend_12 : decode cX5_lend 12 = .ok (.ifCond .eq 7, 3) := by decide +kernel
theorem dX5_lend_15 : decode cX5_lend 15 = .ok (.iconst 1, 1) := by decide +kernel
theorem dX5_lend_16 : decode cX5_lend 16 = .ok (.goto 4, 3) := by decide +kernel
theorem dX5_lend_19 : decode cX5_lend 19 = .ok (.iconst 0, 1) := by decide +kernel
theorem dX5_lend_20 : decode cX5_lend 20 = .ok (.invokevirtual 86, 3) := by decide +kernel
theorem dX5_lend_23 : decode cX5_lend 23 = .ok (.ifCond .ne 5, 3) := by decide +kernel
theorem dX5_lend_26 : decode cX5_lend 26 = .ok (.iconst 0, 1) := by decide +kernel
theorem dX5_lend_27 : decode cX5_lend 27 = .ok (.ireturn, 1) := by decide +kernel
theorem dX5_lend_28 : decode cX5_lend 28 = .ok (.iload_n 1, 1) := by decide +kernel
theorem dX5_lend_29 : decode cX5_lend 29 = .ok (.iload_n 2, 1) := by decide +kernel
theorem dX5_lend_30 : decode cX5_lend 30 = .ok (.if_icmp .eq 37, 3) := by decide +kernel
theorem dX5_lend_33 : decode cX5_lend 33 = .ok (.iload_n 3, 1) := by decide +kernel
theorem dX5_lend_34 : decode cX5_lend 34 = .ok (.iconst 1, 1) := by decide +kernel
theorem dX5_lend_35 : decode cX5_lend 35 = .ok (.ldc 100, 2) := by decide +kernel
theorem dX5_lend_37 : decode cX5_lend 37 = .ok (.invokestatic 90, 3) := by decide +kernel
theorem dX5_lend_40 : decode cX5_lend 40 = .ok (.ifCond .eq 27, 3) := by decide +kernel
theorem dX5_lend_43 : decode cX5_lend 43 = .ok (.iload 4, 2) := by decide +kernel
theorem dX5_lend_45 : decode cX5_lend 45 = .ok (.iconst 0, 1) := by decide +kernel
theorem dX5_lend_46 : decode cX5_lend 46 = .ok (.sipush 200, 3) := by decide +kernel
theorem dX5_lend_49 : decode cX5_lend 49 = .ok (.invokestatic 90, 3) := by decide +kernel
theorem dX5_lend_52 : decode cX5_lend 52 = .ok (.ifCond .eq 15, 3) := by decide +kernel
theorem dX5_lend_55 : decode cX5_lend 55 = .ok (.iload 5, 2) := by decide +kernel
theorem dX5_lend_57 : decode cX5_lend 57 = .ok (.iconst 0, 1) := by decide +kernel
theorem dX5_lend_58 : decode cX5_lend 58 = .ok (.sipush 1000, 3) := by decide +kernel
theorem dX5_lend_61 : decode cX5_lend 61 = .ok (.invokestatic 90, 3) := by decide +kernel
theorem dX5_lend_64 : decode cX5_lend 64 = .ok (.ifCond .ne 9, 3) := by decide +kernel
theorem dX5_lend_67 : decode cX5_lend 67 = .ok (.aload_n 0, 1) := by decide +kernel
theorem dX5_lend_68 : decode cX5_lend 68 = .ok (.iconst 2, 1) := by decide +kernel
theorem dX5_lend_69 : decode cX5_lend 69 = .ok (.invokevirtual 94, 3) := by decide +kernel
theorem dX5_lend_72 : decode cX5_lend 72 = .ok (.ireturn, 1) := by decide +kernel
theorem dX5_lend_73 : decode cX5_lend 73 = .ok (.iload 5, 2) := by decide +kernel
theorem dX5_lend_75 : decode cX5_lend 75 = .ok (.i2l, 1) := by decide +kernel
theorem dX5_lend_76 : decode cX5_lend 76 = .ok (.aload_n 0, 1) := by decide +kernel
theorem dX5_lend_77 : decode cX5_lend 77 = .ok (.getfield 69, 3) := by decide +kernel
theorem dX5_lend_80 : decode cX5_lend 80 = .ok (.i2l, 1) := by decide +kernel
theorem dX5_lend_81 : decode cX5_lend 81 = .ok (.lmul, 1) := by decide +kernel
theorem dX5_lend_82 : decode cX5_lend 82 = .ok (.sipush 1000, 3) := by decide +kernel
theorem dX5_lend_85 : decode cX5_lend 85 = .ok (.aload_n 0, 1) := by decide +kernel
theorem dX5_lend_86 : decode cX5_lend 86 = .ok (.getfield 72, 3) := by decide +kernel
theorem dX5_lend_89 : decode cX5_lend 89 = .ok (.isub, 1) := by decide +kernel
theorem dX5_lend_90 : decode cX5_lend 90 = .ok (.i2l, 1) := by decide +kernel
theorem dX5_lend_91 : decode cX5_lend 91 = .ok (.lmul, 1) := by decide +kernel
theorem dX5_lend_92 : decode cX5_lend 92 = .ok (.ldc2_w 142, 3) := by decide +kernel
theorem dX5_lend_95 : decode cX5_lend 95 = .ok (.ldiv, 1) := by decide +kernel
theorem dX5_lend_96 : decode cX5_lend 96 = .ok (.lstore 6, 2) := by decide +kernel
theorem dX5_lend_98 : decode cX5_lend 98 = .ok (.aload_n 0, 1) := by decide +kernel
theorem dX5_lend_99 : decode cX5_lend 99 = .ok (.getfield 19, 3) := by decide +kernel
theorem dX5_lend_102 : decode cX5_lend 102 = .ok (.iload_n 1, 1) := by decide +kernel
theorem dX5_lend_103 : decode cX5_lend 103 = .ok (.baload, 1) := by decide +kernel
theorem dX5_lend_104 : decode cX5_lend 104 = .ok (.ifCond .ne 57, 3) := by decide +kernel
theorem dX5_lend_107 : decode cX5_lend 107 = .ok (.aload_n 0, 1) := by decide +kernel
theorem dX5_lend_108 : decode cX5_lend 108 = .ok (.getfield 19, 3) := by decide +kernel
theorem dX5_lend_111 : decode cX5_lend 111 = .ok (.iload_n 2, 1) := by decide +kernel
theorem dX5_lend_112 : decode cX5_lend 112 = .ok (.baload, 1) := by decide +kernel
theorem dX5_lend_113 : decode cX5_lend 113 = .ok (.ifCond .ne 48, 3) := by decide +kernel
theorem dX5_lend_116 : decode cX5_lend 116 = .ok (.aload_n 0, 1) := by decide +kernel
theorem dX5_lend_117 : decode cX5_lend 117 = .ok (.getfield 144, 3) := by decide +kernel
theorem dX5_lend_120 : decode cX5_lend 120 = .ok (.bipush 40, 2) := by decide +kernel
theorem dX5_lend_122 : decode cX5_lend 122 = .ok (.if_icmp .eq 39, 3) := by decide +kernel
theorem dX5_lend_125 : decode cX5_lend 125 = .ok (.aload_n 0, 1) := by decide +kernel
theorem dX5_lend_126 : decode cX5_lend 126 = .ok (.getfield 16, 3) := by decide +kernel
theorem dX5_lend_129 : decode cX5_lend 129 = .ok (.iload_n 2, 1) := by decide +kernel
theorem dX5_lend_130 : decode cX5_lend 130 = .ok (.iaload, 1) := by decide +kernel
theorem dX5_lend_131 : decode cX5_lend 131 = .ok (.iload 5, 2) := by decide +kernel
theorem dX5_lend_133 : decode cX5_lend 133 = .ok (.if_icmp .lt 28, 3) := by decide +kernel
theorem dX5_lend_136 : decode cX5_lend 136 = .ok (.lload 6, 2) := by decide +kernel
theorem dX5_lend_138 : decode cX5_lend 138 = .ok (.iload_n 3, 1) := by decide +kernel
theorem dX5_lend_139 : decode cX5_lend 139 = .ok (.i2l, 1) := by decide +kernel
theorem dX5_lend_140 : decode cX5_lend 140 = .ok (.lcmp, 1) := by decide +kernel
theorem dX5_lend_141 : decode cX5_lend 141 = .ok (.ifCond .lt 20, 3) := by decide +kernel
theorem dX5_lend_144 : decode cX5_lend 144 = .ok (.aload_n 0, 1) := by decide +kernel
theorem dX5_lend_145 : decode cX5_lend 145 = .ok (.getfield 7, 3) := by decide +kernel
theorem dX5_lend_148 : decode cX5_lend 148 = .ok (.iload_n 1, 1) := by decide +kernel
theorem dX5_lend_149 : decode cX5_lend 149 = .ok (.iaload, 1) := by decide +kernel
theorem dX5_lend_150 : decode cX5_lend 150 = .ok (.iload_n 3, 1) := by decide +kernel
theorem dX5_lend_151 : decode cX5_lend 151 = .ok (.isub, 1) := by decide +kernel
theorem dX5_lend_152 : decode cX5_lend 152 = .ok (.aload_n 0, 1) := by decide +kernel
theorem dX5_lend_153 : decode cX5_lend 153 = .ok (.getfield 13, 3) := by decide +kernel
theorem dX5_lend_156 : decode cX5_lend 156 = .ok (.iload_n 1, 1) := by decide +kernel
theorem dX5_lend_157 : decode cX5_lend 157 = .ok (.iaload, 1) := by decide +kernel
theorem dX5_lend_158 : decode cX5_lend 158 = .ok (.if_icmp .ge 9, 3) := by decide +kernel
theorem dX5_lend_161 : decode cX5_lend 161 = .ok (.aload_n 0, 1) := by decide +kernel
theorem dX5_lend_162 : decode cX5_lend 162 = .ok (.iconst 3, 1) := by decide +kernel
theorem dX5_lend_163 : decode cX5_lend 163 = .ok (.invokevirtual 94, 3) := by decide +kernel
theorem dX5_lend_166 : decode cX5_lend 166 = .ok (.ireturn, 1) := by decide +kernel
theorem dX5_lend_167 : decode cX5_lend 167 = .ok (.aload_n 0, 1) := by decide +kernel
theorem dX5_lend_168 : decode cX5_lend 168 = .ok (.getfield 51, 3) := by decide +kernel
theorem dX5_lend_171 : decode cX5_lend 171 = .ok (.aload_n 0, 1) := by decide +kernel
theorem dX5_lend_172 : decode cX5_lend 172 = .ok (.getfield 144, 3) := by decide +kernel
theorem dX5_lend_175 : decode cX5_lend 175 = .ok (.iload_n 1, 1) := by decide +kernel
theorem dX5_lend_176 : decode cX5_lend 176 = .ok (.iastore, 1) := by decide +kernel
theorem dX5_lend_177 : decode cX5_lend 177 = .ok (.aload_n 0, 1) := by decide +kernel
theorem dX5_lend_178 : decode cX5_lend 178 = .ok (.getfield 54, 3) := by decide +kernel
theorem dX5_lend_181 : decode cX5_lend 181 = .ok (.aload_n 0, 1) := by decide +kernel
theorem dX5_lend_182 : decode cX5_lend 182 = .ok (.getfield 144, 3) := by decide +kernel
theorem dX5_lend_185 : decode cX5_lend 185 = .ok (.iload_n 2, 1) := by decide +kernel
theorem dX5_lend_186 : decode cX5_lend 186 = .ok (.iastore, 1) := by decide +kernel
theorem dX5_lend_187 : decode cX5_lend 187 = .ok (.aload_n 0, 1) := by decide +kernel
theorem dX5_lend_188 : decode cX5_lend 188 = .ok (.getfield 57, 3) := by decide +kernel
theorem dX5_lend_191 : decode cX5_lend 191 = .ok (.aload_n 0, 1) := by decide +kernel
theorem dX5_lend_192 : decode cX5_lend 192 = .ok (.getfield 144, 3) := by decide +kernel
theorem dX5_lend_195 : decode cX5_lend 195 = .ok (.iload_n 3, 1) := by decide +kernel
theorem dX5_lend_196 : decode cX5_lend 196 = .ok (.iastore, 1) := by decide +kernel
theorem dX5_lend_197 : decode cX5_lend 197 = .ok (.aload_n 0, 1) := by decide +kernel
theorem dX5_lend_198 : decode cX5_lend 198 = .ok (.getfield 60, 3) := by decide +kernel
theorem dX5_lend_201 : decode cX5_lend 201 = .ok (.aload_n 0, 1) := by decide +kernel
theorem dX5_lend_202 : decode cX5_lend 202 = .ok (.getfield 144, 3) := by decide +kernel
theorem dX5_lend_205 : decode cX5_lend 205 = .ok (.iload 4, 2) := by decide +kernel
theorem dX5_lend_207 : decode cX5_lend 207 = .ok (.iastore, 1) := by decide +kernel
theorem dX5_lend_208 : decode cX5_lend 208 = .ok (.aload_n 0, 1) := by decide +kernel
theorem dX5_lend_209 : decode cX5_lend 209 = .ok (.getfield 63, 3) := by decide +kernel
theorem dX5_lend_212 : decode cX5_lend 212 = .ok (.aload_n 0, 1) := by decide +kernel
theorem dX5_lend_213 : decode cX5_lend 213 = .ok (.getfield 144, 3) := by decide +kernel
theorem dX5_lend_216 : decode cX5_lend 216 = .ok (.iload 5, 2) := by decide +kernel
theorem dX5_lend_218 : decode cX5_lend 218 = .ok (.iastore, 1) := by decide +kernel
theorem dX5_lend_219 : decode cX5_lend 219 = .ok (.aload_n 0, 1) := by decide +kernel
theorem dX5_lend_220 : decode cX5_lend 220 = .ok (.getfield 66, 3) := by decide +kernel
theorem dX5_lend_223 : decode cX5_lend 223 = .ok (.aload_n 0, 1) := by decide +kernel
theorem dX5_lend_224 : decode cX5_lend 224 = .ok (.getfield 144, 3) := by decide +kernel
theorem dX5_lend_227 : decode cX5_lend 227 = .ok (.iconst 1, 1) := by decide +kernel
theorem dX5_lend_228 : decode cX5_lend 228 = .ok (.bastore, 1) := by decide +kernel
theorem dX5_lend_229 : decode cX5_lend 229 = .ok (.aload_n 0, 1) := by decide +kernel
theorem dX5_lend_230 : decode cX5_lend 230 = .ok (.getfield 7, 3) := by decide +kernel
theorem dX5_lend_233 : decode cX5_lend 233 = .ok (.iload_n 1, 1) := by decide +kernel
theorem dX5_lend_234 : decode cX5_lend 234 = .ok (.dup2, 1) := by decide +kernel
theorem dX5_lend_235 : decode cX5_lend 235 = .ok (.iaload, 1) := by decide +kernel
theorem dX5_lend_236 : decode cX5_lend 236 = .ok (.iload_n 3, 1) := by decide +kernel
theorem dX5_lend_237 : decode cX5_lend 237 = .ok (.isub, 1) := by decide +kernel
theorem dX5_lend_238 : decode cX5_lend 238 = .ok (.iastore, 1) := by decide +kernel
theorem dX5_lend_239 : decode cX5_lend 239 = .ok (.aload_n 0, 1) := by decide +kernel
theorem dX5_lend_240 : decode cX5_lend 240 = .ok (.getfield 7, 3) := by decide +kernel
theorem dX5_lend_243 : decode cX5_lend 243 = .ok (.iload_n 2, 1) := by decide +kernel
theorem dX5_lend_244 : decode cX5_lend 244 = .ok (.dup2, 1) := by decide +kernel
theorem dX5_lend_245 : decode cX5_lend 245 = .ok (.iaload, 1) := by decide +kernel
theorem dX5_lend_246 : decode cX5_lend 246 = .ok (.iload_n 3, 1) := by decide +kernel
theorem dX5_lend_247 : decode cX5_lend 247 = .ok (.iadd, 1) := by decide +kernel
theorem dX5_lend_248 : decode cX5_lend 248 = .ok (.iastore, 1) := by decide +kernel
theorem dX5_lend_249 : decode cX5_lend 249 = .ok (.aload_n 0, 1) := by decide +kernel
theorem dX5_lend_250 : decode cX5_lend 250 = .ok (.getfield 16, 3) := by decide +kernel
theorem dX5_lend_253 : decode cX5_lend 253 = .ok (.iload_n 2, 1) := by decide +kernel
theorem dX5_lend_254 : decode cX5_lend 254 = .ok (.dup2, 1) := by decide +kernel
theorem dX5_lend_255 : decode cX5_lend 255 = .ok (.iaload, 1) := by decide +kernel
theorem dX5_lend_256 : decode cX5_lend 256 = .ok (.iload 5, 2) := by decide +kernel
theorem dX5_lend_258 : decode cX5_lend 258 = .ok (.isub, 1) := by decide +kernel
theorem dX5_lend_259 : decode cX5_lend 259 = .ok (.iastore, 1) := by decide +kernel
theorem dX5_lend_260 : decode cX5_lend 260 = .ok (.aload_n 0, 1) := by decide +kernel
theorem dX5_lend_261 : decode cX5_lend 261 = .ok (.dup, 1) := by decide +kernel
theorem dX5_lend_262 : decode cX5_lend 262 = .ok (.getfield 144, 3) := by decide +kernel
theorem dX5_lend_265 : decode cX5_lend 265 = .ok (.iconst 1, 1) := by decide +kernel
theorem dX5_lend_266 : decode cX5_lend 266 = .ok (.iadd, 1) := by decide +kernel
theorem dX5_lend_267 : decode cX5_lend 267 = .ok (.putfield 144, 3) := by decide +kernel
theorem dX5_lend_270 : decode cX5_lend 270 = .ok (.aload_n 0, 1) := by decide +kernel
theorem dX5_lend_271 : decode cX5_lend 271 = .ok (.getfield 144, 3) := by decide +kernel
theorem dX5_lend_274 : decode cX5_lend 274 = .ok (.iconst 1, 1) := by decide +kernel
theorem dX5_lend_275 : decode cX5_lend 275 = .ok (.isub, 1) := by decide +kernel
theorem dX5_lend_276 : decode cX5_lend 276 = .ok (.ireturn, 1) := by decide +kernel
theorem dX5_loans_0 : decode cX5_loans 0 = .ok (.aload_n 0, 1) := by decide +kernel
theorem dX5_loans_1 : decode cX5_loans 1 = .ok (.iconst 0, 1) := by decide +kernel
theorem dX5_loans_2 : decode cX5_loans 2 = .ok (.putfield 76, 3) := by decide +kernel
theorem dX5_loans_5 : decode cX5_loans 5 = .ok (.iconst 0, 1) := by decide +kernel
theorem dX5_loans_6 : decode cX5_loans 6 = .ok (.istore_n 1, 1) := by decide +kernel
theorem dX5_loans_7 : decode cX5_loans 7 = .ok (.iconst 0, 1) := by decide +kernel
theorem dX5_loans_8 : decode cX5_loans 8 = .ok (.istore_n 2, 1) := by decide +kernel
theorem dX5_loans_9 : decode cX5_loans 9 = .ok (.iload_n 2, 1) := by decide +kernel
theorem dX5_loans_10 : decode cX5_loans 10 = .ok (.aload_n 0, 1) := by decide +kernel
theorem dX5_loans_11 : decode cX5_loans 11 = .ok (.getfield 144, 3) := by decide +kernel
theorem dX5_loans_14 : decode cX5_loans 14 = .ok (.if_icmp .ge 26, 3) := by decide +kernel
theorem dX5_loans_17 : decode cX5_loans 17 = .ok (.iload_n 1, 1) := by decide +kernel
theorem dX5_loans_18 : decode cX5_loans 18 = .ok (.aload_n 0, 1) := by decide +kernel
theorem dX5_loans_19 : decode cX5_loans 19 = .ok (.getfield 66, 3) := by decide +kernel
theorem dX5_loans_22 : decode cX5_loans 22 = .ok (.iload_n 2, 1) := by decide +kernel
theorem dX5_loans_23 : decode cX5_loans 23 = .ok (.baload, 1) := by decide +kernel
theorem dX5_loans_24 : decode cX5_loans 24 = .ok (.ifCond .eq 7, 3) := by decide +kernel
theorem dX5_loans_27 : decode cX5_loans 27 = .ok (.iconst 1, 1) := by decide +kernel
theorem dX5_loans_28 : decode cX5_loans 28 = .ok (.goto 4, 3) := by decide +kernel
theorem dX5_loans_31 : decode cX5_loans 31 = .ok (.iconst 0, 1) := by decide +kernel
theorem dX5_loans_32 : decode cX5_loans 32 = .ok (.iadd, 1) := by decide +kernel
theorem dX5_loans_33 : decode cX5_loans 33 = .ok (.istore_n 1, 1) := by decide +kernel
theorem dX5_loans_34 : decode cX5_loans 34 = .ok (.iinc 2 1, 3) := by decide +kernel
theorem dX5_loans_37 : decode cX5_loans 37 = .ok (.goto (-28), 3) := by decide +kernel
theorem dX5_loans_40 : decode cX5_loans 40 = .ok (.iload_n 1, 1) := by decide +kernel
theorem dX5_loans_41 : decode cX5_loans 41 = .ok (.ireturn, 1) := by decide +kernel
theorem dX5_closes_0 : decode cX5_closes 0 = .ok (.aload_n 0, 1) := by decide +kernel
theorem dX5_closes_1 : decode cX5_closes 1 = .ok (.getfield 19, 3) := by decide +kernel
theorem dX5_closes_4 : decode cX5_closes 4 = .ok (.iload_n 1, 1) := by decide +kernel
theorem dX5_closes_5 : decode cX5_closes 5 = .ok (.iconst 1, 1) := by decide +kernel
theorem dX5_closes_6 : decode cX5_closes 6 = .ok (.bastore, 1) := by decide +kernel
theorem dX5_closes_7 : decode cX5_closes 7 = .ok (.iconst 0, 1) := by decide +kernel
theorem dX5_closes_8 : decode cX5_closes 8 = .ok (.istore_n 2, 1) := by decide +kernel
theorem dX5_closes_9 : decode cX5_closes 9 = .ok (.iload_n 2, 1) := by decide +kernel
theorem dX5_closes_10 : decode cX5_closes 10 = .ok (.aload_n 0, 1) := by decide +kernel
theorem dX5_closes_11 : decode cX5_closes 11 = .ok (.getfield 79, 3) := by decide +kernel
theorem dX5_closes_14 : decode cX5_closes 14 = .ok (.if_icmp .ge 49, 3) := by decide +kernel
theorem dX5_closes_17 : decode cX5_closes 17 = .ok (.aload_n 0, 1) := by decide +kernel
theorem dX5_closes_18 : decode cX5_closes 18 = .ok (.getfield 41, 3) := by decide +kernel
theorem dX5_closes_21 : decode cX5_closes 21 = .ok (.iload_n 2, 1) := by decide +kernel
theorem dX5_closes_22 : decode cX5_closes 22 = .ok (.aload_n 0, 1) := by decide +kernel
theorem dX5_closes_23 : decode cX5_closes 23 = .ok (.getfield 41, 3) := by decide +kernel
theorem dX5_closes_26 : decode cX5_closes 26 = .ok (.iload_n 2, 1) := by decide +kernel
theorem dX5_closes_27 : decode cX5_closes 27 = .ok (.baload, 1) := by decide +kernel
theorem dX5_closes_28 : decode cX5_closes 28 = .ok (.ifCond .eq 27, 3) := by decide +kernel
theorem dX5_closes_31 : decode cX5_closes 31 = .ok (.aload_n 0, 1) := by decide +kernel
theorem dX5_closes_32 : decode cX5_closes 32 = .ok (.getfield 29, 3) := by decide +kernel
theorem dX5_closes_35 : decode cX5_closes 35 = .ok (.iload_n 2, 1) := by decide +kernel
theorem dX5_closes_36 : decode cX5_closes 36 = .ok (.iaload, 1) := by decide +kernel
theorem dX5_closes_37 : decode cX5_closes 37 = .ok (.iload_n 1, 1) := by decide +kernel
theorem dX5_closes_38 : decode cX5_closes 38 = .ok (.if_icmp .eq 17, 3) := by decide +kernel
theorem dX5_closes_41 : decode cX5_closes 41 = .ok (.aload_n 0, 1) := by decide +kernel
theorem dX5_closes_42 : decode cX5_closes 42 = .ok (.getfield 32, 3) := by decide +kernel
theorem dX5_closes_45 : decode cX5_closes 45 = .ok (.iload_n 2, 1) := by decide +kernel
theorem dX5_closes_46 : decode cX5_closes 46 = .ok (.iaload, 1) := by decide +kernel
theorem dX5_closes_47 : decode cX5_closes 47 = .ok (.iload_n 1, 1) := by decide +kernel
theorem dX5_closes_48 : decode cX5_closes 48 = .ok (.if_icmp .eq 7, 3) := by decide +kernel
theorem dX5_closes_51 : decode cX5_closes 51 = .ok (.iconst 1, 1) := by decide +kernel
theorem dX5_closes_52 : decode cX5_closes 52 = .ok (.goto 4, 3) := by decide +kernel
theorem dX5_closes_55 : decode cX5_closes 55 = .ok (.iconst 0, 1) := by decide +kernel
theorem dX5_closes_56 : decode cX5_closes 56 = .ok (.bastore, 1) := by decide +kernel
theorem dX5_closes_57 : decode cX5_closes 57 = .ok (.iinc 2 1, 3) := by decide +kernel
theorem dX5_closes_60 : decode cX5_closes 60 = .ok (.goto (-51), 3) := by decide +kernel
theorem dX5_closes_63 : decode cX5_closes 63 = .ok (.return_, 1) := by decide +kernel
set_option maxRecDepth 20000 in
theorem ggX5_ends_X5_closes : GoodIn wsX5_ends wsX5_closes := goodIn_r _ [17, 5, 18, 19, 20, 21, 22, 23, 24, 25, 26, 27, 28, 29, 30, 31, 32, 33, 34, 35, 36, 37, 38, 39, 40, 41, 42, 43, 44, 45, 46] (by decide +kernel) (by decide +kernel)
set_option maxRecDepth 20000 in
theorem gX5_ends_X5_closes : GoodIn wsX5_ends (wsV RX5 150 RX5 yX5_closes wsX5_closes) := goodIn_app (goodIn_of _ (by decide +kernel)) ggX5_ends_X5_closes
theorem dX5_ends_0 : decode cX5_ends 0 = .ok (.aload_n 0, 1) := by decide +kernel
theorem dX5_ends_1 : decode cX5_ends 1 = .ok (.getfield 54, 3) := by decide +kernel
theorem dX5_ends_4 : decode cX5_ends 4 = .ok (.iload_n 1, 1) := by decide +kernel
theorem dX5_ends_5 : decode cX5_ends 5 = .ok (.iaload, 1) := by decide +kernel
theorem dX5_ends_6 : decode cX5_ends 6 = .ok (.istore_n 2, 1) := by decide +kernel
theorem dX5_ends_7 : decode cX5_ends 7 = .ok (.aload_n 0, 1) := by decide +kernel
theorem dX5_ends_8 : decode cX5_ends 8 = .ok (.getfield 57, 3) := by decide +kernel
theorem dX5_ends_11 : decode cX5_ends 11 = .ok (.iload_n 1, 1) := by decide +kernel
theorem dX5_ends_12 : decode cX5_ends 12 = .ok (.iaload, 1) := by decide +kernel
theorem dX5_ends_13 : decode cX5_ends 13 = .ok (.aload_n 0, 1) := by decide +kernel
theorem dX5_ends_14 : decode cX5_ends 14 = .ok (.getfield 57, 3) := by decide +kernel
theorem dX5_ends_17 : decode cX5_ends 17 = .ok (.iload_n 1, 1) := by decide +kernel
theorem dX5_ends_18 : decode cX5_ends 18 = .ok (.iaload, 1) := by decide +kernel
theorem dX5_ends_19 : decode cX5_ends 19 = .ok (.aload_n 0, 1) := by decide +kernel
theorem dX5_ends_20 : decode cX5_ends 20 = .ok (.getfield 60, 3) := by decide +kernel
theorem dX5_ends_23 : decode cX5_ends 23 = .ok (.iload_n 1, 1) := by decide +kernel
theorem dX5_ends_24 : decode cX5_ends 24 = .ok (.iaload, 1) := by decide +kernel
theorem dX5_ends_25 : decode cX5_ends 25 = .ok (.imul, 1) := by decide +kernel
theorem dX5_ends_26 : decode cX5_ends 26 = .ok (.sipush 1000, 3) := by decide +kernel
theorem dX5_ends_29 : decode cX5_ends 29 = .ok (.idiv, 1) := by decide +kernel
theorem dX5_ends_30 : decode cX5_ends 30 = .ok (.iadd, 1) := by decide +kernel
theorem dX5_ends_31 : decode cX5_ends 31 = .ok (.istore_n 3, 1) := by decide +kernel
theorem dX5_ends_32 : decode cX5_ends 32 = .ok (.aload_n 0, 1) := by decide +kernel
theorem dX5_ends_33 : decode cX5_ends 33 = .ok (.getfield 66, 3) := by decide +kernel
theorem dX5_ends_36 : decode cX5_ends 36 = .ok (.iload_n 1, 1) := by decide +kernel
theorem dX5_ends_37 : decode cX5_ends 37 = .ok (.iconst 0, 1) := by decide +kernel
theorem dX5_ends_38 : decode cX5_ends 38 = .ok (.bastore, 1) := by decide +kernel
theorem dX5_ends_39 : decode cX5_ends 39 = .ok (.aload_n 0, 1) := by decide +kernel
theorem dX5_ends_40 : decode cX5_ends 40 = .ok (.getfield 19, 3) := by decide +kernel
theorem dX5_ends_43 : decode cX5_ends 43 = .ok (.iload_n 2, 1) := by decide +kernel
theorem dX5_ends_44 : decode cX5_ends 44 = .ok (.baload, 1) := by decide +kernel
theorem dX5_ends_45 : decode cX5_ends 45 = .ok (.ifCond .ne 62, 3) := by decide +kernel
theorem dX5_ends_48 : decode cX5_ends 48 = .ok (.aload_n 0, 1) := by decide +kernel
theorem dX5_ends_49 : decode cX5_ends 49 = .ok (.getfield 7, 3) := by decide +kernel
theorem dX5_ends_52 : decode cX5_ends 52 = .ok (.iload_n 2, 1) := by decide +kernel
theorem dX5_ends_53 : decode cX5_ends 53 = .ok (.iaload, 1) := by decide +kernel
theorem dX5_ends_54 : decode cX5_ends 54 = .ok (.iload_n 3, 1) := by decide +kernel
theorem dX5_ends_55 : decode cX5_ends 55 = .ok (.isub, 1) := by decide +kernel
theorem dX5_ends_56 : decode cX5_ends 56 = .ok (.aload_n 0, 1) := by decide +kernel
theorem dX5_ends_57 : decode cX5_ends 57 = .ok (.getfield 13, 3) := by decide +kernel
theorem dX5_ends_60 : decode cX5_ends 60 = .ok (.iload_n 2, 1) := by decide +kernel
theorem dX5_ends_61 : decode cX5_ends 61 = .ok (.iaload, 1) := by decide +kernel
theorem dX5_ends_62 : decode cX5_ends 62 = .ok (.if_icmp .lt 45, 3) := by decide +kernel
theorem dX5_ends_65 : decode cX5_ends 65 = .ok (.aload_n 0, 1) := by decide +kernel
theorem dX5_ends_66 : decode cX5_ends 66 = .ok (.getfield 7, 3) := by decide +kernel
theorem dX5_ends_69 : decode cX5_ends 69 = .ok (.iload_n 2, 1) := by decide +kernel
theorem dX5_ends_70 : decode cX5_ends 70 = .ok (.dup2, 1) := by decide +kernel
theorem dX5_ends_71 : decode cX5_ends 71 = .ok (.iaload, 1) := by decide +kernel
theorem dX5_ends_72 : decode cX5_ends 72 = .ok (.iload_n 3, 1) := by decide +kernel
theorem dX5_ends_73 : decode cX5_ends 73 = .ok (.isub, 1) := by decide +kernel
theorem dX5_ends_74 : decode cX5_ends 74 = .ok (.iastore, 1) := by decide +kernel
theorem dX5_ends_75 : decode cX5_ends 75 = .ok (.aload_n 0, 1) := by decide +kernel
theorem dX5_ends_76 : decode cX5_ends 76 = .ok (.getfield 7, 3) := by decide +kernel
theorem dX5_ends_79 : decode cX5_ends 79 = .ok (.aload_n 0, 1) := by decide +kernel
theorem dX5_ends_80 : decode cX5_ends 80 = .ok (.getfield 51, 3) := by decide +kernel
theorem dX5_ends_83 : decode cX5_ends 83 = .ok (.iload_n 1, 1) := by decide +kernel
theorem dX5_ends_84 : decode cX5_ends 84 = .ok (.iaload, 1) := by decide +kernel
theorem dX5_ends_85 : decode cX5_ends 85 = .ok (.dup2, 1) := by decide +kernel
theorem dX5_ends_86 : decode cX5_ends 86 = .ok (.iaload, 1) := by decide +kernel
theorem dX5_ends_87 : decode cX5_ends 87 = .ok (.iload_n 3, 1) := by decide +kernel
theorem dX5_ends_88 : decode cX5_ends 88 = .ok (.iadd, 1) := by decide +kernel
theorem dX5_ends_89 : decode cX5_ends 89 = .ok (.iastore, 1) := by decide +kernel
theorem dX5_ends_90 : decode cX5_ends 90 = .ok (.aload_n 0, 1) := by decide +kernel
theorem dX5_ends_91 : decode cX5_ends 91 = .ok (.getfield 16, 3) := by decide +kernel
theorem dX5_ends_94 : decode cX5_ends 94 = .ok (.iload_n 2, 1) := by decide +kernel
theorem dX5_ends_95 : decode cX5_ends 95 = .ok (.dup2, 1) := by decide +kernel
theorem dX5_ends_96 : decode cX5_ends 96 = .ok (.iaload, 1) := by decide +kernel
theorem dX5_ends_97 : decode cX5_ends 97 = .ok (.aload_n 0, 1) := by decide +kernel
theorem dX5_ends_98 : decode cX5_ends 98 = .ok (.getfield 63, 3) := by decide +kernel
theorem dX5_ends_101 : decode cX5_ends 101 = .ok (.iload_n 1, 1) := by decide +kernel
theorem dX5_ends_102 : decode cX5_ends 102 = .ok (.iaload, 1) := by decide +kernel
theorem dX5_ends_103 : decode cX5_ends 103 = .ok (.iadd, 1) := by decide +kernel
theorem dX5_ends_104 : decode cX5_ends 104 = .ok (.iastore, 1) := by decide +kernel
theorem dX5_ends_105 : decode cX5_ends 105 = .ok (.iconst 0, 1) := by decide +kernel
theorem dX5_ends_106 : decode cX5_ends 106 = .ok (.ireturn, 1) := by decide +kernel
theorem dX5_ends_107 : decode cX5_ends 107 = .ok (.aload_n 0, 1) := by decide +kernel
theorem dX5_ends_108 : decode cX5_ends 108 = .ok (.getfield 63, 3) := by decide +kernel
theorem dX5_ends_111 : decode cX5_ends 111 = .ok (.iload_n 1, 1) := by decide +kernel
theorem dX5_ends_112 : decode cX5_ends 112 = .ok (.iaload, 1) := by decide +kernel
theorem dX5_ends_113 : decode cX5_ends 113 = .ok (.aload_n 0, 1) := by decide +kernel
theorem dX5_ends_114 : decode cX5_ends 114 = .ok (.getfield 69, 3) := by decide +kernel
theorem dX5_ends_117 : decode cX5_ends 117 = .ok (.imul, 1) := by decide +kernel
theorem dX5_ends_118 : decode cX5_ends 118 = .ok (.istore 4, 2) := by decide +kernel
theorem dX5_ends_120 : decode cX5_ends 120 = .ok (.iload 4, 2) := by decide +kernel
theorem dX5_ends_122 : decode cX5_ends 122 = .ok (.iload_n 3, 1) := by decide +kernel
theorem dX5_ends_123 : decode cX5_ends 123 = .ok (.if_icmp .ge 8, 3) := by decide +kernel
theorem dX5_ends_126 : decode cX5_ends 126 = .ok (.iload 4, 2) := by decide +kernel
theorem dX5_ends_128 : decode cX5_ends 128 = .ok (.goto 4, 3) := by decide +kernel
theorem dX5_ends_131 : decode cX5_ends 131 = .ok (.iload_n 3, 1) := by decide +kernel
theorem dX5_ends_132 : decode cX5_ends 132 = .ok (.istore 5, 2) := by decide +kernel
theorem dX5_ends_134 : decode cX5_ends 134 = .ok (.aload_n 0, 1) := by decide +kernel
theorem dX5_ends_135 : decode cX5_ends 135 = .ok (.getfield 7, 3) := by decide +kernel
theorem dX5_ends_138 : decode cX5_ends 138 = .ok (.aload_n 0, 1) := by decide +kernel
theorem dX5_ends_139 : decode cX5_ends 139 = .ok (.getfield 51, 3) := by decide +kernel
theorem dX5_ends_142 : decode cX5_ends 142 = .ok (.iload_n 1, 1) := by decide +kernel
theorem dX5_ends_143 : decode cX5_ends 143 = .ok (.iaload, 1) := by decide +kernel
theorem dX5_ends_144 : decode cX5_ends 144 = .ok (.dup2, 1) := by decide +kernel
theorem dX5_ends_145 : decode cX5_ends 145 = .ok (.iaload, 1) := by decide +kernel
theorem dX5_ends_146 : decode cX5_ends 146 = .ok (.iload 5, 2) := by decide +kernel
theorem dX5_ends_148 : decode cX5_ends 148 = .ok (.iadd, 1) := by decide +kernel
theorem dX5_ends_149 : decode cX5_ends 149 = .ok (.iastore, 1) := by decide +kernel
theorem dX5_ends_150 : decode cX5_ends 150 = .ok (.aload_n 0, 1) := by decide +kernel
theorem dX5_ends_151 : decode cX5_ends 151 = .ok (.getfield 7, 3) := by decide +kernel
theorem dX5_ends_154 : decode cX5_ends 154 = .ok (.iload_n 2, 1) := by decide +kernel
theorem dX5_ends_155 : decode cX5_ends 155 = .ok (.dup2, 1) := by decide +kernel
theorem dX5_ends_156 : decode cX5_ends 156 = .ok (.iaload, 1) := by decide +kernel
theorem dX5_ends_157 : decode cX5_ends 157 = .ok (.iload 4, 2) := by decide +kernel
theorem dX5_ends_159 : decode cX5_ends 159 = .ok (.iload 5, 2) := by decide +kernel
theorem dX5_ends_161 : decode cX5_ends 161 = .ok (.isub, 1) := by decide +kernel
theorem dX5_ends_162 : decode cX5_ends 162 = .ok (.iadd, 1) := by decide +kernel
theorem dX5_ends_163 : decode cX5_ends 163 = .ok (.iastore, 1) := by decide +kernel
theorem dX5_ends_164 : decode cX5_ends 164 = .ok (.aload_n 0, 1) := by decide +kernel
theorem dX5_ends_165 : decode cX5_ends 165 = .ok (.dup, 1) := by decide +kernel
theorem dX5_ends_166 : decode cX5_ends 166 = .ok (.getfield 147, 3) := by decide +kernel
theorem dX5_ends_169 : decode cX5_ends 169 = .ok (.iload 4, 2) := by decide +kernel
theorem dX5_ends_171 : decode cX5_ends 171 = .ok (.iadd, 1) := by decide +kernel
theorem dX5_ends_172 : decode cX5_ends 172 = .ok (.putfield 147, 3) := by decide +kernel
theorem dX5_ends_175 : decode cX5_ends 175 = .ok (.aload_n 0, 1) := by decide +kernel
theorem dX5_ends_176 : decode cX5_ends 176 = .ok (.getfield 19, 3) := by decide +kernel
theorem dX5_ends_179 : decode cX5_ends 179 = .ok (.iload_n 2, 1) := by decide +kernel
theorem dX5_ends_180 : decode cX5_ends 180 = .ok (.baload, 1) := by decide +kernel
theorem dX5_ends_181 : decode cX5_ends 181 = .ok (.ifCond .ne 7, 3) := by decide +kernel
theorem dX5_ends_184 : decode cX5_ends 184 = .ok (.iconst 1, 1) := by decide +kernel
theorem dX5_ends_185 : decode cX5_ends 185 = .ok (.goto 4, 3) := by decide +kernel
theorem dX5_ends_188 : decode cX5_ends 188 = .ok (.iconst 0, 1) := by decide +kernel
theorem dX5_ends_189 : decode cX5_ends 189 = .ok (.istore 6, 2) := by decide +kernel
theorem dX5_ends_191 : decode cX5_ends 191 = .ok (.iload 6, 2) := by decide +kernel
theorem dX5_ends_193 : decode cX5_ends 193 = .ok (.ifCond .eq 8, 3) := by decide +kernel
theorem dX5_ends_196 : decode cX5_ends 196 = .ok (.aload_n 0, 1) := by decide +kernel
theorem dX5_ends_197 : decode cX5_ends 197 = .ok (.iload_n 2, 1) := by decide +kernel
theorem dX5_ends_198 : decode cX5_ends 198 = .ok (.invokevirtual 150, 3) := by decide +kernel
theorem dX5_ends_201 : decode cX5_ends 201 = .ok (.iload 6, 2) := by decide +kernel
theorem dX5_ends_203 : decode cX5_ends 203 = .ok (.ireturn, 1) := by decide +kernel
set_option maxRecDepth 20000 in
theorem ggX5_morning_X5_ends : GoodIn wsX5_morning wsX5_ends := goodIn_r _ [9, 10, 11, 12, 4, 13, 14, 15, 16, 17, 18, 19, 20, 21, 22, 23, 8, 24, 25, 26, 27, 28, 29, 30, 31, 32, 33, 34, 35, 36, 37, 38, 39, 40, 41, 42, 43, 44, 45, 46, 47, 48, 49, 50, 51, 52, 53] (by decide +kernel) (by decide +kernel)
set_option maxRecDepth 20000 in
theorem gX5_morning_X5_ends : GoodIn wsX5_morning (wsV RX5 153 RX5 yX5_ends wsX5_ends) := goodIn_app (goodIn_of _ (by decide +kernel)) ggX5_morning_X5_ends
theorem dX5_morning_0 : decode cX5_morning 0 = .ok (.aload_n 0, 1) := by decide +kernel
theorem dX5_morning_1 : decode cX5_morning 1 = .ok (.iconst 0, 1) := by decide +kernel
theorem dX5_morning_2 : decode cX5_morning 2 = .ok (.putfield 76, 3) := by decide +kernel
theorem dX5_morning_5 : decode cX5_morning 5 = .ok (.iconst 0, 1) := by decide +kernel
theorem dX5_morning_6 : decode cX5_morning 6 = .ok (.istore_n 1, 1) := by decide +kernel
theorem dX5_morning_7 : decode cX5_morning 7 = .ok (.iload_n 1, 1) := by decide +kernel
theorem dX5_morning_8 : decode cX5_morning 8 = .ok (.bipush 25, 2) := by decide +kernel
theorem dX5_morning_10 : decode cX5_morning 10 = .ok (.if_icmp .ge 16, 3) := by decide +kernel
theorem dX5_morning_13 : decode cX5_morning 13 = .ok (.aload_n 0, 1) := by decide +kernel
theorem dX5_morning_14 : decode cX5_morning 14 = .ok (.getfield 23, 3) := by decide +kernel
theorem dX5_morning_17 : decode cX5_morning 17 = .ok (.iload_n 1, 1) := by decide +kernel
theorem dX5_morning_18 : decode cX5_morning 18 = .ok (.iconst 0, 1) := by decide +kernel
theorem dX5_morning_19 : decode cX5_morning 19 = .ok (.iastore, 1) := by decide +kernel
theorem dX5_morning_20 : decode cX5_morning 20 = .ok (.iinc 1 1, 3) := by decide +kernel
theorem dX5_morning_23 : decode cX5_morning 23 = .ok (.goto (-16), 3) := by decide +kernel
theorem dX5_morning_26 : decode cX5_morning 26 = .ok (.iconst 0, 1) := by decide +kernel
theorem dX5_morning_27 : decode cX5_morning 27 = .ok (.istore_n 1, 1) := by decide +kernel
theorem dX5_morning_28 : decode cX5_morning 28 = .ok (.iconst 0, 1) := by decide +kernel
theorem dX5_morning_29 : decode cX5_morning 29 = .ok (.istore_n 2, 1) := by decide +kernel
theorem dX5_morning_30 : decode cX5_morning 30 = .ok (.iload_n 2, 1) := by decide +kernel
theorem dX5_morning_31 : decode cX5_morning 31 = .ok (.aload_n 0, 1) := by decide +kernel
theorem dX5_morning_32 : decode cX5_morning 32 = .ok (.getfield 144, 3) := by decide +kernel
theorem dX5_morning_35 : decode cX5_morning 35 = .ok (.if_icmp .ge 34, 3) := by decide +kernel
theorem dX5_morning_38 : decode cX5_morning 38 = .ok (.iload_n 1, 1) := by decide +kernel
theorem dX5_morning_39 : decode cX5_morning 39 = .ok (.aload_n 0, 1) := by decide +kernel
theorem dX5_morning_40 : decode cX5_morning 40 = .ok (.getfield 66, 3) := by decide +kernel
theorem dX5_morning_43 : decode cX5_morning 43 = .ok (.iload_n 2, 1) := by decide +kernel
theorem dX5_morning_44 : decode cX5_morning 44 = .ok (.baload, 1) := by decide +kernel
theorem dX5_morning_45 : decode cX5_morning 45 = .ok (.ifCond .eq 15, 3) := by decide +kernel
theorem dX5_morning_48 : decode cX5_morning 48 = .ok (.aload_n 0, 1) := by decide +kernel
theorem dX5_morning_49 : decode cX5_morning 49 = .ok (.iload_n 2, 1) := by decide +kernel
theorem dX5_morning_50 : decode cX5_morning 50 = .ok (.invokevirtual 153, 3) := by decide +kernel
theorem dX5_morning_53 : decode cX5_morning 53 = .ok (.ifCond .eq 7, 3) := by decide +kernel
theorem dX5_morning_56 : decode cX5_morning 56 = .ok (.iconst 1, 1) := by decide +kernel
theorem dX5_morning_57 : decode cX5_morning 57 = .ok (.goto 4, 3) := by decide +kernel
theorem dX5_morning_60 : decode cX5_morning 60 = .ok (.iconst 0, 1) := by decide +kernel
theorem dX5_morning_61 : decode cX5_morning 61 = .ok (.iadd, 1) := by decide +kernel
theorem dX5_morning_62 : decode cX5_morning 62 = .ok (.istore_n 1, 1) := by decide +kernel
theorem dX5_morning_63 : decode cX5_morning 63 = .ok (.iinc 2 1, 3) := by decide +kernel
theorem dX5_morning_66 : decode cX5_morning 66 = .ok (.goto (-36), 3) := by decide +kernel
theorem dX5_morning_69 : decode cX5_morning 69 = .ok (.iload_n 1, 1) := by decide +kernel
theorem dX5_morning_70 : decode cX5_morning 70 = .ok (.ireturn, 1) := by decide +kernel
theorem dX5_sold_0 : decode cX5_sold 0 = .ok (.aload_n 0, 1) := by decide +kernel
theorem dX5_sold_1 : decode cX5_sold 1 = .ok (.iconst 0, 1) := by decide +kernel
theorem dX5_sold_2 : decode cX5_sold 2 = .ok (.putfield 76, 3) := by decide +kernel
theorem dX5_sold_5 : decode cX5_sold 5 = .ok (.aload_n 0, 1) := by decide +kernel
theorem dX5_sold_6 : decode cX5_sold 6 = .ok (.getfield 147, 3) := by decide +kernel
theorem dX5_sold_9 : decode cX5_sold 9 = .ok (.ireturn, 1) := by decide +kernel
