theorem dX5_init_0 : decode cX5_init 0 = .ok (.aload_n 0, 1) := by decide +kernel
theorem dX5_init_1 : decode cX5_init 1 = .ok (.invokespecial 1, 3) := by decide +kernel
theorem dX5_init_4 : decode cX5_init 4 = .ok (.aload_n 0, 1) := by decide +kernel
theorem dX5_init_5 : decode cX5_init 5 = .ok (.bipush 8, 2) := by decide +kernel
theorem dX5_init_7 : decode cX5_init 7 = .ok (.newarray .int, 2) := by decide +kernel
theorem dX5_init_9 : decode cX5_init 9 = .ok (.putfield 7, 3) := by decide +kernel
theorem dX5_init_12 : decode cX5_init 12 = .ok (.aload_n 0, 1) := by decide +kernel
theorem dX5_init_13 : decode cX5_init 13 = .ok (.bipush 8, 2) := by decide +kernel
theorem dX5_init_15 : decode cX5_init 15 = .ok (.newarray .int, 2) := by decide +kernel
theorem dX5_init_17 : decode cX5_init 17 = .ok (.putfield 13, 3) := by decide +kernel
theorem dX5_init_20 : decode cX5_init 20 = .ok (.aload_n 0, 1) := by decide +kernel
theorem dX5_init_21 : decode cX5_init 21 = .ok (.bipush 8, 2) := by decide +kernel
theorem dX5_init_23 : decode cX5_init 23 = .ok (.newarray .int, 2) := by decide +kernel
theorem dX5_init_25 : decode cX5_init 25 = .ok (.putfield 16, 3) := by decide +kernel
theorem dX5_init_28 : decode cX5_init 28 = .ok (.aload_n 0, 1) := by decide +kernel
theorem dX5_init_29 : decode cX5_init 29 = .ok (.bipush 8, 2) := by decide +kernel
theorem dX5_init_31 : decode cX5_init 31 = .ok (.newarray .int, 2) := by decide +kernel
theorem dX5_init_33 : decode cX5_init 33 = .ok (.putfield 19, 3) := by decide +kernel
theorem dX5_init_36 : decode cX5_init 36 = .ok (.aload_n 0, 1) := by decide +kernel
theorem dX5_init_37 : decode cX5_init 37 = .ok (.bipush 8, 2) := by decide +kernel
theorem dX5_init_39 : decode cX5_init 39 = .ok (.newarray .int, 2) := by decide +kernel
theorem dX5_init_41 : decode cX5_init 41 = .ok (.putfield 22, 3) := by decide +kernel
theorem dX5_init_44 : decode cX5_init 44 = .ok (.aload_n 0, 1) := by decide +kernel
theorem dX5_init_45 : decode cX5_init 45 = .ok (.bipush 8, 2) := by decide +kernel
theorem dX5_init_47 : decode cX5_init 47 = .ok (.newarray .int, 2) := by decide +kernel
theorem dX5_init_49 : decode cX5_init 49 = .ok (.putfield 25, 3) := by decide +kernel
theorem dX5_init_52 : decode cX5_init 52 = .ok (.aload_n 0, 1) := by decide +kernel
theorem dX5_init_53 : decode cX5_init 53 = .ok (.bipush 8, 2) := by decide +kernel
theorem dX5_init_55 : decode cX5_init 55 = .ok (.newarray .int, 2) := by decide +kernel
theorem dX5_init_57 : decode cX5_init 57 = .ok (.putfield 28, 3) := by decide +kernel
theorem dX5_init_60 : decode cX5_init 60 = .ok (.aload_n 0, 1) := by decide +kernel
theorem dX5_init_61 : decode cX5_init 61 = .ok (.bipush 8, 2) := by decide +kernel
theorem dX5_init_63 : decode cX5_init 63 = .ok (.newarray .int, 2) := by decide +kernel
theorem dX5_init_65 : decode cX5_init 65 = .ok (.putfield 31, 3) := by decide +kernel
theorem dX5_init_68 : decode cX5_init 68 = .ok (.aload_n 0, 1) := by decide +kernel
theorem dX5_init_69 : decode cX5_init 69 = .ok (.iconst 4, 1) := by decide +kernel
theorem dX5_init_70 : decode cX5_init 70 = .ok (.newarray .float, 2) := by decide +kernel
theorem dX5_init_72 : decode cX5_init 72 = .ok (.putfield 34, 3) := by decide +kernel
theorem dX5_init_75 : decode cX5_init 75 = .ok (.aload_n 0, 1) := by decide +kernel
theorem dX5_init_76 : decode cX5_init 76 = .ok (.bipush 100, 2) := by decide +kernel
theorem dX5_init_78 : decode cX5_init 78 = .ok (.newarray .int, 2) := by decide +kernel
theorem dX5_init_80 : decode cX5_init 80 = .ok (.putfield 38, 3) := by decide +kernel
theorem dX5_init_83 : decode cX5_init 83 = .ok (.aload_n 0, 1) := by decide +kernel
theorem dX5_init_84 : decode cX5_init 84 = .ok (.bipush 100, 2) := by decide +kernel
theorem dX5_init_86 : decode cX5_init 86 = .ok (.newarray .int, 2) := by decide +kernel
theorem dX5_init_88 : decode cX5_init 88 = .ok (.putfield 41, 3) := by decide +kernel
theorem dX5_init_91 : decode cX5_init 91 = .ok (.aload_n 0, 1) := by decide +kernel
theorem dX5_init_92 : decode cX5_init 92 = .ok (.bipush 100, 2) := by decide +kernel
theorem dX5_init_94 : decode cX5_init 94 = .ok (.newarray .int, 2) := by decide +kernel
theorem dX5_init_96 : decode cX5_init 96 = .ok (.putfield 44, 3) := by decide +kernel
theorem dX5_init_99 : decode cX5_init 99 = .ok (.aload_n 0, 1) := by decide +kernel
theorem dX5_init_100 : decode cX5_init 100 = .ok (.bipush 100, 2) := by decide +kernel
theorem dX5_init_102 : decode cX5_init 102 = .ok (.newarray .float, 2) := by decide +kernel
theorem dX5_init_104 : decode cX5_init 104 = .ok (.putfield 47, 3) := by decide +kernel
theorem dX5_init_107 : decode cX5_init 107 = .ok (.aload_n 0, 1) := by decide +kernel
theorem dX5_init_108 : decode cX5_init 108 = .ok (.bipush 100, 2) := by decide +kernel
theorem dX5_init_110 : decode cX5_init 110 = .ok (.newarray .int, 2) := by decide +kernel
theorem dX5_init_112 : decode cX5_init 112 = .ok (.putfield 50, 3) := by decide +kernel
theorem dX5_init_115 : decode cX5_init 115 = .ok (.aload_n 0, 1) := by decide +kernel
theorem dX5_init_116 : decode cX5_init 116 = .ok (.bipush 100, 2) := by decide +kernel
theorem dX5_init_118 : decode cX5_init 118 = .ok (.newarray .int, 2) := by decide +kernel
theorem dX5_init_120 : decode cX5_init 120 = .ok (.putfield 53, 3) := by decide +kernel
theorem dX5_init_123 : decode cX5_init 123 = .ok (.aload_n 0, 1) := by decide +kernel
theorem dX5_init_124 : decode cX5_init 124 = .ok (.bipush 100, 2) := by decide +kernel
theorem dX5_init_126 : decode cX5_init 126 = .ok (.newarray .int, 2) := by decide +kernel
theorem dX5_init_128 : decode cX5_init 128 = .ok (.putfield 56, 3) := by decide +kernel
theorem dX5_init_131 : decode cX5_init 131 = .ok (.aload_n 0, 1) := by decide +kernel
theorem dX5_init_132 : decode cX5_init 132 = .ok (.bipush 100, 2) := by decide +kernel
theorem dX5_init_134 : decode cX5_init 134 = .ok (.newarray .int, 2) := by decide +kernel
theorem dX5_init_136 : decode cX5_init 136 = .ok (.putfield 59, 3) := by decide +kernel
theorem dX5_init_139 : decode cX5_init 139 = .ok (.aload_n 0, 1) := by decide +kernel
theorem dX5_init_140 : decode cX5_init 140 = .ok (.bipush 100, 2) := by decide +kernel
theorem dX5_init_142 : decode cX5_init 142 = .ok (.newarray .int, 2) := by decide +kernel
theorem dX5_init_144 : decode cX5_init 144 = .ok (.putfield 62, 3) := by decide +kernel
theorem dX5_init_147 : decode cX5_init 147 = .ok (.aload_n 0, 1) := by decide +kernel
theorem dX5_init_148 : decode cX5_init 148 = .ok (.sipush 2000, 3) := by decide +kernel
theorem dX5_init_151 : decode cX5_init 151 = .ok (.newarray .int, 2) := by decide +kernel
theorem dX5_init_153 : decode cX5_init 153 = .ok (.putfield 65, 3) := by decide +kernel
theorem dX5_init_156 : decode cX5_init 156 = .ok (.aload_n 0, 1) := by decide +kernel
theorem dX5_init_157 : decode cX5_init 157 = .ok (.sipush 2000, 3) := by decide +kernel
theorem dX5_init_160 : decode cX5_init 160 = .ok (.newarray .int, 2) := by decide +kernel
theorem dX5_init_162 : decode cX5_init 162 = .ok (.putfield 68, 3) := by decide +kernel
theorem dX5_init_165 : decode cX5_init 165 = .ok (.aload_n 0, 1) := by decide +kernel
theorem dX5_init_166 : decode cX5_init 166 = .ok (.sipush 2000, 3) := by decide +kernel
theorem dX5_init_169 : decode cX5_init 169 = .ok (.newarray .boolean, 2) := by decide +kernel
theorem dX5_init_171 : decode cX5_init 171 = .ok (.putfield 71, 3) := by decide +kernel
theorem dX5_init_174 : decode cX5_init 174 = .ok (.iconst 0, 1) := by decide +kernel
theorem dX5_init_175 : decode cX5_init 175 = .ok (.istore_n 1, 1) := by decide +kernel
theorem dX5_init_176 : decode cX5_init 176 = .ok (.iload_n 1, 1) := by decide +kernel
theorem dX5_init_177 : decode cX5_init 177 = .ok (.iconst 4, 1) := by decide +kernel
theorem dX5_init_178 : decode cX5_init 178 = .ok (.if_icmp .ge 17, 3) := by decide +kernel
theorem dX5_init_181 : decode cX5_init 181 = .ok (.aload_n 0, 1) := by decide +kernel
theorem dX5_init_182 : decode cX5_init 182 = .ok (.getfield 34, 3) := by decide +kernel
theorem dX5_init_185 : decode cX5_init 185 = .ok (.iload_n 1, 1) := by decide +kernel
theorem dX5_init_186 : decode cX5_init 186 = .ok (.ldc 75, 2) := by decide +kernel
theorem dX5_init_188 : decode cX5_init 188 = .ok (.fastore, 1) := by decide +kernel
theorem dX5_init_189 : decode cX5_init 189 = .ok (.iinc 1 1, 3) := by decide +kernel
theorem dX5_init_192 : decode cX5_init 192 = .ok (.goto (-16), 3) := by decide +kernel
theorem dX5_init_195 : decode cX5_init 195 = .ok (.return_, 1) := by decide +kernel
theorem dX5_thrown_0 : decode cX5_thrown 0 = .ok (.aload_n 0, 1) := by decide +kernel
theorem dX5_thrown_1 : decode cX5_thrown 1 = .ok (.getfield 76, 3) := by decide +kernel
theorem dX5_thrown_4 : decode cX5_thrown 4 = .ok (.ireturn, 1) := by decide +kernel
theorem dX5_holds_0 : decode cX5_holds 0 = .ok (.aload_n 0, 1) := by decide +kernel
theorem dX5_holds_1 : decode cX5_holds 1 = .ok (.iload_n 1, 1) := by decide +kernel
theorem dX5_holds_2 : decode cX5_holds 2 = .ok (.putfield 76, 3) := by decide +kernel
theorem dX5_holds_5 : decode cX5_holds 5 = .ok (.iload_n 1, 1) := by decide +kernel
theorem dX5_holds_6 : decode cX5_holds 6 = .ok (.ifCond .ne 7, 3) := by decide +kernel
theorem dX5_holds_9 : decode cX5_holds 9 = .ok (.iconst 1, 1) := by decide +kernel
theorem dX5_holds_10 : decode cX5_holds 10 = .ok (.goto 4, 3) := by decide +kernel
theorem dX5_holds_13 : decode cX5_holds 13 = .ok (.iconst 0, 1) := by decide +kernel
theorem dX5_holds_14 : decode cX5_holds 14 = .ok (.ireturn, 1) := by decide +kernel
theorem dX5_in_0 : decode cX5_in 0 = .ok (.iload_n 0, 1) := by decide +kernel
theorem dX5_in_1 : decode cX5_in 1 = .ok (.iload_n 1, 1) := by decide +kernel
theorem dX5_in_2 : decode cX5_in 2 = .ok (.if_icmp .lt 12, 3) := by decide +kernel
theorem dX5_in_5 : decode cX5_in 5 = .ok (.iload_n 0, 1) := by decide +kernel
theorem dX5_in_6 : decode cX5_in 6 = .ok (.iload_n 2, 1) := by decide +kernel
theorem dX5_in_7 : decode cX5_in 7 = .ok (.if_icmp .gt 7, 3) := by decide +kernel
theorem dX5_in_10 : decode cX5_in 10 = .ok (.iconst 1, 1) := by decide +kernel
theorem dX5_in_11 : decode cX5_in 11 = .ok (.goto 4, 3) := by decide +kernel
theorem dX5_in_14 : decode cX5_in 14 = .ok (.iconst 0, 1) := by decide +kernel
theorem dX5_in_15 : decode cX5_in 15 = .ok (.ireturn, 1) := by decide +kernel
set_option maxRecDepth 20000 in
theorem ggX5_isSeller_X5_in : GoodIn wsX5_isSeller wsX5_in := goodIn_r _ [5] (by decide +kernel) (by decide +kernel)
set_option maxRecDepth 20000 in
theorem gX5_isSeller_X5_in : GoodIn wsX5_isSeller (va_wsS RX5 83 yX5_in wsX5_in) := goodIn_app (goodIn_of _ (by decide +kernel)) ggX5_isSeller_X5_in
theorem dX5_isSeller_0 : decode cX5_isSeller 0 = .ok (.iload_n 1, 1) := by decide +kernel
theorem dX5_isSeller_1 : decode cX5_isSeller 1 = .ok (.iconst 0, 1) := by decide +kernel
theorem dX5_isSeller_2 : decode cX5_isSeller 2 = .ok (.aload_n 0, 1) := by decide +kernel
theorem dX5_isSeller_3 : decode cX5_isSeller 3 = .ok (.getfield 80, 3) := by decide +kernel
theorem dX5_isSeller_6 : decode cX5_isSeller 6 = .ok (.iconst 1, 1) := by decide +kernel
theorem dX5_isSeller_7 : decode cX5_isSeller 7 = .ok (.isub, 1) := by decide +kernel
theorem dX5_isSeller_8 : decode cX5_isSeller 8 = .ok (.invokestatic 83, 3) := by decide +kernel
theorem dX5_isSeller_11 : decode cX5_isSeller 11 = .ok (.ireturn, 1) := by decide +kernel
set_option maxRecDepth 20000 in
theorem ggX5_isKind_X5_in : GoodIn wsX5_isKind wsX5_in := goodIn_r _ [4] (by decide +kernel) (by decide +kernel)
set_option maxRecDepth 20000 in
theorem gX5_isKind_X5_in : GoodIn wsX5_isKind (va_wsS RX5 83 yX5_in wsX5_in) := goodIn_app (goodIn_of _ (by decide +kernel)) ggX5_isKind_X5_in
theorem dX5_isKind_0 : decode cX5_isKind 0 = .ok (.iload_n 0, 1) := by decide +kernel
theorem dX5_isKind_1 : decode cX5_isKind 1 = .ok (.iconst 0, 1) := by decide +kernel
theorem dX5_isKind_2 : decode cX5_isKind 2 = .ok (.iconst 3, 1) := by decide +kernel
theorem dX5_isKind_3 : decode cX5_isKind 3 = .ok (.invokestatic 83, 3) := by decide +kernel
theorem dX5_isKind_6 : decode cX5_isKind 6 = .ok (.ireturn, 1) := by decide +kernel
set_option maxRecDepth 20000 in
theorem ggX5_addSeller_X5_in : GoodIn wsX5_addSeller wsX5_in := goodIn_r _ [8] (by decide +kernel) (by decide +kernel)
set_option maxRecDepth 20000 in
theorem gX5_addSeller_X5_in : GoodIn wsX5_addSeller (va_wsS RX5 83 yX5_in wsX5_in) := goodIn_app (goodIn_of _ (by decide +kernel)) ggX5_addSeller_X5_in
set_option maxRecDepth 20000 in
theorem ggX5_addSeller_X5_holds : GoodIn wsX5_addSeller wsX5_holds := goodIn_r _ [12, 13, 14, 15, 16, 17, 18, 19, 20, 21, 22, 23, 24, 25, 26, 27, 28, 29, 30, 31, 32, 33, 34, 35, 36, 37, 38, 39, 40, 41, 42, 43, 44] (by decide +kernel) (by decide +kernel)
set_option maxRecDepth 20000 in
theorem gX5_addSeller_X5_holds : GoodIn wsX5_addSeller (wsV RX5 87 RX5 yX5_holds wsX5_holds) := goodIn_app (goodIn_of _ (by decide +kernel)) ggX5_addSeller_X5_holds
theorem dX5_addSeller_0 : decode cX5_addSeller 0 = .ok (.aload_n 0, 1) := by decide +kernel
theorem dX5_addSeller_1 : decode cX5_addSeller 1 = .ok (.iload_n 1, 1) := by decide +kernel
theorem dX5_addSeller_2 : decode cX5_addSeller 2 = .ok (.iconst 0, 1) := by decide +kernel
theorem dX5_addSeller_3 : decode cX5_addSeller 3 = .ok (.iconst 3, 1) := by decide +kernel
theorem dX5_addSeller_4 : decode cX5_addSeller 4 = .ok (.invokestatic 83, 3) := by decide +kernel
theorem dX5_addSeller_7 : decode cX5_addSeller 7 = .ok (.ifCond .ne 7, 3) := by decide +kernel
theorem dX5_addSeller_10 : decode cX5_addSeller 10 = .ok (.iconst 1, 1) := by decide +kernel
theorem dX5_addSeller_11 : decode cX5_addSeller 11 = .ok (.goto 17, 3) := by decide +kernel
theorem dX5_addSeller_14 : decode cX5_addSeller 14 = .ok (.aload_n 0, 1) := by decide +kernel
theorem dX5_addSeller_15 : decode cX5_addSeller 15 = .ok (.getfield 80, 3) := by decide +kernel
theorem dX5_addSeller_18 : decode cX5_addSeller 18 = .ok (.bipush 8, 2) := by decide +kernel
theorem dX5_addSeller_20 : decode cX5_addSeller 20 = .ok (.if_icmp .ne 7, 3) := by decide +kernel
theorem dX5_addSeller_23 : decode cX5_addSeller 23 = .ok (.iconst 2, 1) := by decide +kernel
theorem dX5_addSeller_24 : decode cX5_addSeller 24 = .ok (.goto 4, 3) := by decide +kernel
theorem dX5_addSeller_27 : decode cX5_addSeller 27 = .ok (.iconst 0, 1) := by decide +kernel
theorem dX5_addSeller_28 : decode cX5_addSeller 28 = .ok (.invokevirtual 87, 3) := by decide +kernel
theorem dX5_addSeller_31 : decode cX5_addSeller 31 = .ok (.ifCond .ne 5, 3) := by decide +kernel
theorem dX5_addSeller_34 : decode cX5_addSeller 34 = .ok (.iconst 0, 1) := by decide +kernel
theorem dX5_addSeller_35 : decode cX5_addSeller 35 = .ok (.ireturn, 1) := by decide +kernel
theorem dX5_addSeller_36 : decode cX5_addSeller 36 = .ok (.aload_n 0, 1) := by decide +kernel
theorem dX5_addSeller_37 : decode cX5_addSeller 37 = .ok (.getfield 7, 3) := by decide +kernel
theorem dX5_addSeller_40 : decode cX5_addSeller 40 = .ok (.aload_n 0, 1) := by decide +kernel
theorem dX5_addSeller_41 : decode cX5_addSeller 41 = .ok (.getfield 80, 3) := by decide +kernel
theorem dX5_addSeller_44 : decode cX5_addSeller 44 = .ok (.iload_n 1, 1) := by decide +kernel
theorem dX5_addSeller_45 : decode cX5_addSeller 45 = .ok (.iastore, 1) := by decide +kernel
theorem dX5_addSeller_46 : decode cX5_addSeller 46 = .ok (.aload_n 0, 1) := by decide +kernel
theorem dX5_addSeller_47 : decode cX5_addSeller 47 = .ok (.getfield 19, 3) := by decide +kernel
theorem dX5_addSeller_50 : decode cX5_addSeller 50 = .ok (.aload_n 0, 1) := by decide +kernel
theorem dX5_addSeller_51 : decode cX5_addSeller 51 = .ok (.getfield 80, 3) := by decide +kernel
theorem dX5_addSeller_54 : decode cX5_addSeller 54 = .ok (.iconst 1, 1) := by decide +kernel
theorem dX5_addSeller_55 : decode cX5_addSeller 55 = .ok (.iastore, 1) := by decide +kernel
theorem dX5_addSeller_56 : decode cX5_addSeller 56 = .ok (.aload_n 0, 1) := by decide +kernel
theorem dX5_addSeller_57 : decode cX5_addSeller 57 = .ok (.getfield 25, 3) := by decide +kernel
theorem dX5_addSeller_60 : decode cX5_addSeller 60 = .ok (.aload_n 0, 1) := by decide +kernel
theorem dX5_addSeller_61 : decode cX5_addSeller 61 = .ok (.getfield 80, 3) := by decide +kernel
theorem dX5_addSeller_64 : decode cX5_addSeller 64 = .ok (.bipush 30, 2) := by decide +kernel
theorem dX5_addSeller_66 : decode cX5_addSeller 66 = .ok (.iastore, 1) := by decide +kernel
theorem dX5_addSeller_67 : decode cX5_addSeller 67 = .ok (.aload_n 0, 1) := by decide +kernel
theorem dX5_addSeller_68 : decode cX5_addSeller 68 = .ok (.dup, 1) := by decide +kernel
theorem dX5_addSeller_69 : decode cX5_addSeller 69 = .ok (.getfield 80, 3) := by decide +kernel
theorem dX5_addSeller_72 : decode cX5_addSeller 72 = .ok (.iconst 1, 1) := by decide +kernel
theorem dX5_addSeller_73 : decode cX5_addSeller 73 = .ok (.iadd, 1) := by decide +kernel
theorem dX5_addSeller_74 : decode cX5_addSeller 74 = .ok (.putfield 80, 3) := by decide +kernel
theorem dX5_addSeller_77 : decode cX5_addSeller 77 = .ok (.aload_n 0, 1) := by decide +kernel
theorem dX5_addSeller_78 : decode cX5_addSeller 78 = .ok (.getfield 80, 3) := by decide +kernel
theorem dX5_addSeller_81 : decode cX5_addSeller 81 = .ok (.iconst 1, 1) := by decide +kernel
theorem dX5_addSeller_82 : decode cX5_addSeller 82 = .ok (.isub, 1) := by decide +kernel
theorem dX5_addSeller_83 : decode cX5_addSeller 83 = .ok (.ireturn, 1) := by decide +kernel
set_option maxRecDepth 20000 in
theorem ggX5_verify_X5_isSeller : GoodIn wsX5_verify wsX5_isSeller := goodIn_r _ [6, 7, 8, 9, 5, 10, 16, 17, 18, 19, 20, 21, 22, 23, 24, 25, 26, 27, 28, 29, 30, 31, 32, 33, 34, 35, 36, 37, 38, 39, 40, 41, 42, 43, 44, 45, 46] (by decide +kernel) (by decide +kernel)
set_option maxRecDepth 20000 in
theorem gX5_verify_X5_isSeller : GoodIn wsX5_verify (wsV RX5 91 RX5 yX5_isSeller wsX5_isSeller) := goodIn_app (goodIn_of _ (by decide +kernel)) ggX5_verify_X5_isSeller
set_option maxRecDepth 20000 in
theorem ggX5_verify_X5_in : GoodIn wsX5_verify wsX5_in := goodIn_r _ [10] (by decide +kernel) (by decide +kernel)
set_option maxRecDepth 20000 in
theorem gX5_verify_X5_in : GoodIn wsX5_verify (va_wsS RX5 83 yX5_in wsX5_in) := goodIn_app (goodIn_of _ (by decide +kernel)) ggX5_verify_X5_in
set_option maxRecDepth 20000 in
theorem ggX5_verify_X5_holds : GoodIn wsX5_verify wsX5_holds := goodIn_r _ [14, 15, 16, 17, 18, 19, 20, 21, 22, 23, 24, 25, 26, 27, 28, 29, 30, 31, 32, 33, 34, 35, 36, 37, 38, 39, 40, 41, 42, 43, 44, 45, 46] (by decide +kernel) (by decide +kernel)
set_option maxRecDepth 20000 in
theorem gX5_verify_X5_holds : GoodIn wsX5_verify (wsV RX5 87 RX5 yX5_holds wsX5_holds) := goodIn_app (goodIn_of _ (by decide +kernel)) ggX5_verify_X5_holds
theorem dX5_verify_0 : decode cX5_verify 0 = .ok (.aload_n 0, 1) := by decide +kernel
theorem dX5_verify_1 : decode cX5_verify 1 = .ok (.aload_n 0, 1) := by decide +kernel
theorem dX5_verify_2 : decode cX5_verify 2 = .ok (.iload_n 1, 1) := by decide +kernel
theorem dX5_verify_3 : decode cX5_verify 3 = .ok (.invokevirtual 91, 3) := by decide +kernel
theorem dX5_verify_6 : decode cX5_verify 6 = .ok (.ifCond .ne 7, 3) := by decide +kernel
theorem dX5_verify_9 : decode cX5_verify 9 = .ok (.iconst 1, 1) := by decide +kernel
theorem dX5_verify_10 : decode cX5_verify 10 = .ok (.goto 17, 3) := by decide +kernel
theorem dX5_verify_13 : decode cX5_verify 13 = .ok (.iload_n 2, 1) := by decide +kernel
theorem dX5_verify_14 : decode cX5_verify 14 = .ok (.iconst 0, 1) := by decide +kernel
theorem dX5_verify_15 : decode cX5_verify 15 = .ok (.iconst 2, 1) := by decide +kernel
theorem dX5_verify_16 : decode cX5_verify 16 = .ok (.invokestatic 83, 3) := by decide +kernel
theorem dX5_verify_19 : decode cX5_verify 19 = .ok (.ifCond .eq 7, 3) := by decide +kernel
theorem dX5_verify_22 : decode cX5_verify 22 = .ok (.iconst 0, 1) := by decide +kernel
theorem dX5_verify_23 : decode cX5_verify 23 = .ok (.goto 4, 3) := by decide +kernel
theorem dX5_verify_26 : decode cX5_verify 26 = .ok (.iconst 2, 1) := by decide +kernel
theorem dX5_verify_27 : decode cX5_verify 27 = .ok (.invokevirtual 87, 3) := by decide +kernel
theorem dX5_verify_30 : decode cX5_verify 30 = .ok (.ifCond .ne 5, 3) := by decide +kernel
theorem dX5_verify_33 : decode cX5_verify 33 = .ok (.iconst 0, 1) := by decide +kernel
theorem dX5_verify_34 : decode cX5_verify 34 = .ok (.ireturn, 1) := by decide +kernel
theorem dX5_verify_35 : decode cX5_verify 35 = .ok (.aload_n 0, 1) := by decide +kernel
theorem dX5_verify_36 : decode cX5_verify 36 = .ok (.getfield 13, 3) := by decide +kernel
theorem dX5_verify_39 : decode cX5_verify 39 = .ok (.iload_n 1, 1) := by decide +kernel
theorem dX5_verify_40 : decode cX5_verify 40 = .ok (.iaload, 1) := by decide +kernel
theorem dX5_verify_41 : decode cX5_verify 41 = .ok (.istore_n 3, 1) := by decide +kernel
theorem dX5_verify_42 : decode cX5_verify 42 = .ok (.aload_n 0, 1) := by decide +kernel
theorem dX5_verify_43 : decode cX5_verify 43 = .ok (.getfield 13, 3) := by decide +kernel
theorem dX5_verify_46 : decode cX5_verify 46 = .ok (.iload_n 1, 1) := by decide +kernel
theorem dX5_verify_47 : decode cX5_verify 47 = .ok (.iload_n 2, 1) := by decide +kernel
theorem dX5_verify_48 : decode cX5_verify 48 = .ok (.iastore, 1) := by decide +kernel
theorem dX5_verify_49 : decode cX5_verify 49 = .ok (.iload_n 3, 1) := by decide +kernel
theorem dX5_verify_50 : decode cX5_verify 50 = .ok (.ireturn, 1) := by decide +kernel
set_option maxRecDepth 20000 in
theorem ggX5_setPayouts_X5_isSeller : GoodIn wsX5_setPayouts wsX5_isSeller := goodIn_r _ [8, 9, 10, 11, 7, 12, 18, 19, 20, 21, 22, 23, 24, 25, 26, 27, 28, 29, 30, 31, 32, 33, 34, 35, 36, 37, 38, 39, 40, 41, 42, 43, 44, 45, 46, 47, 48] (by decide +kernel) (by decide +kernel)
set_option maxRecDepth 20000 in
theorem gX5_setPayouts_X5_isSeller : GoodIn wsX5_setPayouts (wsV RX5 91 RX5 yX5_isSeller wsX5_isSeller) := goodIn_app (goodIn_of _ (by decide +kernel)) ggX5_setPayouts_X5_isSeller
set_option maxRecDepth 20000 in
theorem ggX5_setPayouts_X5_in : GoodIn wsX5_setPayouts wsX5_in := goodIn_r _ [12] (by decide +kernel) (by decide +kernel)
set_option maxRecDepth 20000 in
theorem gX5_setPayouts_X5_in : GoodIn wsX5_setPayouts (va_wsS RX5 83 yX5_in wsX5_in) := goodIn_app (goodIn_of _ (by decide +kernel)) ggX5_setPayouts_X5_in
set_option maxRecDepth 20000 in
theorem ggX5_setPayouts_X5_holds : GoodIn wsX5_setPayouts wsX5_holds := goodIn_r _ [16, 17, 18, 19, 20, 21, 22, 23, 24, 25, 26, 27, 28, 29, 30, 31, 32, 33, 34, 35, 36, 37, 38, 39, 40, 41, 42, 43, 44, 45, 46, 47, 48] (by decide +kernel) (by decide +kernel)
set_option maxRecDepth 20000 in
theorem gX5_setPayouts_X5_holds : GoodIn wsX5_setPayouts (wsV RX5 87 RX5 yX5_holds wsX5_holds) := goodIn_app (goodIn_of _ (by decide +kernel)) ggX5_setPayouts_X5_holds
theorem dX5_setPayouts_0 : decode cX5_setPayouts 0 = .ok (.aload_n 0, 1) := by decide +kernel
theorem dX5_setPayouts_1 : decode cX5_setPayouts 1 = .ok (.aload_n 0, 1) := by decide +kernel
theorem dX5_setPayouts_2 : decode cX5_setPayouts 2 = .ok (.iload_n 1, 1) := by decide +kernel
theorem dX5_setPayouts_3 : decode cX5_setPayouts 3 = .ok (.invokevirtual 91, 3) := by decide +kernel
theorem dX5_setPayouts_6 : decode cX5_setPayouts 6 = .ok (.ifCond .ne 7, 3) := by decide +kernel
theorem dX5_setPayouts_9 : decode cX5_setPayouts 9 = .ok (.iconst 1, 1) := by decide +kernel
theorem dX5_setPayouts_10 : decode cX5_setPayouts 10 = .ok (.goto 28, 3) := by decide +kernel
theorem dX5_setPayouts_13 : decode cX5_setPayouts 13 = .ok (.iload_n 2, 1) := by decide +kernel
theorem dX5_setPayouts_14 : decode cX5_setPayouts 14 = .ok (.iconst 0, 1) := by decide +kernel
theorem dX5_setPayouts_15 : decode cX5_setPayouts 15 = .ok (.bipush 6, 2) := by decide +kernel
theorem dX5_setPayouts_17 : decode cX5_setPayouts 17 = .ok (.invokestatic 83, 3) := by decide +kernel
theorem dX5_setPayouts_20 : decode cX5_setPayouts 20 = .ok (.ifCond .eq 17, 3) := by decide +kernel
theorem dX5_setPayouts_23 : decode cX5_setPayouts 23 = .ok (.iload_n 3, 1) := by decide +kernel
theorem dX5_setPayouts_24 : decode cX5_setPayouts 24 = .ok (.iconst 1, 1) := by decide +kernel
theorem dX5_setPayouts_25 : decode cX5_setPayouts 25 = .ok (.ldc 94, 2) := by decide +kernel
theorem dX5_setPayouts_27 : decode cX5_setPayouts 27 = .ok (.invokestatic 83, 3) := by decide +kernel
theorem dX5_setPayouts_30 : decode cX5_setPayouts 30 = .ok (.ifCond .eq 7, 3) := by decide +kernel
theorem dX5_setPayouts_33 : decode cX5_setPayouts 33 = .ok (.iconst 0, 1) := by decide +kernel
theorem dX5_setPayouts_34 : decode cX5_setPayouts 34 = .ok (.goto 4, 3) := by decide +kernel
theorem dX5_setPayouts_37 : decode cX5_setPayouts 37 = .ok (.iconst 2, 1) := by decide +kernel
theorem dX5_setPayouts_38 : decode cX5_setPayouts 38 = .ok (.invokevirtual 87, 3) := by decide +kernel
theorem dX5_setPayouts_41 : decode cX5_setPayouts 41 = .ok (.ifCond .eq 17, 3) := by decide +kernel
theorem dX5_setPayouts_44 : decode cX5_setPayouts 44 = .ok (.aload_n 0, 1) := by decide +kernel
theorem dX5_setPayouts_45 : decode cX5_setPayouts 45 = .ok (.getfield 16, 3) := by decide +kernel
theorem dX5_setPayouts_48 : decode cX5_setPayouts 48 = .ok (.iload_n 1, 1) := by decide +kernel
theorem dX5_setPayouts_49 : decode cX5_setPayouts 49 = .ok (.iload_n 2, 1) := by decide +kernel
theorem dX5_setPayouts_50 : decode cX5_setPayouts 50 = .ok (.iastore, 1) := by decide +kernel
theorem dX5_setPayouts_51 : decode cX5_setPayouts 51 = .ok (.aload_n 0, 1) := by decide +kernel
theorem dX5_setPayouts_52 : decode cX5_setPayouts 52 = .ok (.getfield 19, 3) := by decide +kernel
theorem dX5_setPayouts_55 : decode cX5_setPayouts 55 = .ok (.iload_n 1, 1) := by decide +kernel
theorem dX5_setPayouts_56 : decode cX5_setPayouts 56 = .ok (.iload_n 3, 1) := by decide +kernel
theorem dX5_setPayouts_57 : decode cX5_setPayouts 57 = .ok (.iastore, 1) := by decide +kernel
theorem dX5_setPayouts_58 : decode cX5_setPayouts 58 = .ok (.return_, 1) := by decide +kernel
set_option maxRecDepth 20000 in
theorem ggX5_setReserve_X5_isSeller : GoodIn wsX5_setReserve wsX5_isSeller := goodIn_r _ [7, 8, 9, 10, 6, 11, 17, 18, 19, 20, 21, 22, 23, 24, 25, 26, 27, 28, 29, 30, 31, 32, 33, 34, 35, 36, 37, 38, 39, 40, 41, 42, 43, 44, 45, 46, 47] (by decide +kernel) (by decide +kernel)
set_option maxRecDepth 20000 in
theorem gX5_setReserve_X5_isSeller : GoodIn wsX5_setReserve (wsV RX5 91 RX5 yX5_isSeller wsX5_isSeller) := goodIn_app (goodIn_of _ (by decide +kernel)) ggX5_setReserve_X5_isSeller
set_option maxRecDepth 20000 in
theorem ggX5_setReserve_X5_in : GoodIn wsX5_setReserve wsX5_in := goodIn_r _ [11] (by decide +kernel) (by decide +kernel)
set_option maxRecDepth 20000 in
theorem gX5_setReserve_X5_in : GoodIn wsX5_setReserve (va_wsS RX5 83 yX5_in wsX5_in) := goodIn_app (goodIn_of _ (by decide +kernel)) ggX5_setReserve_X5_in
set_option maxRecDepth 20000 in
theorem ggX5_setReserve_X5_holds : GoodIn wsX5_setReserve wsX5_holds := goodIn_r _ [15, 16, 17, 18, 19, 20, 21, 22, 23, 24, 25, 26, 27, 28, 29, 30, 31, 32, 33, 34, 35, 36, 37, 38, 39, 40, 41, 42, 43, 44, 45, 46, 47] (by decide +kernel) (by decide +kernel)
set_option maxRecDepth 20000 in
theorem gX5_setReserve_X5_holds : GoodIn wsX5_setReserve (wsV RX5 87 RX5 yX5_holds wsX5_holds) := goodIn_app (goodIn_of _ (by decide +kernel)) ggX5_setReserve_X5_holds
theorem dX5_setReserve_0 : decode cX5_setReserve 0 = .ok (.aload_n 0, 1) := by decide +kernel
theorem dX5_setReserve_1 : decode cX5_setReserve 1 = .ok (.aload_n 0, 1) := by decide +kernel
theorem dX5_setReserve_2 : decode cX5_setReserve 2 = .ok (.iload_n 1, 1) := by decide +kernel
theorem dX5_setReserve_3 : decode cX5_setReserve 3 = .ok (.invokevirtual 91, 3) := by decide +kernel
theorem dX5_setReserve_6 : decode cX5_setReserve 6 = .ok (.ifCond .ne 7, 3) := by decide +kernel
theorem dX5_setReserve_9 : decode cX5_setReserve 9 = .ok (.iconst 1, 1) := by decide +kernel
theorem dX5_setReserve_10 : decode cX5_setReserve 10 = .ok (.goto 30, 3) := by decide +kernel
theorem dX5_setReserve_13 : decode cX5_setReserve 13 = .ok (.iload_n 2, 1) := by decide +kernel
theorem dX5_setReserve_14 : decode cX5_setReserve 14 = .ok (.iconst 0, 1) := by decide +kernel
theorem dX5_setReserve_15 : decode cX5_setReserve 15 = .ok (.sipush 1000, 3) := by decide +kernel
theorem dX5_setReserve_18 : decode cX5_setReserve 18 = .ok (.invokestatic 83, 3) := by decide +kernel
theorem dX5_setReserve_21 : decode cX5_setReserve 21 = .ok (.ifCond .eq 18, 3) := by decide +kernel
theorem dX5_setReserve_24 : decode cX5_setReserve 24 = .ok (.iload_n 3, 1) := by decide +kernel
theorem dX5_setReserve_25 : decode cX5_setReserve 25 = .ok (.iconst 1, 1) := by decide +kernel
theorem dX5_setReserve_26 : decode cX5_setReserve 26 = .ok (.sipush 180, 3) := by decide +kernel
theorem dX5_setReserve_29 : decode cX5_setReserve 29 = .ok (.invokestatic 83, 3) := by decide +kernel
theorem dX5_setReserve_32 : decode cX5_setReserve 32 = .ok (.ifCond .eq 7, 3) := by decide +kernel
theorem dX5_setReserve_35 : decode cX5_setReserve 35 = .ok (.iconst 0, 1) := by decide +kernel
theorem dX5_setReserve_36 : decode cX5_setReserve 36 = .ok (.goto 4, 3) := by decide +kernel
theorem dX5_setReserve_39 : decode cX5_setReserve 39 = .ok (.iconst 2, 1) := by decide +kernel
theorem dX5_setReserve_40 : decode cX5_setReserve 40 = .ok (.invokevirtual 87, 3) := by decide +kernel
theorem dX5_setReserve_43 : decode cX5_setReserve 43 = .ok (.ifCond .eq 17, 3) := by decide +kernel
theorem dX5_setReserve_46 : decode cX5_setReserve 46 = .ok (.aload_n 0, 1) := by decide +kernel
theorem dX5_setReserve_47 : decode cX5_setReserve 47 = .ok (.getfield 22, 3) := by decide +kernel
theorem dX5_setReserve_50 : decode cX5_setReserve 50 = .ok (.iload_n 1, 1) := by decide +kernel
theorem dX5_setReserve_51 : decode cX5_setReserve 51 = .ok (.iload_n 2, 1) := by decide +kernel
theorem dX5_setReserve_52 : decode cX5_setReserve 52 = .ok (.iastore, 1) := by decide +kernel
theorem dX5_setReserve_53 : decode cX5_setReserve 53 = .ok (.aload_n 0, 1) := by decide +kernel
theorem dX5_setReserve_54 : decode cX5_setReserve 54 = .ok (.getfield 25, 3) := by decide +kernel
theorem dX5_setReserve_57 : decode cX5_setReserve 57 = .ok (.iload_n 1, 1) := by decide +kernel
theorem dX5_setReserve_58 : decode cX5_setReserve 58 = .ok (.iload_n 3, 1) := by decide +kernel
theorem dX5_setReserve_59 : decode cX5_setReserve 59 = .ok (.iastore, 1) := by decide +kernel
theorem dX5_setReserve_60 : decode cX5_setReserve 60 = .ok (.return_, 1) := by decide +kernel
set_option maxRecDepth 20000 in
theorem ggX5_setShare_X5_isKind : GoodIn wsX5_setShare wsX5_isKind := goodIn_r _ [6, 7, 8, 5, 9] (by decide +kernel) (by decide +kernel)
set_option maxRecDepth 20000 in
theorem gX5_setShare_X5_isKind : GoodIn wsX5_setShare (va_wsS RX5 95 yX5_isKind wsX5_isKind) := goodIn_app (goodIn_of _ (by decide +kernel)) ggX5_setShare_X5_isKind
set_option maxRecDepth 20000 in
theorem ggX5_setShare_X5_in : GoodIn wsX5_setShare wsX5_in := goodIn_r _ [9] (by decide +kernel) (by decide +kernel)
set_option maxRecDepth 20000 in
theorem gX5_setShare_X5_in : GoodIn wsX5_setShare (va_wsS RX5 83 yX5_in wsX5_in) := goodIn_app (goodIn_of _ (by decide +kernel)) ggX5_setShare_X5_in
set_option maxRecDepth 20000 in
theorem ggX5_setShare_X5_holds : GoodIn wsX5_setShare wsX5_holds := goodIn_r _ [13, 14, 27, 28, 29, 30, 31, 32, 33, 34, 35, 36, 37, 38, 39, 40, 41, 42, 43, 44, 45, 46, 47, 48, 49, 50, 51, 52, 53, 54, 55, 56, 57] (by decide +kernel) (by decide +kernel)
set_option maxRecDepth 20000 in
theorem gX5_setShare_X5_holds : GoodIn wsX5_setShare (wsV RX5 87 RX5 yX5_holds wsX5_holds) := goodIn_app (goodIn_of _ (by decide +kernel)) ggX5_setShare_X5_holds
set_option maxRecDepth 20000 in
theorem ggX5_setShare_Jxf58ca_floatToIntBits_5c35a : GoodIn wsX5_setShare wsJxf58ca_floatToIntBits_5c35a := goodIn_r _ [18, 19, 20, 21, 22, 23, 24, 25, 17, 26] (by decide +kernel) (by decide +kernel)
set_option maxRecDepth 20000 in
theorem gX5_setShare_Jxf58ca_floatToIntBits_5c35a : GoodIn wsX5_setShare (va_wsS RX5 99 yJxf58ca_floatToIntBits_5c35a wsJxf58ca_floatToIntBits_5c35a) := goodIn_app (goodIn_of _ (by decide +kernel)) ggX5_setShare_Jxf58ca_floatToIntBits_5c35a
theorem dX5_setShare_0 : decode cX5_setShare 0 = .ok (.aload_n 0, 1) := by decide +kernel
theorem dX5_setShare_1 : decode cX5_setShare 1 = .ok (.iload_n 1, 1) := by decide +kernel
theorem dX5_setShare_2 : decode cX5_setShare 2 = .ok (.invokestatic 95, 3) := by decide +kernel
theorem dX5_setShare_5 : decode cX5_setShare 5 = .ok (.ifCond .ne 7, 3) := by decide +kernel
theorem dX5_setShare_8 : decode cX5_setShare 8 = .ok (.iconst 1, 1) := by decide +kernel
theorem dX5_setShare_9 : decode cX5_setShare 9 = .ok (.goto 19, 3) := by decide +kernel
theorem dX5_setShare_12 : decode cX5_setShare 12 = .ok (.iload_n 2, 1) := by decide +kernel
theorem dX5_setShare_13 : decode cX5_setShare 13 = .ok (.iconst 0, 1) := by decide +kernel
theorem dX5_setShare_14 : decode cX5_setShare 14 = .ok (.sipush 999, 3) := by decide +kernel
theorem dX5_setShare_17 : decode cX5_setShare 17 = .ok (.invokestatic 83, 3) := by decide +kernel
theorem dX5_setShare_20 : decode cX5_setShare 20 = .ok (.ifCond .eq 7, 3) := by decide +kernel
theorem dX5_setShare_23 : decode cX5_setShare 23 = .ok (.iconst 0, 1) := by decide +kernel
theorem dX5_setShare_24 : decode cX5_setShare 24 = .ok (.goto 4, 3) := by decide +kernel
theorem dX5_setShare_27 : decode cX5_setShare 27 = .ok (.iconst 2, 1) := by decide +kernel
theorem dX5_setShare_28 : decode cX5_setShare 28 = .ok (.invokevirtual 87, 3) := by decide +kernel
theorem dX5_setShare_31 : decode cX5_setShare 31 = .ok (.ifCond .ne 5, 3) := by decide +kernel
theorem dX5_setShare_34 : decode cX5_setShare 34 = .ok (.iconst 0, 1) := by decide +kernel
theorem dX5_setShare_35 : decode cX5_setShare 35 = .ok (.ireturn, 1) := by decide +kernel
theorem dX5_setShare_36 : decode cX5_setShare 36 = .ok (.aload_n 0, 1) := by decide +kernel
theorem dX5_setShare_37 : decode cX5_setShare 37 = .ok (.getfield 34, 3) := by decide +kernel
theorem dX5_setShare_40 : decode cX5_setShare 40 = .ok (.iload_n 1, 1) := by decide +kernel
theorem dX5_setShare_41 : decode cX5_setShare 41 = .ok (.iload_n 2, 1) := by decide +kernel
theorem dX5_setShare_42 : decode cX5_setShare 42 = .ok (.i2f, 1) := by decide +kernel
theorem dX5_setShare_43 : decode cX5_setShare 43 = .ok (.ldc 98, 2) := by decide +kernel
theorem dX5_setShare_45 : decode cX5_setShare 45 = .ok (.fdiv, 1) := by decide +kernel
theorem dX5_setShare_46 : decode cX5_setShare 46 = .ok (.fastore, 1) := by decide +kernel
theorem dX5_setShare_47 : decode cX5_setShare 47 = .ok (.aload_n 0, 1) := by decide +kernel
theorem dX5_setShare_48 : decode cX5_setShare 48 = .ok (.getfield 34, 3) := by decide +kernel
theorem dX5_setShare_51 : decode cX5_setShare 51 = .ok (.iload_n 1, 1) := by decide +kernel
theorem dX5_setShare_52 : decode cX5_setShare 52 = .ok (.faload, 1) := by decide +kernel
theorem dX5_setShare_53 : decode cX5_setShare 53 = .ok (.invokestatic 99, 3) := by decide +kernel
theorem dX5_setShare_56 : decode cX5_setShare 56 = .ok (.ireturn, 1) := by decide +kernel
set_option maxRecDepth 20000 in
theorem ggX5_setTax_X5_in : GoodIn wsX5_setTax wsX5_in := goodIn_r _ [5] (by decide +kernel) (by decide +kernel)
set_option maxRecDepth 20000 in
theorem gX5_setTax_X5_in : GoodIn wsX5_setTax (va_wsS RX5 83 yX5_in wsX5_in) := goodIn_app (goodIn_of _ (by decide +kernel)) ggX5_setTax_X5_in
set_option maxRecDepth 20000 in
theorem ggX5_setTax_X5_holds : GoodIn wsX5_setTax wsX5_holds := goodIn_r _ [9, 10, 11, 12, 13, 14, 15, 16, 17, 18, 19, 20, 21, 22, 23, 24, 25, 26, 27, 28, 29, 30, 31, 32, 33, 34, 35, 36, 37, 38, 39, 40, 41] (by decide +kernel) (by decide +kernel)
set_option maxRecDepth 20000 in
theorem gX5_setTax_X5_holds : GoodIn wsX5_setTax (wsV RX5 87 RX5 yX5_holds wsX5_holds) := goodIn_app (goodIn_of _ (by decide +kernel)) ggX5_setTax_X5_holds
theorem dX5_setTax_0 : decode cX5_setTax 0 = .ok (.aload_n 0, 1) := by decide +kernel
theorem dX5_setTax_1 : decode cX5_setTax 1 = .ok (.iload_n 1, 1) := by decide +kernel
theorem dX5_setTax_2 : decode cX5_setTax 2 = .ok (.iconst 0, 1) := by decide +kernel
theorem dX5_setTax_3 : decode cX5_setTax 3 = .ok (.sipush 500, 3) := by decide +kernel
theorem dX5_setTax_6 : decode cX5_setTax 6 = .ok (.invokestatic 83, 3) := by decide +kernel
theorem dX5_setTax_9 : decode cX5_setTax 9 = .ok (.ifCond .eq 7, 3) := by decide +kernel
theorem dX5_setTax_12 : decode cX5_setTax 12 = .ok (.iconst 0, 1) := by decide +kernel
theorem dX5_setTax_13 : decode cX5_setTax 13 = .ok (.goto 4, 3) := by decide +kernel
theorem dX5_setTax_16 : decode cX5_setTax 16 = .ok (.iconst 1, 1) := by decide +kernel
theorem dX5_setTax_17 : decode cX5_setTax 17 = .ok (.invokevirtual 87, 3) := by decide +kernel
theorem dX5_setTax_20 : decode cX5_setTax 20 = .ok (.ifCond .ne 5, 3) := by decide +kernel
theorem dX5_setTax_23 : decode cX5_setTax 23 = .ok (.iconst 0, 1) := by decide +kernel
theorem dX5_setTax_24 : decode cX5_setTax 24 = .ok (.ireturn, 1) := by decide +kernel
theorem dX5_setTax_25 : decode cX5_setTax 25 = .ok (.aload_n 0, 1) := by decide +kernel
theorem dX5_setTax_26 : decode cX5_setTax 26 = .ok (.getfield 105, 3) := by decide +kernel
theorem dX5_setTax_29 : decode cX5_setTax 29 = .ok (.istore_n 2, 1) := by decide +kernel
theorem dX5_setTax_30 : decode cX5_setTax 30 = .ok (.aload_n 0, 1) := by decide +kernel
theorem dX5_setTax_31 : decode cX5_setTax 31 = .ok (.iload_n 1, 1) := by decide +kernel
theorem dX5_setTax_32 : decode cX5_setTax 32 = .ok (.putfield 105, 3) := by decide +kernel
theorem dX5_setTax_35 : decode cX5_setTax 35 = .ok (.iload_n 2, 1) := by decide +kernel
theorem dX5_setTax_36 : decode cX5_setTax 36 = .ok (.ireturn, 1) := by decide +kernel
theorem dX5_feeOn_0 : decode cX5_feeOn 0 = .ok (.iload_n 0, 1) := by decide +kernel
theorem dX5_feeOn_1 : decode cX5_feeOn 1 = .ok (.i2f, 1) := by decide +kernel
theorem dX5_feeOn_2 : decode cX5_feeOn 2 = .ok (.fload_n 1, 1) := by decide +kernel
theorem dX5_feeOn_3 : decode cX5_feeOn 3 = .ok (.fmul, 1) := by decide +kernel
theorem dX5_feeOn_4 : decode cX5_feeOn 4 = .ok (.f2i, 1) := by decide +kernel
theorem dX5_feeOn_5 : decode cX5_feeOn 5 = .ok (.ireturn, 1) := by decide +kernel
set_option maxRecDepth 20000 in
theorem ggX5_settles_X5_feeOn : GoodIn wsX5_settles wsX5_feeOn := goodIn_r _ [22] (by decide +kernel) (by decide +kernel)
set_option maxRecDepth 20000 in
theorem gX5_settles_X5_feeOn : GoodIn wsX5_settles (va_wsS RX5 108 yX5_feeOn wsX5_feeOn) := goodIn_app (goodIn_of _ (by decide +kernel)) ggX5_settles_X5_feeOn
theorem dX5_settles_0 : decode cX5_settles 0 = .ok (.iload_n 3, 1) := by decide +kernel
theorem dX5_settles_1 : decode cX5_settles 1 = .ok (.aload_n 0, 1) := by decide +kernel
theorem dX5_settles_2 : decode cX5_settles 2 = .ok (.getfield 105, 3) := by decide +kernel
theorem dX5_settles_5 : decode cX5_settles 5 = .ok (.imul, 1) := by decide +kernel
theorem dX5_settles_6 : decode cX5_settles 6 = .ok (.sipush 1000, 3) := by decide +kernel
theorem dX5_settles_9 : decode cX5_settles 9 = .ok (.idiv, 1) := by decide +kernel
theorem dX5_settles_10 : decode cX5_settles 10 = .ok (.istore 4, 2) := by decide +kernel
theorem dX5_settles_12 : decode cX5_settles 12 = .ok (.iload_n 3, 1) := by decide +kernel
theorem dX5_settles_13 : decode cX5_settles 13 = .ok (.aload_n 0, 1) := by decide +kernel
theorem dX5_settles_14 : decode cX5_settles 14 = .ok (.getfield 34, 3) := by decide +kernel
theorem dX5_settles_17 : decode cX5_settles 17 = .ok (.iload_n 2, 1) := by decide +kernel
theorem dX5_settles_18 : decode cX5_settles 18 = .ok (.faload, 1) := by decide +kernel
theorem dX5_settles_19 : decode cX5_settles 19 = .ok (.invokestatic 108, 3) := by decide +kernel
theorem dX5_settles_22 : decode cX5_settles 22 = .ok (.istore 5, 2) := by decide +kernel
theorem dX5_settles_24 : decode cX5_settles 24 = .ok (.iload 5, 2) := by decide +kernel
theorem dX5_settles_26 : decode cX5_settles 26 = .ok (.iload 4, 2) := by decide +kernel
theorem dX5_settles_28 : decode cX5_settles 28 = .ok (.iadd, 1) := by decide +kernel
theorem dX5_settles_29 : decode cX5_settles 29 = .ok (.iload_n 3, 1) := by decide +kernel
theorem dX5_settles_30 : decode cX5_settles 30 = .ok (.if_icmp .le 10, 3) := by decide +kernel
theorem dX5_settles_33 : decode cX5_settles 33 = .ok (.iload_n 3, 1) := by decide +kernel
theorem dX5_settles_34 : decode cX5_settles 34 = .ok (.iload 4, 2) := by decide +kernel
theorem dX5_settles_36 : decode cX5_settles 36 = .ok (.isub, 1) := by decide +kernel
theorem dX5_settles_37 : decode cX5_settles 37 = .ok (.goto 5, 3) := by decide +kernel
theorem dX5_settles_40 : decode cX5_settles 40 = .ok (.iload 5, 2) := by decide +kernel
theorem dX5_settles_42 : decode cX5_settles 42 = .ok (.istore 5, 2) := by decide +kernel
theorem dX5_settles_44 : decode cX5_settles 44 = .ok (.iload_n 3, 1) := by decide +kernel
theorem dX5_settles_45 : decode cX5_settles 45 = .ok (.iload 5, 2) := by decide +kernel
theorem dX5_settles_47 : decode cX5_settles 47 = .ok (.isub, 1) := by decide +kernel
theorem dX5_settles_48 : decode cX5_settles 48 = .ok (.iload 4, 2) := by decide +kernel
theorem dX5_settles_50 : decode cX5_settles 50 = .ok (.isub, 1) := by decide +kernel
theorem dX5_settles_51 : decode cX5_settles 51 = .ok (.istore 6, 2) := by decide +kernel
theorem dX5_settles_53 : decode cX5_settles 53 = .ok (.iload 6, 2) := by decide +kernel
theorem dX5_settles_55 : decode cX5_settles 55 = .ok (.i2l, 1) := by decide +kernel
theorem dX5_settles_56 : decode cX5_settles 56 = .ok (.aload_n 0, 1) := by decide +kernel
theorem dX5_settles_57 : decode cX5_settles 57 = .ok (.getfield 22, 3) := by decide +kernel
theorem dX5_settles_60 : decode cX5_settles 60 = .ok (.iload_n 1, 1) := by decide +kernel
theorem dX5_settles_61 : decode cX5_settles 61 = .ok (.iaload, 1) := by decide +kernel
theorem dX5_settles_62 : decode cX5_settles 62 = .ok (.i2l, 1) := by decide +kernel
theorem dX5_settles_63 : decode cX5_settles 63 = .ok (.lmul, 1) := by decide +kernel
theorem dX5_settles_64 : decode cX5_settles 64 = .ok (.ldc2_w 112, 3) := by decide +kernel
theorem dX5_settles_67 : decode cX5_settles 67 = .ok (.ldiv, 1) := by decide +kernel
theorem dX5_settles_68 : decode cX5_settles 68 = .ok (.l2i, 1) := by decide +kernel
theorem dX5_settles_69 : decode cX5_settles 69 = .ok (.istore 7, 2) := by decide +kernel
theorem dX5_settles_71 : decode cX5_settles 71 = .ok (.aload_n 0, 1) := by decide +kernel
theorem dX5_settles_72 : decode cX5_settles 72 = .ok (.getfield 38, 3) := by decide +kernel
theorem dX5_settles_75 : decode cX5_settles 75 = .ok (.aload_n 0, 1) := by decide +kernel
theorem dX5_settles_76 : decode cX5_settles 76 = .ok (.getfield 114, 3) := by decide +kernel
theorem dX5_settles_79 : decode cX5_settles 79 = .ok (.iload_n 1, 1) := by decide +kernel
theorem dX5_settles_80 : decode cX5_settles 80 = .ok (.iastore, 1) := by decide +kernel
theorem dX5_settles_81 : decode cX5_settles 81 = .ok (.aload_n 0, 1) := by decide +kernel
theorem dX5_settles_82 : decode cX5_settles 82 = .ok (.getfield 41, 3) := by decide +kernel
theorem dX5_settles_85 : decode cX5_settles 85 = .ok (.aload_n 0, 1) := by decide +kernel
theorem dX5_settles_86 : decode cX5_settles 86 = .ok (.getfield 114, 3) := by decide +kernel
theorem dX5_settles_89 : decode cX5_settles 89 = .ok (.iload_n 3, 1) := by decide +kernel
theorem dX5_settles_90 : decode cX5_settles 90 = .ok (.iastore, 1) := by decide +kernel
theorem dX5_settles_91 : decode cX5_settles 91 = .ok (.aload_n 0, 1) := by decide +kernel
theorem dX5_settles_92 : decode cX5_settles 92 = .ok (.getfield 47, 3) := by decide +kernel
theorem dX5_settles_95 : decode cX5_settles 95 = .ok (.aload_n 0, 1) := by decide +kernel
theorem dX5_settles_96 : decode cX5_settles 96 = .ok (.getfield 114, 3) := by decide +kernel
theorem dX5_settles_99 : decode cX5_settles 99 = .ok (.aload_n 0, 1) := by decide +kernel
theorem dX5_settles_100 : decode cX5_settles 100 = .ok (.getfield 34, 3) := by decide +kernel
theorem dX5_settles_103 : decode cX5_settles 103 = .ok (.iload_n 2, 1) := by decide +kernel
theorem dX5_settles_104 : decode cX5_settles 104 = .ok (.faload, 1) := by decide +kernel
theorem dX5_settles_105 : decode cX5_settles 105 = .ok (.fastore, 1) := by decide +kernel
theorem dX5_settles_106 : decode cX5_settles 106 = .ok (.aload_n 0, 1) := by decide +kernel
theorem dX5_settles_107 : decode cX5_settles 107 = .ok (.getfield 50, 3) := by decide +kernel
theorem dX5_settles_110 : decode cX5_settles 110 = .ok (.aload_n 0, 1) := by decide +kernel
theorem dX5_settles_111 : decode cX5_settles 111 = .ok (.getfield 114, 3) := by decide +kernel
theorem dX5_settles_114 : decode cX5_settles 114 = .ok (.aload_n 0, 1) := by decide +kernel
theorem dX5_settles_115 : decode cX5_settles 115 = .ok (.getfield 105, 3) := by decide +kernel
theorem dX5_settles_118 : decode cX5_settles 118 = .ok (.iastore, 1) := by decide +kernel
theorem dX5_settles_119 : decode cX5_settles 119 = .ok (.aload_n 0, 1) := by decide +kernel
theorem dX5_settles_120 : decode cX5_settles 120 = .ok (.getfield 53, 3) := by decide +kernel
theorem dX5_settles_123 : decode cX5_settles 123 = .ok (.aload_n 0, 1) := by decide +kernel
theorem dX5_settles_124 : decode cX5_settles 124 = .ok (.getfield 114, 3) := by decide +kernel
theorem dX5_settles_127 : decode cX5_settles 127 = .ok (.iload 5, 2) := by decide +kernel
theorem dX5_settles_129 : decode cX5_settles 129 = .ok (.iastore, 1) := by decide +kernel
theorem dX5_settles_130 : decode cX5_settles 130 = .ok (.aload_n 0, 1) := by decide +kernel
theorem dX5_settles_131 : decode cX5_settles 131 = .ok (.getfield 59, 3) := by decide +kernel
theorem dX5_settles_134 : decode cX5_settles 134 = .ok (.aload_n 0, 1) := by decide +kernel
theorem dX5_settles_135 : decode cX5_settles 135 = .ok (.getfield 114, 3) := by decide +kernel
theorem dX5_settles_138 : decode cX5_settles 138 = .ok (.iload 7, 2) := by decide +kernel
theorem dX5_settles_140 : decode cX5_settles 140 = .ok (.iastore, 1) := by decide +kernel
theorem dX5_settles_141 : decode cX5_settles 141 = .ok (.aload_n 0, 1) := by decide +kernel
theorem dX5_settles_142 : decode cX5_settles 142 = .ok (.getfield 62, 3) := by decide +kernel
theorem dX5_settles_145 : decode cX5_settles 145 = .ok (.aload_n 0, 1) := by decide +kernel
theorem dX5_settles_146 : decode cX5_settles 146 = .ok (.getfield 114, 3) := by decide +kernel
theorem dX5_settles_149 : decode cX5_settles 149 = .ok (.aload_n 0, 1) := by decide +kernel
theorem dX5_settles_150 : decode cX5_settles 150 = .ok (.getfield 117, 3) := by decide +kernel
theorem dX5_settles_153 : decode cX5_settles 153 = .ok (.aload_n 0, 1) := by decide +kernel
theorem dX5_settles_154 : decode cX5_settles 154 = .ok (.getfield 25, 3) := by decide +kernel
theorem dX5_settles_157 : decode cX5_settles 157 = .ok (.iload_n 1, 1) := by decide +kernel
theorem dX5_settles_158 : decode cX5_settles 158 = .ok (.iaload, 1) := by decide +kernel
theorem dX5_settles_159 : decode cX5_settles 159 = .ok (.iadd, 1) := by decide +kernel
theorem dX5_settles_160 : decode cX5_settles 160 = .ok (.iastore, 1) := by decide +kernel
theorem dX5_settles_161 : decode cX5_settles 161 = .ok (.aload_n 0, 1) := by decide +kernel
theorem dX5_settles_162 : decode cX5_settles 162 = .ok (.getfield 28, 3) := by decide +kernel
theorem dX5_settles_165 : decode cX5_settles 165 = .ok (.iload_n 1, 1) := by decide +kernel
theorem dX5_settles_166 : decode cX5_settles 166 = .ok (.dup2, 1) := by decide +kernel
theorem dX5_settles_167 : decode cX5_settles 167 = .ok (.iaload, 1) := by decide +kernel
theorem dX5_settles_168 : decode cX5_settles 168 = .ok (.iload 6, 2) := by decide +kernel
theorem dX5_settles_170 : decode cX5_settles 170 = .ok (.iload 7, 2) := by decide +kernel
theorem dX5_settles_172 : decode cX5_settles 172 = .ok (.isub, 1) := by decide +kernel
theorem dX5_settles_173 : decode cX5_settles 173 = .ok (.iadd, 1) := by decide +kernel
theorem dX5_settles_174 : decode cX5_settles 174 = .ok (.iastore, 1) := by decide +kernel
theorem dX5_settles_175 : decode cX5_settles 175 = .ok (.aload_n 0, 1) := by decide +kernel
theorem dX5_settles_176 : decode cX5_settles 176 = .ok (.dup, 1) := by decide +kernel
theorem dX5_settles_177 : decode cX5_settles 177 = .ok (.getfield 120, 3) := by decide +kernel
theorem dX5_settles_180 : decode cX5_settles 180 = .ok (.iload_n 3, 1) := by decide +kernel
theorem dX5_settles_181 : decode cX5_settles 181 = .ok (.iadd, 1) := by decide +kernel
theorem dX5_settles_182 : decode cX5_settles 182 = .ok (.putfield 120, 3) := by decide +kernel
theorem dX5_settles_185 : decode cX5_settles 185 = .ok (.aload_n 0, 1) := by decide +kernel
theorem dX5_settles_186 : decode cX5_settles 186 = .ok (.dup, 1) := by decide +kernel
theorem dX5_settles_187 : decode cX5_settles 187 = .ok (.getfield 123, 3) := by decide +kernel
theorem dX5_settles_190 : decode cX5_settles 190 = .ok (.iload 5, 2) := by decide +kernel
theorem dX5_settles_192 : decode cX5_settles 192 = .ok (.iadd, 1) := by decide +kernel
theorem dX5_settles_193 : decode cX5_settles 193 = .ok (.putfield 123, 3) := by decide +kernel
theorem dX5_settles_196 : decode cX5_settles 196 = .ok (.aload_n 0, 1) := by decide +kernel
theorem dX5_settles_197 : decode cX5_settles 197 = .ok (.dup, 1) := by decide +kernel
theorem dX5_settles_198 : decode cX5_settles 198 = .ok (.getfield 126, 3) := by decide +kernel
theorem dX5_settles_201 : decode cX5_settles 201 = .ok (.iload 4, 2) := by decide +kernel
theorem dX5_settles_203 : decode cX5_settles 203 = .ok (.iadd, 1) := by decide +kernel
theorem dX5_settles_204 : decode cX5_settles 204 = .ok (.putfield 126, 3) := by decide +kernel
theorem dX5_settles_207 : decode cX5_settles 207 = .ok (.aload_n 0, 1) := by decide +kernel
theorem dX5_settles_208 : decode cX5_settles 208 = .ok (.dup, 1) := by decide +kernel
theorem dX5_settles_209 : decode cX5_settles 209 = .ok (.getfield 114, 3) := by decide +kernel
theorem dX5_settles_212 : decode cX5_settles 212 = .ok (.iconst 1, 1) := by decide +kernel
theorem dX5_settles_213 : decode cX5_settles 213 = .ok (.iadd, 1) := by decide +kernel
theorem dX5_settles_214 : decode cX5_settles 214 = .ok (.putfield 114, 3) := by decide +kernel
theorem dX5_settles_217 : decode cX5_settles 217 = .ok (.return_, 1) := by decide +kernel
set_option maxRecDepth 20000 in
theorem ggX5_sell_X5_isSeller : GoodIn wsX5_sell wsX5_isSeller := goodIn_r _ [7, 8, 9, 10, 6, 11, 44, 45, 46, 47, 48, 49, 50, 51, 52, 53, 54, 55, 56, 57, 58, 59, 60, 61, 62, 63, 64, 65, 66, 67, 68, 69, 70, 71, 72, 73, 74] (by decide +kernel) (by decide +kernel)
set_option maxRecDepth 20000 in
theorem gX5_sell_X5_isSeller : GoodIn wsX5_sell (wsV RX5 91 RX5 yX5_isSeller wsX5_isSeller) := goodIn_app (goodIn_of _ (by decide +kernel)) ggX5_sell_X5_isSeller
set_option maxRecDepth 20000 in
theorem ggX5_sell_X5_isKind : GoodIn wsX5_sell wsX5_isKind := goodIn_r _ [14, 9, 10, 6, 11] (by decide +kernel) (by decide +kernel)
set_option maxRecDepth 20000 in
theorem gX5_sell_X5_isKind : GoodIn wsX5_sell (va_wsS RX5 95 yX5_isKind wsX5_isKind) := goodIn_app (goodIn_of _ (by decide +kernel)) ggX5_sell_X5_isKind
set_option maxRecDepth 20000 in
theorem ggX5_sell_X5_in : GoodIn wsX5_sell wsX5_in := goodIn_r _ [11] (by decide +kernel) (by decide +kernel)
set_option maxRecDepth 20000 in
theorem gX5_sell_X5_in : GoodIn wsX5_sell (va_wsS RX5 83 yX5_in wsX5_in) := goodIn_app (goodIn_of _ (by decide +kernel)) ggX5_sell_X5_in
set_option maxRecDepth 20000 in
theorem ggX5_sell_X5_holds : GoodIn wsX5_sell wsX5_holds := goodIn_r _ [18, 19, 44, 45, 46, 47, 48, 49, 50, 51, 52, 53, 54, 55, 56, 57, 58, 59, 60, 61, 62, 63, 64, 65, 66, 67, 68, 69, 70, 71, 72, 73, 74] (by decide +kernel) (by decide +kernel)
set_option maxRecDepth 20000 in
theorem gX5_sell_X5_holds : GoodIn wsX5_sell (wsV RX5 87 RX5 yX5_holds wsX5_holds) := goodIn_app (goodIn_of _ (by decide +kernel)) ggX5_sell_X5_holds
set_option maxRecDepth 20000 in
theorem ggX5_sell_X5_settles : GoodIn wsX5_sell wsX5_settles := goodIn_r _ [23, 24, 25, 26, 27, 28, 2, 29, 30, 31, 32, 33, 34, 35, 36, 37, 38, 39, 40, 41, 42, 6, 43, 44, 45, 46, 47, 48, 49, 50, 51, 52, 53, 54, 55, 56, 57, 58, 59, 60, 61, 62, 63, 64, 65, 66, 67, 68, 69, 70, 71, 72, 73, 74] (by decide +kernel) (by decide +kernel)
set_option maxRecDepth 20000 in
theorem gX5_sell_X5_settles : GoodIn wsX5_sell (wsV RX5 129 RX5 yX5_settles wsX5_settles) := goodIn_app (goodIn_of _ (by decide +kernel)) ggX5_sell_X5_settles
theorem dX5_sell_0 : decode cX5_sell 0 = .ok (.aload_n 0, 1) := by decide +kernel
theorem dX5_sell_1 : decode cX5_sell 1 = .ok (.iload_n 1, 1) := by decide +kernel
theorem dX5_sell_2 : decode cX5_sell 2 = .ok (.invokevirtual 91, 3) := by decide +kernel
theorem dX5_sell_5 : decode cX5_sell 5 = .ok (.ifCond .eq 14, 3) := by decide +kernel
theorem dX5_sell_8 : decode cX5_sell 8 = .ok (.iload_n 2, 1) := by decide +kernel
theorem dX5_sell_9 : decode cX5_sell 9 = .ok (.invokestatic 95, 3) := by decide +kernel
theorem dX5_sell_12 : decode cX5_sell 12 = .ok (.ifCond .eq 7, 3) := by decide +kernel
theorem dX5_sell_15 : decode cX5_sell 15 = .ok (.iconst 1, 1) := by decide +kernel
theorem dX5_sell_16 : decode cX5_sell 16 = .ok (.goto 4, 3) := by decide +kernel
theorem dX5_sell_19 : decode cX5_sell 19 = .ok (.iconst 0, 1) := by decide +kernel
theorem dX5_sell_20 : decode cX5_sell 20 = .ok (.istore 4, 2) := by decide +kernel
theorem dX5_sell_22 : decode cX5_sell 22 = .ok (.aload_n 0, 1) := by decide +kernel
theorem dX5_sell_23 : decode cX5_sell 23 = .ok (.iload 4, 2) := by decide +kernel
theorem dX5_sell_25 : decode cX5_sell 25 = .ok (.ifCond .ne 7, 3) := by decide +kernel
theorem dX5_sell_28 : decode cX5_sell 28 = .ok (.iconst 1, 1) := by decide +kernel
theorem dX5_sell_29 : decode cX5_sell 29 = .ok (.goto 31, 3) := by decide +kernel
theorem dX5_sell_32 : decode cX5_sell 32 = .ok (.iload_n 3, 1) := by decide +kernel
theorem dX5_sell_33 : decode cX5_sell 33 = .ok (.iconst 1, 1) := by decide +kernel
theorem dX5_sell_34 : decode cX5_sell 34 = .ok (.ldc 94, 2) := by decide +kernel
theorem dX5_sell_36 : decode cX5_sell 36 = .ok (.invokestatic 83, 3) := by decide +kernel
theorem dX5_sell_39 : decode cX5_sell 39 = .ok (.ifCond .ne 7, 3) := by decide +kernel
theorem dX5_sell_42 : decode cX5_sell 42 = .ok (.iconst 2, 1) := by decide +kernel
theorem dX5_sell_43 : decode cX5_sell 43 = .ok (.goto 17, 3) := by decide +kernel
theorem dX5_sell_46 : decode cX5_sell 46 = .ok (.aload_n 0, 1) := by decide +kernel
theorem dX5_sell_47 : decode cX5_sell 47 = .ok (.getfield 114, 3) := by decide +kernel
theorem dX5_sell_50 : decode cX5_sell 50 = .ok (.bipush 100, 2) := by decide +kernel
theorem dX5_sell_52 : decode cX5_sell 52 = .ok (.if_icmp .ne 7, 3) := by decide +kernel
theorem dX5_sell_55 : decode cX5_sell 55 = .ok (.iconst 3, 1) := by decide +kernel
theorem dX5_sell_56 : decode cX5_sell 56 = .ok (.goto 4, 3) := by decide +kernel
theorem dX5_sell_59 : decode cX5_sell 59 = .ok (.iconst 0, 1) := by decide +kernel
theorem dX5_sell_60 : decode cX5_sell 60 = .ok (.invokevirtual 87, 3) := by decide +kernel
theorem dX5_sell_63 : decode cX5_sell 63 = .ok (.ifCond .ne 5, 3) := by decide +kernel
theorem dX5_sell_66 : decode cX5_sell 66 = .ok (.iconst 0, 1) := by decide +kernel
theorem dX5_sell_67 : decode cX5_sell 67 = .ok (.ireturn, 1) := by decide +kernel
theorem dX5_sell_68 : decode cX5_sell 68 = .ok (.aload_n 0, 1) := by decide +kernel
theorem dX5_sell_69 : decode cX5_sell 69 = .ok (.iload_n 1, 1) := by decide +kernel
theorem dX5_sell_70 : decode cX5_sell 70 = .ok (.iload_n 2, 1) := by decide +kernel
theorem dX5_sell_71 : decode cX5_sell 71 = .ok (.iload_n 3, 1) := by decide +kernel
theorem dX5_sell_72 : decode cX5_sell 72 = .ok (.invokevirtual 129, 3) := by decide +kernel
theorem dX5_sell_75 : decode cX5_sell 75 = .ok (.aload_n 0, 1) := by decide +kernel
theorem dX5_sell_76 : decode cX5_sell 76 = .ok (.getfield 114, 3) := by decide +kernel
theorem dX5_sell_79 : decode cX5_sell 79 = .ok (.iconst 1, 1) := by decide +kernel
theorem dX5_sell_80 : decode cX5_sell 80 = .ok (.isub, 1) := by decide +kernel
theorem dX5_sell_81 : decode cX5_sell 81 = .ok (.ireturn, 1) := by decide +kernel
theorem dX5_many_0 : decode cX5_many 0 = .ok (.iconst 0, 1) := by decide +kernel
theorem dX5_many_1 : decode cX5_many 1 = .ok (.istore_n 1, 1) := by decide +kernel
theorem dX5_many_2 : decode cX5_many 2 = .ok (.iload_n 0, 1) := by decide +kernel
theorem dX5_many_3 : decode cX5_many 3 = .ok (.istore_n 2, 1) := by decide +kernel
theorem dX5_many_4 : decode cX5_many 4 = .ok (.iload_n 2, 1) := by decide +kernel
theorem dX5_many_5 : decode cX5_many 5 = .ok (.ifCond .eq 15, 3) := by decide +kernel
theorem dX5_many_8 : decode cX5_many 8 = .ok (.iinc 1 1, 3) := by decide +kernel
theorem dX5_many_11 : decode cX5_many 11 = .ok (.iload_n 2, 1) := by decide +kernel
theorem dX5_many_12 : decode cX5_many 12 = .ok (.iload_n 2, 1) := by decide +kernel
theorem dX5_many_13 : decode cX5_many 13 = .ok (.iconst 1, 1) := by decide +kernel
theorem dX5_many_14 : decode cX5_many 14 = .ok (.isub, 1) := by decide +kernel
theorem dX5_many_15 : decode cX5_many 15 = .ok (.iand, 1) := by decide +kernel
theorem dX5_many_16 : decode cX5_many 16 = .ok (.istore_n 2, 1) := by decide +kernel
theorem dX5_many_17 : decode cX5_many 17 = .ok (.goto (-13), 3) := by decide +kernel
theorem dX5_many_20 : decode cX5_many 20 = .ok (.iload_n 1, 1) := by decide +kernel
theorem dX5_many_21 : decode cX5_many 21 = .ok (.ireturn, 1) := by decide +kernel
set_option maxRecDepth 20000 in
theorem ggX5_order_X5_in : GoodIn wsX5_order wsX5_in := goodIn_r _ [7] (by decide +kernel) (by decide +kernel)
set_option maxRecDepth 20000 in
theorem gX5_order_X5_in : GoodIn wsX5_order (va_wsS RX5 83 yX5_in wsX5_in) := goodIn_app (goodIn_of _ (by decide +kernel)) ggX5_order_X5_in
set_option maxRecDepth 20000 in
theorem ggX5_order_X5_many : GoodIn wsX5_order wsX5_many := goodIn_r _ [10] (by decide +kernel) (by decide +kernel)
set_option maxRecDepth 20000 in
theorem gX5_order_X5_many : GoodIn wsX5_order (va_wsS RX5 133 yX5_many wsX5_many) := goodIn_app (goodIn_of _ (by decide +kernel)) ggX5_order_X5_many
set_option maxRecDepth 20000 in
theorem ggX5_order_X5_isKind : GoodIn wsX5_order wsX5_isKind := goodIn_r _ [13, 4, 5, 6, 7] (by decide +kernel) (by decide +kernel)
set_option maxRecDepth 20000 in
theorem gX5_order_X5_isKind : GoodIn wsX5_order (va_wsS RX5 95 yX5_isKind wsX5_isKind) := goodIn_app (goodIn_of _ (by decide +kernel)) ggX5_order_X5_isKind
set_option maxRecDepth 20000 in
theorem ggX5_order_X5_holds : GoodIn wsX5_order wsX5_holds := goodIn_r _ [17, 18, 43, 44, 45, 46, 47, 48, 49, 50, 51, 52, 53, 54, 55, 56, 57, 58, 59, 60, 61, 62, 63, 64, 65, 66, 67, 68, 69, 70, 71, 72, 73] (by decide +kernel) (by decide +kernel)
set_option maxRecDepth 20000 in
theorem gX5_order_X5_holds : GoodIn wsX5_order (wsV RX5 87 RX5 yX5_holds wsX5_holds) := goodIn_app (goodIn_of _ (by decide +kernel)) ggX5_order_X5_holds
set_option maxRecDepth 20000 in
theorem ggX5_order_X5_settles : GoodIn wsX5_order wsX5_settles := goodIn_r _ [22, 23, 24, 25, 26, 27, 3, 28, 29, 30, 31, 32, 33, 34, 35, 36, 37, 38, 39, 40, 41, 6, 42, 43, 44, 45, 46, 47, 48, 49, 50, 51, 52, 53, 54, 55, 56, 57, 58, 59, 60, 61, 62, 63, 64, 65, 66, 67, 68, 69, 70, 71, 72, 73] (by decide +kernel) (by decide +kernel)
set_option maxRecDepth 20000 in
theorem gX5_order_X5_settles : GoodIn wsX5_order (wsV RX5 129 RX5 yX5_settles wsX5_settles) := goodIn_app (goodIn_of _ (by decide +kernel)) ggX5_order_X5_settles
theorem dX5_order_0 : decode cX5_order 0 = .ok (.iload_n 1, 1) := by decide +kernel
theorem dX5_order_1 : decode cX5_order 1 = .ok (.iconst 1, 1) := by decide +kernel
theorem dX5_order_2 : decode cX5_order 2 = .ok (.sipush 255, 3) := by decide +kernel
theorem dX5_order_5 : decode cX5_order 5 = .ok (.invokestatic 83, 3) := by decide +kernel
theorem dX5_order_8 : decode cX5_order 8 = .ok (.ifCond .eq 17, 3) := by decide +kernel
theorem dX5_order_11 : decode cX5_order 11 = .ok (.iload_n 3, 1) := by decide +kernel
theorem dX5_order_12 : decode cX5_order 12 = .ok (.iconst 1, 1) := by decide +kernel
theorem dX5_order_13 : decode cX5_order 13 = .ok (.ldc 94, 2) := by decide +kernel
theorem dX5_order_15 : decode cX5_order 15 = .ok (.invokestatic 83, 3) := by decide +kernel
theorem dX5_order_18 : decode cX5_order 18 = .ok (.ifCond .eq 7, 3) := by decide +kernel
theorem dX5_order_21 : decode cX5_order 21 = .ok (.iconst 1, 1) := by decide +kernel
theorem dX5_order_22 : decode cX5_order 22 = .ok (.goto 4, 3) := by decide +kernel
theorem dX5_order_25 : decode cX5_order 25 = .ok (.iconst 0, 1) := by decide +kernel
theorem dX5_order_26 : decode cX5_order 26 = .ok (.istore 4, 2) := by decide +kernel
theorem dX5_order_28 : decode cX5_order 28 = .ok (.iload 4, 2) := by decide +kernel
theorem dX5_order_30 : decode cX5_order 30 = .ok (.ifCond .eq 10, 3) := by decide +kernel
theorem dX5_order_33 : decode cX5_order 33 = .ok (.iload_n 1, 1) := by decide +kernel
theorem dX5_order_34 : decode cX5_order 34 = .ok (.invokestatic 133, 3) := by decide +kernel
theorem dX5_order_37 : decode cX5_order 37 = .ok (.goto 4, 3) := by decide +kernel
theorem dX5_order_40 : decode cX5_order 40 = .ok (.iconst 1, 1) := by decide +kernel
theorem dX5_order_41 : decode cX5_order 41 = .ok (.istore 5, 2) := by decide +kernel
theorem dX5_order_43 : decode cX5_order 43 = .ok (.iload 4, 2) := by decide +kernel
theorem dX5_order_45 : decode cX5_order 45 = .ok (.ifCond .eq 13, 3) := by decide +kernel
theorem dX5_order_48 : decode cX5_order 48 = .ok (.iload_n 3, 1) := by decide +kernel
theorem dX5_order_49 : decode cX5_order 49 = .ok (.iload 5, 2) := by decide +kernel
theorem dX5_order_51 : decode cX5_order 51 = .ok (.if_icmp .ge 7, 3) := by decide +kernel
theorem dX5_order_54 : decode cX5_order 54 = .ok (.iload_n 3, 1) := by decide +kernel
theorem dX5_order_55 : decode cX5_order 55 = .ok (.goto 5, 3) := by decide +kernel
theorem dX5_order_58 : decode cX5_order 58 = .ok (.iload 5, 2) := by decide +kernel
theorem dX5_order_60 : decode cX5_order 60 = .ok (.istore 6, 2) := by decide +kernel
theorem dX5_order_62 : decode cX5_order 62 = .ok (.iload 4, 2) := by decide +kernel
theorem dX5_order_64 : decode cX5_order 64 = .ok (.ifCond .eq 29, 3) := by decide +kernel
theorem dX5_order_67 : decode cX5_order 67 = .ok (.iload_n 1, 1) := by decide +kernel
theorem dX5_order_68 : decode cX5_order 68 = .ok (.iconst 1, 1) := by decide +kernel
theorem dX5_order_69 : decode cX5_order 69 = .ok (.aload_n 0, 1) := by decide +kernel
theorem dX5_order_70 : decode cX5_order 70 = .ok (.getfield 80, 3) := by decide +kernel
theorem dX5_order_73 : decode cX5_order 73 = .ok (.ishl, 1) := by decide +kernel
theorem dX5_order_74 : decode cX5_order 74 = .ok (.if_icmp .ge 19, 3) := by decide +kernel
theorem dX5_order_77 : decode cX5_order 77 = .ok (.aload_n 0, 1) := by decide +kernel
theorem dX5_order_78 : decode cX5_order 78 = .ok (.getfield 114, 3) := by decide +kernel
theorem dX5_order_81 : decode cX5_order 81 = .ok (.iload 6, 2) := by decide +kernel
theorem dX5_order_83 : decode cX5_order 83 = .ok (.iadd, 1) := by decide +kernel
theorem dX5_order_84 : decode cX5_order 84 = .ok (.bipush 100, 2) := by decide +kernel
theorem dX5_order_86 : decode cX5_order 86 = .ok (.if_icmp .gt 7, 3) := by decide +kernel
theorem dX5_order_89 : decode cX5_order 89 = .ok (.iconst 1, 1) := by decide +kernel
theorem dX5_order_90 : decode cX5_order 90 = .ok (.goto 4, 3) := by decide +kernel
theorem dX5_order_93 : decode cX5_order 93 = .ok (.iconst 0, 1) := by decide +kernel
theorem dX5_order_94 : decode cX5_order 94 = .ok (.istore 7, 2) := by decide +kernel
theorem dX5_order_96 : decode cX5_order 96 = .ok (.aload_n 0, 1) := by decide +kernel
theorem dX5_order_97 : decode cX5_order 97 = .ok (.iload_n 2, 1) := by decide +kernel
theorem dX5_order_98 : decode cX5_order 98 = .ok (.invokestatic 95, 3) := by decide +kernel
theorem dX5_order_101 : decode cX5_order 101 = .ok (.ifCond .ne 7, 3) := by decide +kernel
theorem dX5_order_104 : decode cX5_order 104 = .ok (.iconst 1, 1) := by decide +kernel
theorem dX5_order_105 : decode cX5_order 105 = .ok (.goto 22, 3) := by decide +kernel
theorem dX5_order_108 : decode cX5_order 108 = .ok (.iload 4, 2) := by decide +kernel
theorem dX5_order_110 : decode cX5_order 110 = .ok (.ifCond .ne 7, 3) := by decide +kernel
theorem dX5_order_113 : decode cX5_order 113 = .ok (.iconst 2, 1) := by decide +kernel
theorem dX5_order_114 : decode cX5_order 114 = .ok (.goto 13, 3) := by decide +kernel
theorem dX5_order_117 : decode cX5_order 117 = .ok (.iload 7, 2) := by decide +kernel
theorem dX5_order_119 : decode cX5_order 119 = .ok (.ifCond .eq 7, 3) := by decide +kernel
theorem dX5_order_122 : decode cX5_order 122 = .ok (.iconst 0, 1) := by decide +kernel
theorem dX5_order_123 : decode cX5_order 123 = .ok (.goto 4, 3) := by decide +kernel
theorem dX5_order_126 : decode cX5_order 126 = .ok (.iconst 3, 1) := by decide +kernel
theorem dX5_order_127 : decode cX5_order 127 = .ok (.invokevirtual 87, 3) := by decide +kernel
theorem dX5_order_130 : decode cX5_order 130 = .ok (.ifCond .ne 5, 3) := by decide +kernel
theorem dX5_order_133 : decode cX5_order 133 = .ok (.iconst 0, 1) := by decide +kernel
theorem dX5_order_134 : decode cX5_order 134 = .ok (.ireturn, 1) := by decide +kernel
theorem dX5_order_135 : decode cX5_order 135 = .ok (.iconst 0, 1) := by decide +kernel
theorem dX5_order_136 : decode cX5_order 136 = .ok (.istore 8, 2) := by decide +kernel
theorem dX5_order_138 : decode cX5_order 138 = .ok (.iconst 0, 1) := by decide +kernel
theorem dX5_order_139 : decode cX5_order 139 = .ok (.istore 9, 2) := by decide +kernel
theorem dX5_order_141 : decode cX5_order 141 = .ok (.iload 9, 2) := by decide +kernel
theorem dX5_order_143 : decode cX5_order 143 = .ok (.bipush 8, 2) := by decide +kernel
theorem dX5_order_145 : decode cX5_order 145 = .ok (.if_icmp .ge 57, 3) := by decide +kernel
theorem dX5_order_148 : decode cX5_order 148 = .ok (.iload_n 1, 1) := by decide +kernel
theorem dX5_order_149 : decode cX5_order 149 = .ok (.iload 9, 2) := by decide +kernel
theorem dX5_order_151 : decode cX5_order 151 = .ok (.ishr, 1) := by decide +kernel
theorem dX5_order_152 : decode cX5_order 152 = .ok (.iconst 1, 1) := by decide +kernel
theorem dX5_order_153 : decode cX5_order 153 = .ok (.iand, 1) := by decide +kernel
theorem dX5_order_154 : decode cX5_order 154 = .ok (.iconst 1, 1) := by decide +kernel
theorem dX5_order_155 : decode cX5_order 155 = .ok (.if_icmp .ne 41, 3) := by decide +kernel
theorem dX5_order_158 : decode cX5_order 158 = .ok (.iload_n 3, 1) := by decide +kernel
theorem dX5_order_159 : decode cX5_order 159 = .ok (.iload 5, 2) := by decide +kernel
theorem dX5_order_161 : decode cX5_order 161 = .ok (.idiv, 1) := by decide +kernel
theorem dX5_order_162 : decode cX5_order 162 = .ok (.iload 8, 2) := by decide +kernel
theorem dX5_order_164 : decode cX5_order 164 = .ok (.iload_n 3, 1) := by decide +kernel
theorem dX5_order_165 : decode cX5_order 165 = .ok (.iload 5, 2) := by decide +kernel
theorem dX5_order_167 : decode cX5_order 167 = .ok (.irem, 1) := by decide +kernel
theorem dX5_order_168 : decode cX5_order 168 = .ok (.if_icmp .ge 7, 3) := by decide +kernel
theorem dX5_order_171 : decode cX5_order 171 = .ok (.iconst 1, 1) := by decide +kernel
theorem dX5_order_172 : decode cX5_order 172 = .ok (.goto 4, 3) := by decide +kernel
theorem dX5_order_175 : decode cX5_order 175 = .ok (.iconst 0, 1) := by decide +kernel
theorem dX5_order_176 : decode cX5_order 176 = .ok (.iadd, 1) := by decide +kernel
theorem dX5_order_177 : decode cX5_order 177 = .ok (.istore 10, 2) := by decide +kernel
theorem dX5_order_179 : decode cX5_order 179 = .ok (.iload 10, 2) := by decide +kernel
theorem dX5_order_181 : decode cX5_order 181 = .ok (.ifCond .le 12, 3) := by decide +kernel
theorem dX5_order_184 : decode cX5_order 184 = .ok (.aload_n 0, 1) := by decide +kernel
theorem dX5_order_185 : decode cX5_order 185 = .ok (.iload 9, 2) := by decide +kernel
theorem dX5_order_187 : decode cX5_order 187 = .ok (.iload_n 2, 1) := by decide +kernel
theorem dX5_order_188 : decode cX5_order 188 = .ok (.iload 10, 2) := by decide +kernel
theorem dX5_order_190 : decode cX5_order 190 = .ok (.invokevirtual 129, 3) := by decide +kernel
theorem dX5_order_193 : decode cX5_order 193 = .ok (.iinc 8 1, 3) := by decide +kernel
theorem dX5_order_196 : decode cX5_order 196 = .ok (.iinc 9 1, 3) := by decide +kernel
theorem dX5_order_199 : decode cX5_order 199 = .ok (.goto (-58), 3) := by decide +kernel
theorem dX5_order_202 : decode cX5_order 202 = .ok (.iload 6, 2) := by decide +kernel
theorem dX5_order_204 : decode cX5_order 204 = .ok (.ireturn, 1) := by decide +kernel
set_option maxRecDepth 20000 in
theorem ggX5_refund_X5_in : GoodIn wsX5_refund wsX5_in := goodIn_r _ [17] (by decide +kernel) (by decide +kernel)
set_option maxRecDepth 20000 in
theorem gX5_refund_X5_in : GoodIn wsX5_refund (va_wsS RX5 83 yX5_in wsX5_in) := goodIn_app (goodIn_of _ (by decide +kernel)) ggX5_refund_X5_in
set_option maxRecDepth 20000 in
theorem ggX5_refund_X5_holds : GoodIn wsX5_refund wsX5_holds := goodIn_r _ [21, 22, 26, 27, 28, 29, 30, 31, 32, 33, 34, 35, 36, 37, 38, 39, 40, 41, 42, 43, 44, 45, 46, 47, 48, 49, 50, 51, 52, 53, 54, 55, 56] (by decide +kernel) (by decide +kernel)
set_option maxRecDepth 20000 in
theorem gX5_refund_X5_holds : GoodIn wsX5_refund (wsV RX5 87 RX5 yX5_holds wsX5_holds) := goodIn_app (goodIn_of _ (by decide +kernel)) ggX5_refund_X5_holds
set_option maxRecDepth 20000 in
theorem ggX5_refund_X5_feeOn : GoodIn wsX5_refund wsX5_feeOn := goodIn_r _ [25] (by decide +kernel) (by decide +kernel)
set_option maxRecDepth 20000 in
theorem gX5_refund_X5_feeOn : GoodIn wsX5_refund (va_wsS RX5 108 yX5_feeOn wsX5_feeOn) := goodIn_app (goodIn_of _ (by decide +kernel)) ggX5_refund_X5_feeOn
theorem dX5_refund_0 : decode cX5_refund 0 = .ok (.iload_n 1, 1) := by decide +kernel
theorem dX5_refund_1 : decode cX5_refund 1 = .ok (.iconst 0, 1) := by decide +kernel
theorem dX5_refund_2 : decode cX5_refund 2 = .ok (.aload_n 0, 1) := by decide +kernel
theorem dX5_refund_3 : decode cX5_refund 3 = .ok (.getfield 114, 3) := by decide +kernel
theorem dX5_refund_6 : decode cX5_refund 6 = .ok (.iconst 1, 1) := by decide +kernel
theorem dX5_refund_7 : decode cX5_refund 7 = .ok (.isub, 1) := by decide +kernel
theorem dX5_refund_8 : decode cX5_refund 8 = .ok (.invokestatic 83, 3) := by decide +kernel
theorem dX5_refund_11 : decode cX5_refund 11 = .ok (.istore 4, 2) := by decide +kernel
theorem dX5_refund_13 : decode cX5_refund 13 = .ok (.aload_n 0, 1) := by decide +kernel
theorem dX5_refund_14 : decode cX5_refund 14 = .ok (.iload 4, 2) := by decide +kernel
theorem dX5_refund_16 : decode cX5_refund 16 = .ok (.ifCond .ne 7, 3) := by decide +kernel
theorem dX5_refund_19 : decode cX5_refund 19 = .ok (.iconst 1, 1) := by decide +kernel
theorem dX5_refund_20 : decode cX5_refund 20 = .ok (.goto 39, 3) := by decide +kernel
theorem dX5_refund_23 : decode cX5_refund 23 = .ok (.iload_n 2, 1) := by decide +kernel
theorem dX5_refund_24 : decode cX5_refund 24 = .ok (.iconst 1, 1) := by decide +kernel
theorem dX5_refund_25 : decode cX5_refund 25 = .ok (.ldc 94, 2) := by decide +kernel
theorem dX5_refund_27 : decode cX5_refund 27 = .ok (.invokestatic 83, 3) := by decide +kernel
theorem dX5_refund_30 : decode cX5_refund 30 = .ok (.ifCond .ne 7, 3) := by decide +kernel
theorem dX5_refund_33 : decode cX5_refund 33 = .ok (.iconst 2, 1) := by decide +kernel
theorem dX5_refund_34 : decode cX5_refund 34 = .ok (.goto 25, 3) := by decide +kernel
theorem dX5_refund_37 : decode cX5_refund 37 = .ok (.aload_n 0, 1) := by decide +kernel
theorem dX5_refund_38 : decode cX5_refund 38 = .ok (.getfield 41, 3) := by decide +kernel
theorem dX5_refund_41 : decode cX5_refund 41 = .ok (.iload_n 1, 1) := by decide +kernel
theorem dX5_refund_42 : decode cX5_refund 42 = .ok (.iaload, 1) := by decide +kernel
theorem dX5_refund_43 : decode cX5_refund 43 = .ok (.aload_n 0, 1) := by decide +kernel
theorem dX5_refund_44 : decode cX5_refund 44 = .ok (.getfield 44, 3) := by decide +kernel
theorem dX5_refund_47 : decode cX5_refund 47 = .ok (.iload_n 1, 1) := by decide +kernel
theorem dX5_refund_48 : decode cX5_refund 48 = .ok (.iaload, 1) := by decide +kernel
theorem dX5_refund_49 : decode cX5_refund 49 = .ok (.isub, 1) := by decide +kernel
theorem dX5_refund_50 : decode cX5_refund 50 = .ok (.iload_n 2, 1) := by decide +kernel
theorem dX5_refund_51 : decode cX5_refund 51 = .ok (.if_icmp .ge 7, 3) := by decide +kernel
theorem dX5_refund_54 : decode cX5_refund 54 = .ok (.iconst 3, 1) := by decide +kernel
theorem dX5_refund_55 : decode cX5_refund 55 = .ok (.goto 4, 3) := by decide +kernel
theorem dX5_refund_58 : decode cX5_refund 58 = .ok (.iconst 0, 1) := by decide +kernel
theorem dX5_refund_59 : decode cX5_refund 59 = .ok (.invokevirtual 87, 3) := by decide +kernel
theorem dX5_refund_62 : decode cX5_refund 62 = .ok (.ifCond .ne 5, 3) := by decide +kernel
theorem dX5_refund_65 : decode cX5_refund 65 = .ok (.iconst 0, 1) := by decide +kernel
theorem dX5_refund_66 : decode cX5_refund 66 = .ok (.ireturn, 1) := by decide +kernel
theorem dX5_refund_67 : decode cX5_refund 67 = .ok (.iload_n 2, 1) := by decide +kernel
theorem dX5_refund_68 : decode cX5_refund 68 = .ok (.aload_n 0, 1) := by decide +kernel
theorem dX5_refund_69 : decode cX5_refund 69 = .ok (.getfield 50, 3) := by decide +kernel
theorem dX5_refund_72 : decode cX5_refund 72 = .ok (.iload_n 1, 1) := by decide +kernel
theorem dX5_refund_73 : decode cX5_refund 73 = .ok (.iaload, 1) := by decide +kernel
theorem dX5_refund_74 : decode cX5_refund 74 = .ok (.imul, 1) := by decide +kernel
theorem dX5_refund_75 : decode cX5_refund 75 = .ok (.sipush 1000, 3) := by decide +kernel
theorem dX5_refund_78 : decode cX5_refund 78 = .ok (.idiv, 1) := by decide +kernel
theorem dX5_refund_79 : decode cX5_refund 79 = .ok (.istore 5, 2) := by decide +kernel
theorem dX5_refund_81 : decode cX5_refund 81 = .ok (.iload_n 3, 1) := by decide +kernel
theorem dX5_refund_82 : decode cX5_refund 82 = .ok (.ifCond .eq 16, 3) := by decide +kernel
theorem dX5_refund_85 : decode cX5_refund 85 = .ok (.iload_n 2, 1) := by decide +kernel
theorem dX5_refund_86 : decode cX5_refund 86 = .ok (.aload_n 0, 1) := by decide +kernel
theorem dX5_refund_87 : decode cX5_refund 87 = .ok (.getfield 47, 3) := by decide +kernel
theorem dX5_refund_90 : decode cX5_refund 90 = .ok (.iload_n 1, 1) := by decide +kernel
theorem dX5_refund_91 : decode cX5_refund 91 = .ok (.faload, 1) := by decide +kernel
theorem dX5_refund_92 : decode cX5_refund 92 = .ok (.invokestatic 108, 3) := by decide +kernel
theorem dX5_refund_95 : decode cX5_refund 95 = .ok (.goto 4, 3) := by decide +kernel
theorem dX5_refund_98 : decode cX5_refund 98 = .ok (.iconst 0, 1) := by decide +kernel
theorem dX5_refund_99 : decode cX5_refund 99 = .ok (.istore 6, 2) := by decide +kernel
theorem dX5_refund_101 : decode cX5_refund 101 = .ok (.aload_n 0, 1) := by decide +kernel
theorem dX5_refund_102 : decode cX5_refund 102 = .ok (.getfield 56, 3) := by decide +kernel
theorem dX5_refund_105 : decode cX5_refund 105 = .ok (.iload_n 1, 1) := by decide +kernel
theorem dX5_refund_106 : decode cX5_refund 106 = .ok (.iaload, 1) := by decide +kernel
theorem dX5_refund_107 : decode cX5_refund 107 = .ok (.iload 6, 2) := by decide +kernel
theorem dX5_refund_109 : decode cX5_refund 109 = .ok (.iadd, 1) := by decide +kernel
theorem dX5_refund_110 : decode cX5_refund 110 = .ok (.aload_n 0, 1) := by decide +kernel
theorem dX5_refund_111 : decode cX5_refund 111 = .ok (.getfield 53, 3) := by decide +kernel
theorem dX5_refund_114 : decode cX5_refund 114 = .ok (.iload_n 1, 1) := by decide +kernel
theorem dX5_refund_115 : decode cX5_refund 115 = .ok (.iaload, 1) := by decide +kernel
theorem dX5_refund_116 : decode cX5_refund 116 = .ok (.if_icmp .le 19, 3) := by decide +kernel
theorem dX5_refund_119 : decode cX5_refund 119 = .ok (.aload_n 0, 1) := by decide +kernel
theorem dX5_refund_120 : decode cX5_refund 120 = .ok (.getfield 53, 3) := by decide +kernel
theorem dX5_refund_123 : decode cX5_refund 123 = .ok (.iload_n 1, 1) := by decide +kernel
theorem dX5_refund_124 : decode cX5_refund 124 = .ok (.iaload, 1) := by decide +kernel
theorem dX5_refund_125 : decode cX5_refund 125 = .ok (.aload_n 0, 1) := by decide +kernel
theorem dX5_refund_126 : decode cX5_refund 126 = .ok (.getfield 56, 3) := by decide +kernel
theorem dX5_refund_129 : decode cX5_refund 129 = .ok (.iload_n 1, 1) := by decide +kernel
theorem dX5_refund_130 : decode cX5_refund 130 = .ok (.iaload, 1) := by decide +kernel
theorem dX5_refund_131 : decode cX5_refund 131 = .ok (.isub, 1) := by decide +kernel
theorem dX5_refund_132 : decode cX5_refund 132 = .ok (.goto 5, 3) := by decide +kernel
theorem dX5_refund_135 : decode cX5_refund 135 = .ok (.iload 6, 2) := by decide +kernel
theorem dX5_refund_137 : decode cX5_refund 137 = .ok (.istore 6, 2) := by decide +kernel
theorem dX5_refund_139 : decode cX5_refund 139 = .ok (.aload_n 0, 1) := by decide +kernel
theorem dX5_refund_140 : decode cX5_refund 140 = .ok (.getfield 44, 3) := by decide +kernel
theorem dX5_refund_143 : decode cX5_refund 143 = .ok (.iload_n 1, 1) := by decide +kernel
theorem dX5_refund_144 : decode cX5_refund 144 = .ok (.dup2, 1) := by decide +kernel
theorem dX5_refund_145 : decode cX5_refund 145 = .ok (.iaload, 1) := by decide +kernel
theorem dX5_refund_146 : decode cX5_refund 146 = .ok (.iload_n 2, 1) := by decide +kernel
theorem dX5_refund_147 : decode cX5_refund 147 = .ok (.iadd, 1) := by decide +kernel
theorem dX5_refund_148 : decode cX5_refund 148 = .ok (.iastore, 1) := by decide +kernel
theorem dX5_refund_149 : decode cX5_refund 149 = .ok (.aload_n 0, 1) := by decide +kernel
theorem dX5_refund_150 : decode cX5_refund 150 = .ok (.getfield 56, 3) := by decide +kernel
theorem dX5_refund_153 : decode cX5_refund 153 = .ok (.iload_n 1, 1) := by decide +kernel
theorem dX5_refund_154 : decode cX5_refund 154 = .ok (.dup2, 1) := by decide +kernel
theorem dX5_refund_155 : decode cX5_refund 155 = .ok (.iaload, 1) := by decide +kernel
theorem dX5_refund_156 : decode cX5_refund 156 = .ok (.iload 6, 2) := by decide +kernel
theorem dX5_refund_158 : decode cX5_refund 158 = .ok (.iadd, 1) := by decide +kernel
theorem dX5_refund_159 : decode cX5_refund 159 = .ok (.iastore, 1) := by decide +kernel
theorem dX5_refund_160 : decode cX5_refund 160 = .ok (.aload_n 0, 1) := by decide +kernel
theorem dX5_refund_161 : decode cX5_refund 161 = .ok (.dup, 1) := by decide +kernel
theorem dX5_refund_162 : decode cX5_refund 162 = .ok (.getfield 137, 3) := by decide +kernel
theorem dX5_refund_165 : decode cX5_refund 165 = .ok (.iload_n 2, 1) := by decide +kernel
theorem dX5_refund_166 : decode cX5_refund 166 = .ok (.iadd, 1) := by decide +kernel
theorem dX5_refund_167 : decode cX5_refund 167 = .ok (.putfield 137, 3) := by decide +kernel
theorem dX5_refund_170 : decode cX5_refund 170 = .ok (.aload_n 0, 1) := by decide +kernel
theorem dX5_refund_171 : decode cX5_refund 171 = .ok (.dup, 1) := by decide +kernel
theorem dX5_refund_172 : decode cX5_refund 172 = .ok (.getfield 126, 3) := by decide +kernel
theorem dX5_refund_175 : decode cX5_refund 175 = .ok (.iload 5, 2) := by decide +kernel
theorem dX5_refund_177 : decode cX5_refund 177 = .ok (.isub, 1) := by decide +kernel
theorem dX5_refund_178 : decode cX5_refund 178 = .ok (.putfield 126, 3) := by decide +kernel
theorem dX5_refund_181 : decode cX5_refund 181 = .ok (.aload_n 0, 1) := by decide +kernel
theorem dX5_refund_182 : decode cX5_refund 182 = .ok (.dup, 1) := by decide +kernel
theorem dX5_refund_183 : decode cX5_refund 183 = .ok (.getfield 123, 3) := by decide +kernel
theorem dX5_refund_186 : decode cX5_refund 186 = .ok (.iload 6, 2) := by decide +kernel
theorem dX5_refund_188 : decode cX5_refund 188 = .ok (.isub, 1) := by decide +kernel
theorem dX5_refund_189 : decode cX5_refund 189 = .ok (.putfield 123, 3) := by decide +kernel
theorem dX5_refund_192 : decode cX5_refund 192 = .ok (.aload_n 0, 1) := by decide +kernel
theorem dX5_refund_193 : decode cX5_refund 193 = .ok (.getfield 28, 3) := by decide +kernel
theorem dX5_refund_196 : decode cX5_refund 196 = .ok (.aload_n 0, 1) := by decide +kernel
theorem dX5_refund_197 : decode cX5_refund 197 = .ok (.getfield 38, 3) := by decide +kernel
theorem dX5_refund_200 : decode cX5_refund 200 = .ok (.iload_n 1, 1) := by decide +kernel
theorem dX5_refund_201 : decode cX5_refund 201 = .ok (.iaload, 1) := by decide +kernel
theorem dX5_refund_202 : decode cX5_refund 202 = .ok (.dup2, 1) := by decide +kernel
theorem dX5_refund_203 : decode cX5_refund 203 = .ok (.iaload, 1) := by decide +kernel
theorem dX5_refund_204 : decode cX5_refund 204 = .ok (.iload 5, 2) := by decide +kernel
theorem dX5_refund_206 : decode cX5_refund 206 = .ok (.iload 6, 2) := by decide +kernel
theorem dX5_refund_208 : decode cX5_refund 208 = .ok (.iadd, 1) := by decide +kernel
theorem dX5_refund_209 : decode cX5_refund 209 = .ok (.iload_n 2, 1) := by decide +kernel
theorem dX5_refund_210 : decode cX5_refund 210 = .ok (.isub, 1) := by decide +kernel
theorem dX5_refund_211 : decode cX5_refund 211 = .ok (.iadd, 1) := by decide +kernel
theorem dX5_refund_212 : decode cX5_refund 212 = .ok (.iastore, 1) := by decide +kernel
theorem dX5_refund_213 : decode cX5_refund 213 = .ok (.aload_n 0, 1) := by decide +kernel
theorem dX5_refund_214 : decode cX5_refund 214 = .ok (.getfield 28, 3) := by decide +kernel
theorem dX5_refund_217 : decode cX5_refund 217 = .ok (.aload_n 0, 1) := by decide +kernel
theorem dX5_refund_218 : decode cX5_refund 218 = .ok (.getfield 38, 3) := by decide +kernel
theorem dX5_refund_221 : decode cX5_refund 221 = .ok (.iload_n 1, 1) := by decide +kernel
theorem dX5_refund_222 : decode cX5_refund 222 = .ok (.iaload, 1) := by decide +kernel
theorem dX5_refund_223 : decode cX5_refund 223 = .ok (.iaload, 1) := by decide +kernel
theorem dX5_refund_224 : decode cX5_refund 224 = .ok (.ireturn, 1) := by decide +kernel
theorem dX5_releases_0 : decode cX5_releases 0 = .ok (.iconst 0, 1) := by decide +kernel
theorem dX5_releases_1 : decode cX5_releases 1 = .ok (.istore_n 1, 1) := by decide +kernel
theorem dX5_releases_2 : decode cX5_releases 2 = .ok (.iload_n 1, 1) := by decide +kernel
theorem dX5_releases_3 : decode cX5_releases 3 = .ok (.aload_n 0, 1) := by decide +kernel
theorem dX5_releases_4 : decode cX5_releases 4 = .ok (.getfield 114, 3) := by decide +kernel
theorem dX5_releases_7 : decode cX5_releases 7 = .ok (.if_icmp .ge 49, 3) := by decide +kernel
theorem dX5_releases_10 : decode cX5_releases 10 = .ok (.aload_n 0, 1) := by decide +kernel
theorem dX5_releases_11 : decode cX5_releases 11 = .ok (.getfield 62, 3) := by decide +kernel
theorem dX5_releases_14 : decode cX5_releases 14 = .ok (.iload_n 1, 1) := by decide +kernel
theorem dX5_releases_15 : decode cX5_releases 15 = .ok (.iaload, 1) := by decide +kernel
theorem dX5_releases_16 : decode cX5_releases 16 = .ok (.aload_n 0, 1) := by decide +kernel
theorem dX5_releases_17 : decode cX5_releases 17 = .ok (.getfield 117, 3) := by decide +kernel
theorem dX5_releases_20 : decode cX5_releases 20 = .ok (.if_icmp .gt 30, 3) := by decide +kernel
theorem dX5_releases_23 : decode cX5_releases 23 = .ok (.aload_n 0, 1) := by decide +kernel
theorem dX5_releases_24 : decode cX5_releases 24 = .ok (.getfield 28, 3) := by decide +kernel
theorem dX5_releases_27 : decode cX5_releases 27 = .ok (.aload_n 0, 1) := by decide +kernel
theorem dX5_releases_28 : decode cX5_releases 28 = .ok (.getfield 38, 3) := by decide +kernel
theorem dX5_releases_31 : decode cX5_releases 31 = .ok (.iload_n 1, 1) := by decide +kernel
theorem dX5_releases_32 : decode cX5_releases 32 = .ok (.iaload, 1) := by decide +kernel
theorem dX5_releases_33 : decode cX5_releases 33 = .ok (.dup2, 1) := by decide +kernel
theorem dX5_releases_34 : decode cX5_releases 34 = .ok (.iaload, 1) := by decide +kernel
theorem dX5_releases_35 : decode cX5_releases 35 = .ok (.aload_n 0, 1) := by decide +kernel
theorem dX5_releases_36 : decode cX5_releases 36 = .ok (.getfield 59, 3) := by decide +kernel
theorem dX5_releases_39 : decode cX5_releases 39 = .ok (.iload_n 1, 1) := by decide +kernel
theorem dX5_releases_40 : decode cX5_releases 40 = .ok (.iaload, 1) := by decide +kernel
theorem dX5_releases_41 : decode cX5_releases 41 = .ok (.iadd, 1) := by decide +kernel
theorem dX5_releases_42 : decode cX5_releases 42 = .ok (.iastore, 1) := by decide +kernel
theorem dX5_releases_43 : decode cX5_releases 43 = .ok (.aload_n 0, 1) := by decide +kernel
theorem dX5_releases_44 : decode cX5_releases 44 = .ok (.getfield 59, 3) := by decide +kernel
theorem dX5_releases_47 : decode cX5_releases 47 = .ok (.iload_n 1, 1) := by decide +kernel
theorem dX5_releases_48 : decode cX5_releases 48 = .ok (.iconst 0, 1) := by decide +kernel
theorem dX5_releases_49 : decode cX5_releases 49 = .ok (.iastore, 1) := by decide +kernel
theorem dX5_releases_50 : decode cX5_releases 50 = .ok (.iinc 1 1, 3) := by decide +kernel
theorem dX5_releases_53 : decode cX5_releases 53 = .ok (.goto (-51), 3) := by decide +kernel
theorem dX5_releases_56 : decode cX5_releases 56 = .ok (.return_, 1) := by decide +kernel
theorem dX5_least_0 : decode cX5_least 0 = .ok (.iload_n 0, 1) := by decide +kernel
theorem dX5_least_1 : decode cX5_least 1 = .ok (.iload_n 1, 1) := by decide +kernel
theorem dX5_least_2 : decode cX5_least 2 = .ok (.if_icmp .ge 7, 3) := by decide +kernel
theorem dX5_least_5 : decode cX5_least 5 = .ok (.iload_n 0, 1) := by decide +kernel
theorem dX5_least_6 : decode cX5_least 6 = .ok (.goto 4, 3) := by decide +kernel
theorem dX5_least_9 : decode cX5_least 9 = .ok (.iload_n 1, 1) := by decide +kernel
theorem dX5_least_10 : decode cX5_least 10 = .ok (.ireturn, 1) := by decide +kernel
set_option maxRecDepth 20000 in
theorem ggX5_coversByReserves_X5_least : GoodIn wsX5_coversByReserves wsX5_least := goodIn_r _ [8] (by decide +kernel) (by decide +kernel)
set_option maxRecDepth 20000 in
theorem gX5_coversByReserves_X5_least : GoodIn wsX5_coversByReserves (va_wsS RX5 140 yX5_least wsX5_least) := goodIn_app (goodIn_of _ (by decide +kernel)) ggX5_coversByReserves_X5_least
theorem dX5_coversByReserves_0 : decode cX5_coversByReserves 0 = .ok (.iconst 0, 1) := by decide +kernel
theorem dX5_coversByReserves_1 : decode cX5_coversByReserves 1 = .ok (.istore_n 2, 1) := by decide +kernel
theorem dX5_coversByReserves_2 : decode cX5_coversByReserves 2 = .ok (.iload_n 2, 1) := by decide +kernel
theorem dX5_coversByReserves_3 : decode cX5_coversByReserves 3 = .ok (.aload_n 0, 1) := by decide +kernel
theorem dX5_coversByReserves_4 : decode cX5_coversByReserves 4 = .ok (.getfield 114, 3) := by decide +kernel
theorem dX5_coversByReserves_7 : decode cX5_coversByReserves 7 = .ok (.if_icmp .ge 69, 3) := by decide +kernel
theorem dX5_coversByReserves_10 : decode cX5_coversByReserves 10 = .ok (.aload_n 0, 1) := by decide +kernel
theorem dX5_coversByReserves_11 : decode cX5_coversByReserves 11 = .ok (.getfield 28, 3) := by decide +kernel
theorem dX5_coversByReserves_14 : decode cX5_coversByReserves 14 = .ok (.iload_n 1, 1) := by decide +kernel
theorem dX5_coversByReserves_15 : decode cX5_coversByReserves 15 = .ok (.iaload, 1) := by decide +kernel
theorem dX5_coversByReserves_16 : decode cX5_coversByReserves 16 = .ok (.ifCond .ge 60, 3) := by decide +kernel
theorem dX5_coversByReserves_19 : decode cX5_coversByReserves 19 = .ok (.aload_n 0, 1) := by decide +kernel
theorem dX5_coversByReserves_20 : decode cX5_coversByReserves 20 = .ok (.getfield 38, 3) := by decide +kernel
theorem dX5_coversByReserves_23 : decode cX5_coversByReserves 23 = .ok (.iload_n 2, 1) := by decide +kernel
theorem dX5_coversByReserves_24 : decode cX5_coversByReserves 24 = .ok (.iaload, 1) := by decide +kernel
theorem dX5_coversByReserves_25 : decode cX5_coversByReserves 25 = .ok (.iload_n 1, 1) := by decide +kernel
theorem dX5_coversByReserves_26 : decode cX5_coversByReserves 26 = .ok (.if_icmp .ne 22, 3) := by decide +kernel
theorem dX5_coversByReserves_29 : decode cX5_coversByReserves 29 = .ok (.aload_n 0, 1) := by decide +kernel
theorem dX5_coversByReserves_30 : decode cX5_coversByReserves 30 = .ok (.getfield 59, 3) := by decide +kernel
theorem dX5_coversByReserves_33 : decode cX5_coversByReserves 33 = .ok (.iload_n 2, 1) := by decide +kernel
theorem dX5_coversByReserves_34 : decode cX5_coversByReserves 34 = .ok (.iaload, 1) := by decide +kernel
theorem dX5_coversByReserves_35 : decode cX5_coversByReserves 35 = .ok (.aload_n 0, 1) := by decide +kernel
theorem dX5_coversByReserves_36 : decode cX5_coversByReserves 36 = .ok (.getfield 28, 3) := by decide +kernel
theorem dX5_coversByReserves_39 : decode cX5_coversByReserves 39 = .ok (.iload_n 1, 1) := by decide +kernel
theorem dX5_coversByReserves_40 : decode cX5_coversByReserves 40 = .ok (.iaload, 1) := by decide +kernel
theorem dX5_coversByReserves_41 : decode cX5_coversByReserves 41 = .ok (.ineg, 1) := by decide +kernel
theorem dX5_coversByReserves_42 : decode cX5_coversByReserves 42 = .ok (.invokestatic 140, 3) := by decide +kernel
theorem dX5_coversByReserves_45 : decode cX5_coversByReserves 45 = .ok (.goto 4, 3) := by decide +kernel
theorem dX5_coversByReserves_48 : decode cX5_coversByReserves 48 = .ok (.iconst 0, 1) := by decide +kernel
theorem dX5_coversByReserves_49 : decode cX5_coversByReserves 49 = .ok (.istore_n 3, 1) := by decide +kernel
theorem dX5_coversByReserves_50 : decode cX5_coversByReserves 50 = .ok (.aload_n 0, 1) := by decide +kernel
theorem dX5_coversByReserves_51 : decode cX5_coversByReserves 51 = .ok (.getfield 59, 3) := by decide +kernel
theorem dX5_coversByReserves_54 : decode cX5_coversByReserves 54 = .ok (.iload_n 2, 1) := by decide +kernel
theorem dX5_coversByReserves_55 : decode cX5_coversByReserves 55 = .ok (.dup2, 1) := by decide +kernel
theorem dX5_coversByReserves_56 : decode cX5_coversByReserves 56 = .ok (.iaload, 1) := by decide +kernel
theorem dX5_coversByReserves_57 : decode cX5_coversByReserves 57 = .ok (.iload_n 3, 1) := by decide +kernel
theorem dX5_coversByReserves_58 : decode cX5_coversByReserves 58 = .ok (.isub, 1) := by decide +kernel
theorem dX5_coversByReserves_59 : decode cX5_coversByReserves 59 = .ok (.iastore, 1) := by decide +kernel
theorem dX5_coversByReserves_60 : decode cX5_coversByReserves 60 = .ok (.aload_n 0, 1) := by decide +kernel
theorem dX5_coversByReserves_61 : decode cX5_coversByReserves 61 = .ok (.getfield 28, 3) := by decide +kernel
theorem dX5_coversByReserves_64 : decode cX5_coversByReserves 64 = .ok (.iload_n 1, 1) := by decide +kernel
theorem dX5_coversByReserves_65 : decode cX5_coversByReserves 65 = .ok (.dup2, 1) := by decide +kernel
theorem dX5_coversByReserves_66 : decode cX5_coversByReserves 66 = .ok (.iaload, 1) := by decide +kernel
theorem dX5_coversByReserves_67 : decode cX5_coversByReserves 67 = .ok (.iload_n 3, 1) := by decide +kernel
theorem dX5_coversByReserves_68 : decode cX5_coversByReserves 68 = .ok (.iadd, 1) := by decide +kernel
theorem dX5_coversByReserves_69 : decode cX5_coversByReserves 69 = .ok (.iastore, 1) := by decide +kernel
theorem dX5_coversByReserves_70 : decode cX5_coversByReserves 70 = .ok (.iinc 2 1, 3) := by decide +kernel
theorem dX5_coversByReserves_73 : decode cX5_coversByReserves 73 = .ok (.goto (-71), 3) := by decide +kernel
theorem dX5_coversByReserves_76 : decode cX5_coversByReserves 76 = .ok (.return_, 1) := by decide +kernel
set_option maxRecDepth 20000 in
theorem ggX5_coversByOthers_X5_least : GoodIn wsX5_coversByOthers wsX5_least := goodIn_r _ [7] (by decide +kernel) (by decide +kernel)
set_option maxRecDepth 20000 in
theorem gX5_coversByOthers_X5_least : GoodIn wsX5_coversByOthers (va_wsS RX5 140 yX5_least wsX5_least) := goodIn_app (goodIn_of _ (by decide +kernel)) ggX5_coversByOthers_X5_least
theorem dX5_coversByOthers_0 : decode cX5_coversByOthers 0 = .ok (.iconst 0, 1) := by decide +kernel
theorem dX5_coversByOthers_1 : decode cX5_coversByOthers 1 = .ok (.istore_n 2, 1) := by decide +kernel
theorem dX5_coversByOthers_2 : decode cX5_coversByOthers 2 = .ok (.iload_n 2, 1) := by decide +kernel
theorem dX5_coversByOthers_3 : decode cX5_coversByOthers 3 = .ok (.aload_n 0, 1) := by decide +kernel
theorem dX5_coversByOthers_4 : decode cX5_coversByOthers 4 = .ok (.getfield 80, 3) := by decide +kernel
theorem dX5_coversByOthers_7 : decode cX5_coversByOthers 7 = .ok (.if_icmp .ge 101, 3) := by decide +kernel
theorem dX5_coversByOthers_10 : decode cX5_coversByOthers 10 = .ok (.aload_n 0, 1) := by decide +kernel
theorem dX5_coversByOthers_11 : decode cX5_coversByOthers 11 = .ok (.getfield 28, 3) := by decide +kernel
theorem dX5_coversByOthers_14 : decode cX5_coversByOthers 14 = .ok (.iload_n 1, 1) := by decide +kernel
theorem dX5_coversByOthers_15 : decode cX5_coversByOthers 15 = .ok (.iaload, 1) := by decide +kernel
theorem dX5_coversByOthers_16 : decode cX5_coversByOthers 16 = .ok (.ifCond .ge 92, 3) := by decide +kernel
theorem dX5_coversByOthers_19 : decode cX5_coversByOthers 19 = .ok (.iload_n 2, 1) := by decide +kernel
theorem dX5_coversByOthers_20 : decode cX5_coversByOthers 20 = .ok (.iload_n 1, 1) := by decide +kernel
theorem dX5_coversByOthers_21 : decode cX5_coversByOthers 21 = .ok (.if_icmp .eq 31, 3) := by decide +kernel
theorem dX5_coversByOthers_24 : decode cX5_coversByOthers 24 = .ok (.aload_n 0, 1) := by decide +kernel
theorem dX5_coversByOthers_25 : decode cX5_coversByOthers 25 = .ok (.getfield 7, 3) := by decide +kernel
theorem dX5_coversByOthers_28 : decode cX5_coversByOthers 28 = .ok (.iload_n 2, 1) := by decide +kernel
theorem dX5_coversByOthers_29 : decode cX5_coversByOthers 29 = .ok (.iaload, 1) := by decide +kernel
theorem dX5_coversByOthers_30 : decode cX5_coversByOthers 30 = .ok (.aload_n 0, 1) := by decide +kernel
theorem dX5_coversByOthers_31 : decode cX5_coversByOthers 31 = .ok (.getfield 7, 3) := by decide +kernel
theorem dX5_coversByOthers_34 : decode cX5_coversByOthers 34 = .ok (.iload_n 1, 1) := by decide +kernel
theorem dX5_coversByOthers_35 : decode cX5_coversByOthers 35 = .ok (.iaload, 1) := by decide +kernel
theorem dX5_coversByOthers_36 : decode cX5_coversByOthers 36 = .ok (.if_icmp .ne 16, 3) := by decide +kernel
theorem dX5_coversByOthers_39 : decode cX5_coversByOthers 39 = .ok (.aload_n 0, 1) := by decide +kernel
theorem dX5_coversByOthers_40 : decode cX5_coversByOthers 40 = .ok (.getfield 28, 3) := by decide +kernel
theorem dX5_coversByOthers_43 : decode cX5_coversByOthers 43 = .ok (.iload_n 2, 1) := by decide +kernel
theorem dX5_coversByOthers_44 : decode cX5_coversByOthers 44 = .ok (.iaload, 1) := by decide +kernel
theorem dX5_coversByOthers_45 : decode cX5_coversByOthers 45 = .ok (.ifCond .le 7, 3) := by decide +kernel
theorem dX5_coversByOthers_48 : decode cX5_coversByOthers 48 = .ok (.iconst 1, 1) := by decide +kernel
theorem dX5_coversByOthers_49 : decode cX5_coversByOthers 49 = .ok (.goto 4, 3) := by decide +kernel
theorem dX5_coversByOthers_52 : decode cX5_coversByOthers 52 = .ok (.iconst 0, 1) := by decide +kernel
theorem dX5_coversByOthers_53 : decode cX5_coversByOthers 53 = .ok (.istore_n 3, 1) := by decide +kernel
theorem dX5_coversByOthers_54 : decode cX5_coversByOthers 54 = .ok (.iload_n 3, 1) := by decide +kernel
theorem dX5_coversByOthers_55 : decode cX5_coversByOthers 55 = .ok (.ifCond .eq 22, 3) := by decide +kernel
theorem dX5_coversByOthers_58 : decode cX5_coversByOthers 58 = .ok (.aload_n 0, 1) := by decide +kernel
theorem dX5_coversByOthers_59 : decode cX5_coversByOthers 59 = .ok (.getfield 28, 3) := by decide +kernel
theorem dX5_coversByOthers_62 : decode cX5_coversByOthers 62 = .ok (.iload_n 2, 1) := by decide +kernel
theorem dX5_coversByOthers_63 : decode cX5_coversByOthers 63 = .ok (.iaload, 1) := by decide +kernel
theorem dX5_coversByOthers_64 : decode cX5_coversByOthers 64 = .ok (.aload_n 0, 1) := by decide +kernel
theorem dX5_coversByOthers_65 : decode cX5_coversByOthers 65 = .ok (.getfield 28, 3) := by decide +kernel
theorem dX5_coversByOthers_68 : decode cX5_coversByOthers 68 = .ok (.iload_n 1, 1) := by decide +kernel
theorem dX5_coversByOthers_69 : decode cX5_coversByOthers 69 = .ok (.iaload, 1) := by decide +kernel
theorem dX5_coversByOthers_70 : decode cX5_coversByOthers 70 = .ok (.ineg, 1) := by decide +kernel
theorem dX5_coversByOthers_71 : decode cX5_coversByOthers 71 = .ok (.invokestatic 140, 3) := by decide +kernel
theorem dX5_coversByOthers_74 : decode cX5_coversByOthers 74 = .ok (.goto 4, 3) := by decide +kernel
theorem dX5_coversByOthers_77 : decode cX5_coversByOthers 77 = .ok (.iconst 0, 1) := by decide +kernel
theorem dX5_coversByOthers_78 : decode cX5_coversByOthers 78 = .ok (.istore 4, 2) := by decide +kernel
theorem dX5_coversByOthers_80 : decode cX5_coversByOthers 80 = .ok (.aload_n 0, 1) := by decide +kernel
theorem dX5_coversByOthers_81 : decode cX5_coversByOthers 81 = .ok (.getfield 28, 3) := by decide +kernel
theorem dX5_coversByOthers_84 : decode cX5_coversByOthers 84 = .ok (.iload_n 2, 1) := by decide +kernel
theorem dX5_coversByOthers_85 : decode cX5_coversByOthers 85 = .ok (.dup2, 1) := by decide +kernel
theorem dX5_coversByOthers_86 : decode cX5_coversByOthers 86 = .ok (.iaload, 1) := by decide +kernel
theorem dX5_coversByOthers_87 : decode cX5_coversByOthers 87 = .ok (.iload 4, 2) := by decide +kernel
theorem dX5_coversByOthers_89 : decode cX5_coversByOthers 89 = .ok (.isub, 1) := by decide +kernel
theorem dX5_coversByOthers_90 : decode cX5_coversByOthers 90 = .ok (.iastore, 1) := by decide +kernel
theorem dX5_coversByOthers_91 : decode cX5_coversByOthers 91 = .ok (.aload_n 0, 1) := by decide +kernel
theorem dX5_coversByOthers_92 : decode cX5_coversByOthers 92 = .ok (.getfield 28, 3) := by decide +kernel
theorem dX5_coversByOthers_95 : decode cX5_coversByOthers 95 = .ok (.iload_n 1, 1) := by decide +kernel
theorem dX5_coversByOthers_96 : decode cX5_coversByOthers 96 = .ok (.dup2, 1) := by decide +kernel
theorem dX5_coversByOthers_97 : decode cX5_coversByOthers 97 = .ok (.iaload, 1) := by decide +kernel
theorem dX5_coversByOthers_98 : decode cX5_coversByOthers 98 = .ok (.iload 4, 2) := by decide +kernel
theorem dX5_coversByOthers_100 : decode cX5_coversByOthers 100 = .ok (.iadd, 1) := by decide +kernel
theorem dX5_coversByOthers_101 : decode cX5_coversByOthers 101 = .ok (.iastore, 1) := by decide +kernel
theorem dX5_coversByOthers_102 : decode cX5_coversByOthers 102 = .ok (.iinc 2 1, 3) := by decide +kernel
theorem dX5_coversByOthers_105 : decode cX5_coversByOthers 105 = .ok (.goto (-103), 3) := by decide +kernel
theorem dX5_coversByOthers_108 : decode cX5_coversByOthers 108 = .ok (.return_, 1) := by decide +kernel
set_option maxRecDepth 20000 in
theorem ggX5_pays_X5_least : GoodIn wsX5_pays wsX5_least := goodIn_r _ [12] (by decide +kernel) (by decide +kernel)
set_option maxRecDepth 20000 in
theorem gX5_pays_X5_least : GoodIn wsX5_pays (va_wsS RX5 140 yX5_least wsX5_least) := goodIn_app (goodIn_of _ (by decide +kernel)) ggX5_pays_X5_least
theorem dX5_pays_0 : decode cX5_pays 0 = .ok (.aload_n 0, 1) := by decide +kernel
theorem dX5_pays_1 : decode cX5_pays 1 = .ok (.getfield 28, 3) := by decide +kernel
theorem dX5_pays_4 : decode cX5_pays 4 = .ok (.iload_n 1, 1) := by decide +kernel
theorem dX5_pays_5 : decode cX5_pays 5 = .ok (.iaload, 1) := by decide +kernel
theorem dX5_pays_6 : decode cX5_pays 6 = .ok (.aload_n 0, 1) := by decide +kernel
theorem dX5_pays_7 : decode cX5_pays 7 = .ok (.getfield 19, 3) := by decide +kernel
theorem dX5_pays_10 : decode cX5_pays 10 = .ok (.iload_n 1, 1) := by decide +kernel
theorem dX5_pays_11 : decode cX5_pays 11 = .ok (.iaload, 1) := by decide +kernel
theorem dX5_pays_12 : decode cX5_pays 12 = .ok (.if_icmp .lt 12, 3) := by decide +kernel
theorem dX5_pays_15 : decode cX5_pays 15 = .ok (.aload_n 0, 1) := by decide +kernel
theorem dX5_pays_16 : decode cX5_pays 16 = .ok (.getfield 28, 3) := by decide +kernel
theorem dX5_pays_19 : decode cX5_pays 19 = .ok (.iload_n 1, 1) := by decide +kernel
theorem dX5_pays_20 : decode cX5_pays 20 = .ok (.iaload, 1) := by decide +kernel
theorem dX5_pays_21 : decode cX5_pays 21 = .ok (.goto 4, 3) := by decide +kernel
theorem dX5_pays_24 : decode cX5_pays 24 = .ok (.iconst 0, 1) := by decide +kernel
theorem dX5_pays_25 : decode cX5_pays 25 = .ok (.istore_n 2, 1) := by decide +kernel
theorem dX5_pays_26 : decode cX5_pays 26 = .ok (.aload_n 0, 1) := by decide +kernel
theorem dX5_pays_27 : decode cX5_pays 27 = .ok (.getfield 13, 3) := by decide +kernel
theorem dX5_pays_30 : decode cX5_pays 30 = .ok (.iload_n 1, 1) := by decide +kernel
theorem dX5_pays_31 : decode cX5_pays 31 = .ok (.iaload, 1) := by decide +kernel
theorem dX5_pays_32 : decode cX5_pays 32 = .ok (.ifCond .ne 7, 3) := by decide +kernel
theorem dX5_pays_35 : decode cX5_pays 35 = .ok (.iconst 0, 1) := by decide +kernel
theorem dX5_pays_36 : decode cX5_pays 36 = .ok (.goto 30, 3) := by decide +kernel
theorem dX5_pays_39 : decode cX5_pays 39 = .ok (.aload_n 0, 1) := by decide +kernel
theorem dX5_pays_40 : decode cX5_pays 40 = .ok (.getfield 13, 3) := by decide +kernel
theorem dX5_pays_43 : decode cX5_pays 43 = .ok (.iload_n 1, 1) := by decide +kernel
theorem dX5_pays_44 : decode cX5_pays 44 = .ok (.iaload, 1) := by decide +kernel
theorem dX5_pays_45 : decode cX5_pays 45 = .ok (.iconst 1, 1) := by decide +kernel
theorem dX5_pays_46 : decode cX5_pays 46 = .ok (.if_icmp .ne 19, 3) := by decide +kernel
theorem dX5_pays_49 : decode cX5_pays 49 = .ok (.iload_n 2, 1) := by decide +kernel
theorem dX5_pays_50 : decode cX5_pays 50 = .ok (.ldc 144, 2) := by decide +kernel
theorem dX5_pays_52 : decode cX5_pays 52 = .ok (.aload_n 0, 1) := by decide +kernel
theorem dX5_pays_53 : decode cX5_pays 53 = .ok (.getfield 31, 3) := by decide +kernel
theorem dX5_pays_56 : decode cX5_pays 56 = .ok (.iload_n 1, 1) := by decide +kernel
theorem dX5_pays_57 : decode cX5_pays 57 = .ok (.iaload, 1) := by decide +kernel
theorem dX5_pays_58 : decode cX5_pays 58 = .ok (.isub, 1) := by decide +kernel
theorem dX5_pays_59 : decode cX5_pays 59 = .ok (.invokestatic 140, 3) := by decide +kernel
theorem dX5_pays_62 : decode cX5_pays 62 = .ok (.goto 4, 3) := by decide +kernel
theorem dX5_pays_65 : decode cX5_pays 65 = .ok (.iload_n 2, 1) := by decide +kernel
theorem dX5_pays_66 : decode cX5_pays 66 = .ok (.istore_n 2, 1) := by decide +kernel
theorem dX5_pays_67 : decode cX5_pays 67 = .ok (.iload_n 2, 1) := by decide +kernel
theorem dX5_pays_68 : decode cX5_pays 68 = .ok (.ifCond .le 53, 3) := by decide +kernel
theorem dX5_pays_71 : decode cX5_pays 71 = .ok (.aload_n 0, 1) := by decide +kernel
theorem dX5_pays_72 : decode cX5_pays 72 = .ok (.getfield 28, 3) := by decide +kernel
theorem dX5_pays_75 : decode cX5_pays 75 = .ok (.iload_n 1, 1) := by decide +kernel
theorem dX5_pays_76 : decode cX5_pays 76 = .ok (.dup2, 1) := by decide +kernel
theorem dX5_pays_77 : decode cX5_pays 77 = .ok (.iaload, 1) := by decide +kernel
theorem dX5_pays_78 : decode cX5_pays 78 = .ok (.iload_n 2, 1) := by decide +kernel
theorem dX5_pays_79 : decode cX5_pays 79 = .ok (.isub, 1) := by decide +kernel
theorem dX5_pays_80 : decode cX5_pays 80 = .ok (.iastore, 1) := by decide +kernel
theorem dX5_pays_81 : decode cX5_pays 81 = .ok (.aload_n 0, 1) := by decide +kernel
theorem dX5_pays_82 : decode cX5_pays 82 = .ok (.getfield 31, 3) := by decide +kernel
theorem dX5_pays_85 : decode cX5_pays 85 = .ok (.iload_n 1, 1) := by decide +kernel
theorem dX5_pays_86 : decode cX5_pays 86 = .ok (.dup2, 1) := by decide +kernel
theorem dX5_pays_87 : decode cX5_pays 87 = .ok (.iaload, 1) := by decide +kernel
theorem dX5_pays_88 : decode cX5_pays 88 = .ok (.iload_n 2, 1) := by decide +kernel
theorem dX5_pays_89 : decode cX5_pays 89 = .ok (.iadd, 1) := by decide +kernel
theorem dX5_pays_90 : decode cX5_pays 90 = .ok (.iastore, 1) := by decide +kernel
theorem dX5_pays_91 : decode cX5_pays 91 = .ok (.aload_n 0, 1) := by decide +kernel
theorem dX5_pays_92 : decode cX5_pays 92 = .ok (.getfield 65, 3) := by decide +kernel
theorem dX5_pays_95 : decode cX5_pays 95 = .ok (.aload_n 0, 1) := by decide +kernel
theorem dX5_pays_96 : decode cX5_pays 96 = .ok (.getfield 145, 3) := by decide +kernel
theorem dX5_pays_99 : decode cX5_pays 99 = .ok (.iload_n 2, 1) := by decide +kernel
theorem dX5_pays_100 : decode cX5_pays 100 = .ok (.iastore, 1) := by decide +kernel
theorem dX5_pays_101 : decode cX5_pays 101 = .ok (.aload_n 0, 1) := by decide +kernel
theorem dX5_pays_102 : decode cX5_pays 102 = .ok (.getfield 68, 3) := by decide +kernel
theorem dX5_pays_105 : decode cX5_pays 105 = .ok (.aload_n 0, 1) := by decide +kernel
theorem dX5_pays_106 : decode cX5_pays 106 = .ok (.getfield 145, 3) := by decide +kernel
theorem dX5_pays_109 : decode cX5_pays 109 = .ok (.iload_n 1, 1) := by decide +kernel
theorem dX5_pays_110 : decode cX5_pays 110 = .ok (.iastore, 1) := by decide +kernel
theorem dX5_pays_111 : decode cX5_pays 111 = .ok (.aload_n 0, 1) := by decide +kernel
theorem dX5_pays_112 : decode cX5_pays 112 = .ok (.dup, 1) := by decide +kernel
theorem dX5_pays_113 : decode cX5_pays 113 = .ok (.getfield 145, 3) := by decide +kernel
theorem dX5_pays_116 : decode cX5_pays 116 = .ok (.iconst 1, 1) := by decide +kernel
theorem dX5_pays_117 : decode cX5_pays 117 = .ok (.iadd, 1) := by decide +kernel
theorem dX5_pays_118 : decode cX5_pays 118 = .ok (.putfield 145, 3) := by decide +kernel
theorem dX5_pays_121 : decode cX5_pays 121 = .ok (.return_, 1) := by decide +kernel
set_option maxRecDepth 20000 in
theorem ggX5_ends_X5_releases : GoodIn wsX5_ends wsX5_releases := goodIn_r _ [8, 9, 10, 3, 11, 12, 13, 37, 38, 39, 40, 41, 42, 43, 44, 45, 46, 47, 48, 49, 50, 51, 52, 53, 54, 55, 56, 57, 58, 59, 60, 61, 62, 63, 64, 65, 66, 67] (by decide +kernel) (by decide +kernel)
set_option maxRecDepth 20000 in
theorem gX5_ends_X5_releases : GoodIn wsX5_ends (wsV RX5 148 RX5 yX5_releases wsX5_releases) := goodIn_app (goodIn_of _ (by decide +kernel)) ggX5_ends_X5_releases
set_option maxRecDepth 20000 in
theorem ggX5_ends_X5_coversByReserves : GoodIn wsX5_ends wsX5_coversByReserves := goodIn_r _ [17, 9, 11, 12, 13, 18, 19, 7, 20, 37, 38, 39, 40, 41, 42, 43, 44, 45, 46, 47, 48, 49, 50, 51, 52, 53, 54, 55, 56, 57, 58, 59, 60, 61, 62, 63, 64, 65, 66, 67] (by decide +kernel) (by decide +kernel)
set_option maxRecDepth 20000 in
theorem gX5_ends_X5_coversByReserves : GoodIn wsX5_ends (wsV RX5 151 RX5 yX5_coversByReserves wsX5_coversByReserves) := goodIn_app (goodIn_of _ (by decide +kernel)) ggX5_ends_X5_coversByReserves
set_option maxRecDepth 20000 in
theorem ggX5_ends_X5_coversByOthers : GoodIn wsX5_ends wsX5_coversByOthers := goodIn_r _ [24, 1, 11, 25, 18, 19, 7, 20, 37, 38, 39, 40, 41, 42, 43, 44, 45, 46, 47, 48, 49, 50, 51, 52, 53, 54, 55, 56, 57, 58, 59, 60, 61, 62, 63, 64, 65, 66, 67] (by decide +kernel) (by decide +kernel)
set_option maxRecDepth 20000 in
theorem gX5_ends_X5_coversByOthers : GoodIn wsX5_ends (wsV RX5 155 RX5 yX5_coversByOthers wsX5_coversByOthers) := goodIn_app (goodIn_of _ (by decide +kernel)) ggX5_ends_X5_coversByOthers
set_option maxRecDepth 20000 in
theorem ggX5_ends_X5_pays : GoodIn wsX5_ends wsX5_pays := goodIn_r _ [29, 11, 30, 31, 32, 33, 34, 35, 36, 18, 19, 7, 20, 37, 38, 39, 40, 41, 42, 43, 44, 45, 46, 47, 48, 49, 50, 51, 52, 53, 54, 55, 56, 57, 58, 59, 60, 61, 62, 63, 64, 65, 66, 67] (by decide +kernel) (by decide +kernel)
set_option maxRecDepth 20000 in
theorem gX5_ends_X5_pays : GoodIn wsX5_ends (wsV RX5 158 RX5 yX5_pays wsX5_pays) := goodIn_app (goodIn_of _ (by decide +kernel)) ggX5_ends_X5_pays
theorem dX5_ends_0 : decode cX5_ends 0 = .ok (.aload_n 0, 1) := by decide +kernel
theorem dX5_ends_1 : decode cX5_ends 1 = .ok (.invokevirtual 148, 3) := by decide +kernel
theorem dX5_ends_4 : decode cX5_ends 4 = .ok (.iconst 0, 1) := by decide +kernel
theorem dX5_ends_5 : decode cX5_ends 5 = .ok (.istore_n 1, 1) := by decide +kernel
theorem dX5_ends_6 : decode cX5_ends 6 = .ok (.iload_n 1, 1) := by decide +kernel
theorem dX5_ends_7 : decode cX5_ends 7 = .ok (.aload_n 0, 1) := by decide +kernel
theorem dX5_ends_8 : decode cX5_ends 8 = .ok (.getfield 80, 3) := by decide +kernel
theorem dX5_ends_11 : decode cX5_ends 11 = .ok (.if_icmp .ge 14, 3) := by decide +kernel
theorem dX5_ends_14 : decode cX5_ends 14 = .ok (.aload_n 0, 1) := by decide +kernel
theorem dX5_ends_15 : decode cX5_ends 15 = .ok (.iload_n 1, 1) := by decide +kernel
theorem dX5_ends_16 : decode cX5_ends 16 = .ok (.invokevirtual 151, 3) := by decide +kernel
theorem dX5_ends_19 : decode cX5_ends 19 = .ok (.iinc 1 1, 3) := by decide +kernel
theorem dX5_ends_22 : decode cX5_ends 22 = .ok (.goto (-16), 3) := by decide +kernel
theorem dX5_ends_25 : decode cX5_ends 25 = .ok (.iconst 0, 1) := by decide +kernel
theorem dX5_ends_26 : decode cX5_ends 26 = .ok (.istore_n 1, 1) := by decide +kernel
theorem dX5_ends_27 : decode cX5_ends 27 = .ok (.iload_n 1, 1) := by decide +kernel
theorem dX5_ends_28 : decode cX5_ends 28 = .ok (.aload_n 0, 1) := by decide +kernel
theorem dX5_ends_29 : decode cX5_ends 29 = .ok (.getfield 80, 3) := by decide +kernel
theorem dX5_ends_32 : decode cX5_ends 32 = .ok (.if_icmp .ge 14, 3) := by decide +kernel
theorem dX5_ends_35 : decode cX5_ends 35 = .ok (.aload_n 0, 1) := by decide +kernel
theorem dX5_ends_36 : decode cX5_ends 36 = .ok (.iload_n 1, 1) := by decide +kernel
theorem dX5_ends_37 : decode cX5_ends 37 = .ok (.invokevirtual 155, 3) := by decide +kernel
theorem dX5_ends_40 : decode cX5_ends 40 = .ok (.iinc 1 1, 3) := by decide +kernel
theorem dX5_ends_43 : decode cX5_ends 43 = .ok (.goto (-16), 3) := by decide +kernel
theorem dX5_ends_46 : decode cX5_ends 46 = .ok (.iconst 0, 1) := by decide +kernel
theorem dX5_ends_47 : decode cX5_ends 47 = .ok (.istore_n 1, 1) := by decide +kernel
theorem dX5_ends_48 : decode cX5_ends 48 = .ok (.iload_n 1, 1) := by decide +kernel
theorem dX5_ends_49 : decode cX5_ends 49 = .ok (.aload_n 0, 1) := by decide +kernel
theorem dX5_ends_50 : decode cX5_ends 50 = .ok (.getfield 80, 3) := by decide +kernel
theorem dX5_ends_53 : decode cX5_ends 53 = .ok (.if_icmp .ge 30, 3) := by decide +kernel
theorem dX5_ends_56 : decode cX5_ends 56 = .ok (.aload_n 0, 1) := by decide +kernel
theorem dX5_ends_57 : decode cX5_ends 57 = .ok (.getfield 16, 3) := by decide +kernel
theorem dX5_ends_60 : decode cX5_ends 60 = .ok (.iload_n 1, 1) := by decide +kernel
theorem dX5_ends_61 : decode cX5_ends 61 = .ok (.iaload, 1) := by decide +kernel
theorem dX5_ends_62 : decode cX5_ends 62 = .ok (.aload_n 0, 1) := by decide +kernel
theorem dX5_ends_63 : decode cX5_ends 63 = .ok (.getfield 117, 3) := by decide +kernel
theorem dX5_ends_66 : decode cX5_ends 66 = .ok (.bipush 7, 2) := by decide +kernel
theorem dX5_ends_68 : decode cX5_ends 68 = .ok (.irem, 1) := by decide +kernel
theorem dX5_ends_69 : decode cX5_ends 69 = .ok (.if_icmp .ne 8, 3) := by decide +kernel
theorem dX5_ends_72 : decode cX5_ends 72 = .ok (.aload_n 0, 1) := by decide +kernel
theorem dX5_ends_73 : decode cX5_ends 73 = .ok (.iload_n 1, 1) := by decide +kernel
theorem dX5_ends_74 : decode cX5_ends 74 = .ok (.invokevirtual 158, 3) := by decide +kernel
theorem dX5_ends_77 : decode cX5_ends 77 = .ok (.iinc 1 1, 3) := by decide +kernel
theorem dX5_ends_80 : decode cX5_ends 80 = .ok (.goto (-32), 3) := by decide +kernel
theorem dX5_ends_83 : decode cX5_ends 83 = .ok (.aload_n 0, 1) := by decide +kernel
theorem dX5_ends_84 : decode cX5_ends 84 = .ok (.dup, 1) := by decide +kernel
theorem dX5_ends_85 : decode cX5_ends 85 = .ok (.getfield 117, 3) := by decide +kernel
theorem dX5_ends_88 : decode cX5_ends 88 = .ok (.iconst 1, 1) := by decide +kernel
theorem dX5_ends_89 : decode cX5_ends 89 = .ok (.iadd, 1) := by decide +kernel
theorem dX5_ends_90 : decode cX5_ends 90 = .ok (.putfield 117, 3) := by decide +kernel
theorem dX5_ends_93 : decode cX5_ends 93 = .ok (.return_, 1) := by decide +kernel
set_option maxRecDepth 20000 in
theorem ggX5_pass_X5_in : GoodIn wsX5_pass wsX5_in := goodIn_r _ [6] (by decide +kernel) (by decide +kernel)
set_option maxRecDepth 20000 in
theorem gX5_pass_X5_in : GoodIn wsX5_pass (va_wsS RX5 83 yX5_in wsX5_in) := goodIn_app (goodIn_of _ (by decide +kernel)) ggX5_pass_X5_in
set_option maxRecDepth 20000 in
theorem ggX5_pass_X5_holds : GoodIn wsX5_pass wsX5_holds := goodIn_r _ [10, 11, 49, 50, 51, 52, 53, 54, 55, 56, 57, 58, 59, 60, 61, 62, 63, 64, 65, 66, 67, 68, 69, 70, 71, 72, 73, 74, 75, 76, 77, 78, 79] (by decide +kernel) (by decide +kernel)
set_option maxRecDepth 20000 in
theorem gX5_pass_X5_holds : GoodIn wsX5_pass (wsV RX5 87 RX5 yX5_holds wsX5_holds) := goodIn_app (goodIn_of _ (by decide +kernel)) ggX5_pass_X5_holds
set_option maxRecDepth 20000 in
theorem ggX5_pass_X5_ends : GoodIn wsX5_pass wsX5_ends := goodIn_r _ [15, 16, 17, 1, 18, 19, 20, 5, 21, 22, 23, 24, 25, 26, 27, 28, 29, 30, 31, 32, 33, 34, 35, 36, 37, 38, 39, 40, 41, 42, 43, 44, 45, 46, 47, 2, 48, 49, 50, 51, 52, 53, 54, 55, 56, 57, 58, 59, 60, 61, 62, 63, 64, 65, 66, 67, 68, 69, 70, 71, 72, 73, 74, 75, 76, 77, 78, 79] (by decide +kernel) (by decide +kernel)
set_option maxRecDepth 20000 in
theorem gX5_pass_X5_ends : GoodIn wsX5_pass (wsV RX5 161 RX5 yX5_ends wsX5_ends) := goodIn_app (goodIn_of _ (by decide +kernel)) ggX5_pass_X5_ends
theorem dX5_pass_0 : decode cX5_pass 0 = .ok (.aload_n 0, 1) := by decide +kernel
theorem dX5_pass_1 : decode cX5_pass 1 = .ok (.iload_n 1, 1) := by decide +kernel
theorem dX5_pass_2 : decode cX5_pass 2 = .ok (.iconst 1, 1) := by decide +kernel
theorem dX5_pass_3 : decode cX5_pass 3 = .ok (.bipush 100, 2) := by decide +kernel
theorem dX5_pass_5 : decode cX5_pass 5 = .ok (.invokestatic 83, 3) := by decide +kernel
theorem dX5_pass_8 : decode cX5_pass 8 = .ok (.ifCond .ne 7, 3) := by decide +kernel
theorem dX5_pass_11 : decode cX5_pass 11 = .ok (.iconst 1, 1) := by decide +kernel
theorem dX5_pass_12 : decode cX5_pass 12 = .ok (.goto 20, 3) := by decide +kernel
theorem dX5_pass_15 : decode cX5_pass 15 = .ok (.aload_n 0, 1) := by decide +kernel
theorem dX5_pass_16 : decode cX5_pass 16 = .ok (.getfield 117, 3) := by decide +kernel
theorem dX5_pass_19 : decode cX5_pass 19 = .ok (.iload_n 1, 1) := by decide +kernel
theorem dX5_pass_20 : decode cX5_pass 20 = .ok (.iadd, 1) := by decide +kernel
theorem dX5_pass_21 : decode cX5_pass 21 = .ok (.sipush 5000, 3) := by decide +kernel
theorem dX5_pass_24 : decode cX5_pass 24 = .ok (.if_icmp .le 7, 3) := by decide +kernel
theorem dX5_pass_27 : decode cX5_pass 27 = .ok (.iconst 2, 1) := by decide +kernel
theorem dX5_pass_28 : decode cX5_pass 28 = .ok (.goto 4, 3) := by decide +kernel
theorem dX5_pass_31 : decode cX5_pass 31 = .ok (.iconst 0, 1) := by decide +kernel
theorem dX5_pass_32 : decode cX5_pass 32 = .ok (.invokevirtual 87, 3) := by decide +kernel
theorem dX5_pass_35 : decode cX5_pass 35 = .ok (.ifCond .ne 5, 3) := by decide +kernel
theorem dX5_pass_38 : decode cX5_pass 38 = .ok (.iconst 0, 1) := by decide +kernel
theorem dX5_pass_39 : decode cX5_pass 39 = .ok (.ireturn, 1) := by decide +kernel
theorem dX5_pass_40 : decode cX5_pass 40 = .ok (.aload_n 0, 1) := by decide +kernel
theorem dX5_pass_41 : decode cX5_pass 41 = .ok (.getfield 145, 3) := by decide +kernel
theorem dX5_pass_44 : decode cX5_pass 44 = .ok (.istore_n 2, 1) := by decide +kernel
theorem dX5_pass_45 : decode cX5_pass 45 = .ok (.iconst 0, 1) := by decide +kernel
theorem dX5_pass_46 : decode cX5_pass 46 = .ok (.istore_n 3, 1) := by decide +kernel
theorem dX5_pass_47 : decode cX5_pass 47 = .ok (.iload_n 3, 1) := by decide +kernel
theorem dX5_pass_48 : decode cX5_pass 48 = .ok (.iload_n 1, 1) := by decide +kernel
theorem dX5_pass_49 : decode cX5_pass 49 = .ok (.if_icmp .ge 13, 3) := by decide +kernel
theorem dX5_pass_52 : decode cX5_pass 52 = .ok (.aload_n 0, 1) := by decide +kernel
theorem dX5_pass_53 : decode cX5_pass 53 = .ok (.invokevirtual 161, 3) := by decide +kernel
theorem dX5_pass_56 : decode cX5_pass 56 = .ok (.iinc 3 1, 3) := by decide +kernel
theorem dX5_pass_59 : decode cX5_pass 59 = .ok (.goto (-12), 3) := by decide +kernel
theorem dX5_pass_62 : decode cX5_pass 62 = .ok (.aload_n 0, 1) := by decide +kernel
theorem dX5_pass_63 : decode cX5_pass 63 = .ok (.getfield 145, 3) := by decide +kernel
theorem dX5_pass_66 : decode cX5_pass 66 = .ok (.iload_n 2, 1) := by decide +kernel
theorem dX5_pass_67 : decode cX5_pass 67 = .ok (.isub, 1) := by decide +kernel
theorem dX5_pass_68 : decode cX5_pass 68 = .ok (.ireturn, 1) := by decide +kernel
set_option maxRecDepth 20000 in
theorem ggX5_isPayout_X5_in : GoodIn wsX5_isPayout wsX5_in := goodIn_r _ [5] (by decide +kernel) (by decide +kernel)
set_option maxRecDepth 20000 in
theorem gX5_isPayout_X5_in : GoodIn wsX5_isPayout (va_wsS RX5 83 yX5_in wsX5_in) := goodIn_app (goodIn_of _ (by decide +kernel)) ggX5_isPayout_X5_in
theorem dX5_isPayout_0 : decode cX5_isPayout 0 = .ok (.iload_n 1, 1) := by decide +kernel
theorem dX5_isPayout_1 : decode cX5_isPayout 1 = .ok (.iconst 0, 1) := by decide +kernel
theorem dX5_isPayout_2 : decode cX5_isPayout 2 = .ok (.aload_n 0, 1) := by decide +kernel
theorem dX5_isPayout_3 : decode cX5_isPayout 3 = .ok (.getfield 145, 3) := by decide +kernel
theorem dX5_isPayout_6 : decode cX5_isPayout 6 = .ok (.iconst 1, 1) := by decide +kernel
theorem dX5_isPayout_7 : decode cX5_isPayout 7 = .ok (.isub, 1) := by decide +kernel
theorem dX5_isPayout_8 : decode cX5_isPayout 8 = .ok (.invokestatic 83, 3) := by decide +kernel
theorem dX5_isPayout_11 : decode cX5_isPayout 11 = .ok (.ireturn, 1) := by decide +kernel
set_option maxRecDepth 20000 in
theorem ggX5_fail_X5_isPayout : GoodIn wsX5_fail wsX5_isPayout := goodIn_r _ [10, 11, 12, 13, 9, 14, 20, 21, 22, 23, 24, 25, 26, 27, 28, 29, 30, 31, 32, 33, 34, 35, 36, 37, 38, 39, 40, 41, 42, 43, 44, 45, 46, 47, 48, 49, 50] (by decide +kernel) (by decide +kernel)
set_option maxRecDepth 20000 in
theorem gX5_fail_X5_isPayout : GoodIn wsX5_fail (wsV RX5 164 RX5 yX5_isPayout wsX5_isPayout) := goodIn_app (goodIn_of _ (by decide +kernel)) ggX5_fail_X5_isPayout
set_option maxRecDepth 20000 in
theorem ggX5_fail_X5_holds : GoodIn wsX5_fail wsX5_holds := goodIn_r _ [18, 19, 20, 21, 22, 23, 24, 25, 26, 27, 28, 29, 30, 31, 32, 33, 34, 35, 36, 37, 38, 39, 40, 41, 42, 43, 44, 45, 46, 47, 48, 49, 50] (by decide +kernel) (by decide +kernel)
set_option maxRecDepth 20000 in
theorem gX5_fail_X5_holds : GoodIn wsX5_fail (wsV RX5 87 RX5 yX5_holds wsX5_holds) := goodIn_app (goodIn_of _ (by decide +kernel)) ggX5_fail_X5_holds
theorem dX5_fail_0 : decode cX5_fail 0 = .ok (.aload_n 0, 1) := by decide +kernel
theorem dX5_fail_1 : decode cX5_fail 1 = .ok (.aload_n 0, 1) := by decide +kernel
theorem dX5_fail_2 : decode cX5_fail 2 = .ok (.iload_n 1, 1) := by decide +kernel
theorem dX5_fail_3 : decode cX5_fail 3 = .ok (.invokevirtual 164, 3) := by decide +kernel
theorem dX5_fail_6 : decode cX5_fail 6 = .ok (.ifCond .ne 7, 3) := by decide +kernel
theorem dX5_fail_9 : decode cX5_fail 9 = .ok (.iconst 1, 1) := by decide +kernel
theorem dX5_fail_10 : decode cX5_fail 10 = .ok (.goto 17, 3) := by decide +kernel
theorem dX5_fail_13 : decode cX5_fail 13 = .ok (.aload_n 0, 1) := by decide +kernel
theorem dX5_fail_14 : decode cX5_fail 14 = .ok (.getfield 71, 3) := by decide +kernel
theorem dX5_fail_17 : decode cX5_fail 17 = .ok (.iload_n 1, 1) := by decide +kernel
theorem dX5_fail_18 : decode cX5_fail 18 = .ok (.baload, 1) := by decide +kernel
theorem dX5_fail_19 : decode cX5_fail 19 = .ok (.ifCond .eq 7, 3) := by decide +kernel
theorem dX5_fail_22 : decode cX5_fail 22 = .ok (.iconst 2, 1) := by decide +kernel
theorem dX5_fail_23 : decode cX5_fail 23 = .ok (.goto 4, 3) := by decide +kernel
theorem dX5_fail_26 : decode cX5_fail 26 = .ok (.iconst 0, 1) := by decide +kernel
theorem dX5_fail_27 : decode cX5_fail 27 = .ok (.invokevirtual 87, 3) := by decide +kernel
theorem dX5_fail_30 : decode cX5_fail 30 = .ok (.ifCond .ne 5, 3) := by decide +kernel
theorem dX5_fail_33 : decode cX5_fail 33 = .ok (.iconst 0, 1) := by decide +kernel
theorem dX5_fail_34 : decode cX5_fail 34 = .ok (.ireturn, 1) := by decide +kernel
theorem dX5_fail_35 : decode cX5_fail 35 = .ok (.aload_n 0, 1) := by decide +kernel
theorem dX5_fail_36 : decode cX5_fail 36 = .ok (.getfield 68, 3) := by decide +kernel
theorem dX5_fail_39 : decode cX5_fail 39 = .ok (.iload_n 1, 1) := by decide +kernel
theorem dX5_fail_40 : decode cX5_fail 40 = .ok (.iaload, 1) := by decide +kernel
theorem dX5_fail_41 : decode cX5_fail 41 = .ok (.istore_n 2, 1) := by decide +kernel
theorem dX5_fail_42 : decode cX5_fail 42 = .ok (.aload_n 0, 1) := by decide +kernel
theorem dX5_fail_43 : decode cX5_fail 43 = .ok (.getfield 71, 3) := by decide +kernel
theorem dX5_fail_46 : decode cX5_fail 46 = .ok (.iload_n 1, 1) := by decide +kernel
theorem dX5_fail_47 : decode cX5_fail 47 = .ok (.iconst 1, 1) := by decide +kernel
theorem dX5_fail_48 : decode cX5_fail 48 = .ok (.bastore, 1) := by decide +kernel
theorem dX5_fail_49 : decode cX5_fail 49 = .ok (.aload_n 0, 1) := by decide +kernel
theorem dX5_fail_50 : decode cX5_fail 50 = .ok (.getfield 28, 3) := by decide +kernel
theorem dX5_fail_53 : decode cX5_fail 53 = .ok (.iload_n 2, 1) := by decide +kernel
theorem dX5_fail_54 : decode cX5_fail 54 = .ok (.dup2, 1) := by decide +kernel
theorem dX5_fail_55 : decode cX5_fail 55 = .ok (.iaload, 1) := by decide +kernel
theorem dX5_fail_56 : decode cX5_fail 56 = .ok (.aload_n 0, 1) := by decide +kernel
theorem dX5_fail_57 : decode cX5_fail 57 = .ok (.getfield 65, 3) := by decide +kernel
theorem dX5_fail_60 : decode cX5_fail 60 = .ok (.iload_n 1, 1) := by decide +kernel
theorem dX5_fail_61 : decode cX5_fail 61 = .ok (.iaload, 1) := by decide +kernel
theorem dX5_fail_62 : decode cX5_fail 62 = .ok (.iadd, 1) := by decide +kernel
theorem dX5_fail_63 : decode cX5_fail 63 = .ok (.iastore, 1) := by decide +kernel
theorem dX5_fail_64 : decode cX5_fail 64 = .ok (.aload_n 0, 1) := by decide +kernel
theorem dX5_fail_65 : decode cX5_fail 65 = .ok (.getfield 31, 3) := by decide +kernel
theorem dX5_fail_68 : decode cX5_fail 68 = .ok (.iload_n 2, 1) := by decide +kernel
theorem dX5_fail_69 : decode cX5_fail 69 = .ok (.dup2, 1) := by decide +kernel
theorem dX5_fail_70 : decode cX5_fail 70 = .ok (.iaload, 1) := by decide +kernel
theorem dX5_fail_71 : decode cX5_fail 71 = .ok (.aload_n 0, 1) := by decide +kernel
theorem dX5_fail_72 : decode cX5_fail 72 = .ok (.getfield 65, 3) := by decide +kernel
theorem dX5_fail_75 : decode cX5_fail 75 = .ok (.iload_n 1, 1) := by decide +kernel
theorem dX5_fail_76 : decode cX5_fail 76 = .ok (.iaload, 1) := by decide +kernel
theorem dX5_fail_77 : decode cX5_fail 77 = .ok (.isub, 1) := by decide +kernel
theorem dX5_fail_78 : decode cX5_fail 78 = .ok (.iastore, 1) := by decide +kernel
theorem dX5_fail_79 : decode cX5_fail 79 = .ok (.aload_n 0, 1) := by decide +kernel
theorem dX5_fail_80 : decode cX5_fail 80 = .ok (.getfield 28, 3) := by decide +kernel
theorem dX5_fail_83 : decode cX5_fail 83 = .ok (.iload_n 2, 1) := by decide +kernel
theorem dX5_fail_84 : decode cX5_fail 84 = .ok (.iaload, 1) := by decide +kernel
theorem dX5_fail_85 : decode cX5_fail 85 = .ok (.ireturn, 1) := by decide +kernel
theorem dX5_today_0 : decode cX5_today 0 = .ok (.aload_n 0, 1) := by decide +kernel
theorem dX5_today_1 : decode cX5_today 1 = .ok (.iconst 0, 1) := by decide +kernel
theorem dX5_today_2 : decode cX5_today 2 = .ok (.putfield 76, 3) := by decide +kernel
theorem dX5_today_5 : decode cX5_today 5 = .ok (.aload_n 0, 1) := by decide +kernel
theorem dX5_today_6 : decode cX5_today 6 = .ok (.getfield 117, 3) := by decide +kernel
theorem dX5_today_9 : decode cX5_today 9 = .ok (.ireturn, 1) := by decide +kernel
theorem dX5_payouts_0 : decode cX5_payouts 0 = .ok (.aload_n 0, 1) := by decide +kernel
theorem dX5_payouts_1 : decode cX5_payouts 1 = .ok (.iconst 0, 1) := by decide +kernel
theorem dX5_payouts_2 : decode cX5_payouts 2 = .ok (.putfield 76, 3) := by decide +kernel
theorem dX5_payouts_5 : decode cX5_payouts 5 = .ok (.aload_n 0, 1) := by decide +kernel
theorem dX5_payouts_6 : decode cX5_payouts 6 = .ok (.getfield 145, 3) := by decide +kernel
theorem dX5_payouts_9 : decode cX5_payouts 9 = .ok (.ireturn, 1) := by decide +kernel
set_option maxRecDepth 20000 in
theorem ggX5_payout_X5_isPayout : GoodIn wsX5_payout wsX5_isPayout := goodIn_r _ [6, 7, 8, 9, 5, 10, 16, 17, 18, 19, 20, 21, 22, 23, 24, 25, 26, 27, 28, 29, 30, 31, 32, 33, 34, 35, 36, 37, 38, 39, 40, 41, 42, 43, 44, 45, 46] (by decide +kernel) (by decide +kernel)
set_option maxRecDepth 20000 in
theorem gX5_payout_X5_isPayout : GoodIn wsX5_payout (wsV RX5 164 RX5 yX5_isPayout wsX5_isPayout) := goodIn_app (goodIn_of _ (by decide +kernel)) ggX5_payout_X5_isPayout
set_option maxRecDepth 20000 in
theorem ggX5_payout_X5_holds : GoodIn wsX5_payout wsX5_holds := goodIn_r _ [14, 15, 16, 17, 18, 19, 20, 21, 22, 23, 24, 25, 26, 27, 28, 29, 30, 31, 32, 33, 34, 35, 36, 37, 38, 39, 40, 41, 42, 43, 44, 45, 46] (by decide +kernel) (by decide +kernel)
set_option maxRecDepth 20000 in
theorem gX5_payout_X5_holds : GoodIn wsX5_payout (wsV RX5 87 RX5 yX5_holds wsX5_holds) := goodIn_app (goodIn_of _ (by decide +kernel)) ggX5_payout_X5_holds
theorem dX5_payout_0 : decode cX5_payout 0 = .ok (.aload_n 0, 1) := by decide +kernel
theorem dX5_payout_1 : decode cX5_payout 1 = .ok (.aload_n 0, 1) := by decide +kernel
theorem dX5_payout_2 : decode cX5_payout 2 = .ok (.iload_n 1, 1) := by decide +kernel
theorem dX5_payout_3 : decode cX5_payout 3 = .ok (.invokevirtual 164, 3) := by decide +kernel
theorem dX5_payout_6 : decode cX5_payout 6 = .ok (.ifCond .eq 7, 3) := by decide +kernel
theorem dX5_payout_9 : decode cX5_payout 9 = .ok (.iconst 0, 1) := by decide +kernel
theorem dX5_payout_10 : decode cX5_payout 10 = .ok (.goto 4, 3) := by decide +kernel
theorem dX5_payout_13 : decode cX5_payout 13 = .ok (.iconst 1, 1) := by decide +kernel
theorem dX5_payout_14 : decode cX5_payout 14 = .ok (.invokevirtual 87, 3) := by decide +kernel
theorem dX5_payout_17 : decode cX5_payout 17 = .ok (.ifCond .eq 12, 3) := by decide +kernel
theorem dX5_payout_20 : decode cX5_payout 20 = .ok (.aload_n 0, 1) := by decide +kernel
theorem dX5_payout_21 : decode cX5_payout 21 = .ok (.getfield 65, 3) := by decide +kernel
theorem dX5_payout_24 : decode cX5_payout 24 = .ok (.iload_n 1, 1) := by decide +kernel
theorem dX5_payout_25 : decode cX5_payout 25 = .ok (.iaload, 1) := by decide +kernel
theorem dX5_payout_26 : decode cX5_payout 26 = .ok (.goto 4, 3) := by decide +kernel
theorem dX5_payout_29 : decode cX5_payout 29 = .ok (.iconst 0, 1) := by decide +kernel
theorem dX5_payout_30 : decode cX5_payout 30 = .ok (.ireturn, 1) := by decide +kernel
set_option maxRecDepth 20000 in
theorem ggX5_sellerOf_X5_isPayout : GoodIn wsX5_sellerOf wsX5_isPayout := goodIn_r _ [6, 7, 8, 9, 5, 10, 16, 17, 18, 19, 20, 21, 22, 23, 24, 25, 26, 27, 28, 29, 30, 31, 32, 33, 34, 35, 36, 37, 38, 39, 40, 41, 42, 43, 44, 45, 46] (by decide +kernel) (by decide +kernel)
set_option maxRecDepth 20000 in
theorem gX5_sellerOf_X5_isPayout : GoodIn wsX5_sellerOf (wsV RX5 164 RX5 yX5_isPayout wsX5_isPayout) := goodIn_app (goodIn_of _ (by decide +kernel)) ggX5_sellerOf_X5_isPayout
set_option maxRecDepth 20000 in
theorem ggX5_sellerOf_X5_holds : GoodIn wsX5_sellerOf wsX5_holds := goodIn_r _ [14, 15, 16, 17, 18, 19, 20, 21, 22, 23, 24, 25, 26, 27, 28, 29, 30, 31, 32, 33, 34, 35, 36, 37, 38, 39, 40, 41, 42, 43, 44, 45, 46] (by decide +kernel) (by decide +kernel)
set_option maxRecDepth 20000 in
theorem gX5_sellerOf_X5_holds : GoodIn wsX5_sellerOf (wsV RX5 87 RX5 yX5_holds wsX5_holds) := goodIn_app (goodIn_of _ (by decide +kernel)) ggX5_sellerOf_X5_holds
theorem dX5_sellerOf_0 : decode cX5_sellerOf 0 = .ok (.aload_n 0, 1) := by decide +kernel
theorem dX5_sellerOf_1 : decode cX5_sellerOf 1 = .ok (.aload_n 0, 1) := by decide +kernel
theorem dX5_sellerOf_2 : decode cX5_sellerOf 2 = .ok (.iload_n 1, 1) := by decide +kernel
theorem dX5_sellerOf_3 : decode cX5_sellerOf 3 = .ok (.invokevirtual 164, 3) := by decide +kernel
theorem dX5_sellerOf_6 : decode cX5_sellerOf 6 = .ok (.ifCond .eq 7, 3) := by decide +kernel
theorem dX5_sellerOf_9 : decode cX5_sellerOf 9 = .ok (.iconst 0, 1) := by decide +kernel
theorem dX5_sellerOf_10 : decode cX5_sellerOf 10 = .ok (.goto 4, 3) := by decide +kernel
theorem dX5_sellerOf_13 : decode cX5_sellerOf 13 = .ok (.iconst 1, 1) := by decide +kernel
theorem dX5_sellerOf_14 : decode cX5_sellerOf 14 = .ok (.invokevirtual 87, 3) := by decide +kernel
theorem dX5_sellerOf_17 : decode cX5_sellerOf 17 = .ok (.ifCond .eq 12, 3) := by decide +kernel
theorem dX5_sellerOf_20 : decode cX5_sellerOf 20 = .ok (.aload_n 0, 1) := by decide +kernel
theorem dX5_sellerOf_21 : decode cX5_sellerOf 21 = .ok (.getfield 68, 3) := by decide +kernel
theorem dX5_sellerOf_24 : decode cX5_sellerOf 24 = .ok (.iload_n 1, 1) := by decide +kernel
theorem dX5_sellerOf_25 : decode cX5_sellerOf 25 = .ok (.iaload, 1) := by decide +kernel
theorem dX5_sellerOf_26 : decode cX5_sellerOf 26 = .ok (.goto 4, 3) := by decide +kernel
theorem dX5_sellerOf_29 : decode cX5_sellerOf 29 = .ok (.iconst 0, 1) := by decide +kernel
theorem dX5_sellerOf_30 : decode cX5_sellerOf 30 = .ok (.ireturn, 1) := by decide +kernel
set_option maxRecDepth 20000 in
theorem ggX5_balance_X5_isSeller : GoodIn wsX5_balance wsX5_isSeller := goodIn_r _ [6, 7, 8, 9, 5, 10, 16, 17, 18, 19, 20, 21, 22, 23, 24, 25, 26, 27, 28, 29, 30, 31, 32, 33, 34, 35, 36, 37, 38, 39, 40, 41, 42, 43, 44, 45, 46] (by decide +kernel) (by decide +kernel)
set_option maxRecDepth 20000 in
theorem gX5_balance_X5_isSeller : GoodIn wsX5_balance (wsV RX5 91 RX5 yX5_isSeller wsX5_isSeller) := goodIn_app (goodIn_of _ (by decide +kernel)) ggX5_balance_X5_isSeller
set_option maxRecDepth 20000 in
theorem ggX5_balance_X5_holds : GoodIn wsX5_balance wsX5_holds := goodIn_r _ [14, 15, 16, 17, 18, 19, 20, 21, 22, 23, 24, 25, 26, 27, 28, 29, 30, 31, 32, 33, 34, 35, 36, 37, 38, 39, 40, 41, 42, 43, 44, 45, 46] (by decide +kernel) (by decide +kernel)
set_option maxRecDepth 20000 in
theorem gX5_balance_X5_holds : GoodIn wsX5_balance (wsV RX5 87 RX5 yX5_holds wsX5_holds) := goodIn_app (goodIn_of _ (by decide +kernel)) ggX5_balance_X5_holds
theorem dX5_balance_0 : decode cX5_balance 0 = .ok (.aload_n 0, 1) := by decide +kernel
theorem dX5_balance_1 : decode cX5_balance 1 = .ok (.aload_n 0, 1) := by decide +kernel
theorem dX5_balance_2 : decode cX5_balance 2 = .ok (.iload_n 1, 1) := by decide +kernel
theorem dX5_balance_3 : decode cX5_balance 3 = .ok (.invokevirtual 91, 3) := by decide +kernel
theorem dX5_balance_6 : decode cX5_balance 6 = .ok (.ifCond .eq 7, 3) := by decide +kernel
theorem dX5_balance_9 : decode cX5_balance 9 = .ok (.iconst 0, 1) := by decide +kernel
theorem dX5_balance_10 : decode cX5_balance 10 = .ok (.goto 4, 3) := by decide +kernel
theorem dX5_balance_13 : decode cX5_balance 13 = .ok (.iconst 1, 1) := by decide +kernel
theorem dX5_balance_14 : decode cX5_balance 14 = .ok (.invokevirtual 87, 3) := by decide +kernel
theorem dX5_balance_17 : decode cX5_balance 17 = .ok (.ifCond .eq 12, 3) := by decide +kernel
theorem dX5_balance_20 : decode cX5_balance 20 = .ok (.aload_n 0, 1) := by decide +kernel
theorem dX5_balance_21 : decode cX5_balance 21 = .ok (.getfield 28, 3) := by decide +kernel
theorem dX5_balance_24 : decode cX5_balance 24 = .ok (.iload_n 1, 1) := by decide +kernel
theorem dX5_balance_25 : decode cX5_balance 25 = .ok (.iaload, 1) := by decide +kernel
theorem dX5_balance_26 : decode cX5_balance 26 = .ok (.goto 4, 3) := by decide +kernel
theorem dX5_balance_29 : decode cX5_balance 29 = .ok (.iconst 0, 1) := by decide +kernel
theorem dX5_balance_30 : decode cX5_balance 30 = .ok (.ireturn, 1) := by decide +kernel
set_option maxRecDepth 20000 in
theorem ggX5_balanceByEntries_X5_isSeller : GoodIn wsX5_balanceByEntries wsX5_isSeller := goodIn_r _ [6, 7, 8, 9, 5, 10, 16, 17, 18, 19, 20, 21, 22, 23, 24, 25, 26, 27, 28, 29, 30, 31, 32, 33, 34, 35, 36, 37, 38, 39, 40, 41, 42, 43, 44, 45, 46] (by decide +kernel) (by decide +kernel)
set_option maxRecDepth 20000 in
theorem gX5_balanceByEntries_X5_isSeller : GoodIn wsX5_balanceByEntries (wsV RX5 91 RX5 yX5_isSeller wsX5_isSeller) := goodIn_app (goodIn_of _ (by decide +kernel)) ggX5_balanceByEntries_X5_isSeller
set_option maxRecDepth 20000 in
theorem ggX5_balanceByEntries_X5_holds : GoodIn wsX5_balanceByEntries wsX5_holds := goodIn_r _ [14, 15, 16, 17, 18, 19, 20, 21, 22, 23, 24, 25, 26, 27, 28, 29, 30, 31, 32, 33, 34, 35, 36, 37, 38, 39, 40, 41, 42, 43, 44, 45, 46] (by decide +kernel) (by decide +kernel)
set_option maxRecDepth 20000 in
theorem gX5_balanceByEntries_X5_holds : GoodIn wsX5_balanceByEntries (wsV RX5 87 RX5 yX5_holds wsX5_holds) := goodIn_app (goodIn_of _ (by decide +kernel)) ggX5_balanceByEntries_X5_holds
theorem dX5_balanceByEntries_0 : decode cX5_balanceByEntries 0 = .ok (.aload_n 0, 1) := by decide +kernel
theorem dX5_balanceByEntries_1 : decode cX5_balanceByEntries 1 = .ok (.aload_n 0, 1) := by decide +kernel
theorem dX5_balanceByEntries_2 : decode cX5_balanceByEntries 2 = .ok (.iload_n 1, 1) := by decide +kernel
theorem dX5_balanceByEntries_3 : decode cX5_balanceByEntries 3 = .ok (.invokevirtual 91, 3) := by decide +kernel
theorem dX5_balanceByEntries_6 : decode cX5_balanceByEntries 6 = .ok (.ifCond .eq 7, 3) := by decide +kernel
theorem dX5_balanceByEntries_9 : decode cX5_balanceByEntries 9 = .ok (.iconst 0, 1) := by decide +kernel
theorem dX5_balanceByEntries_10 : decode cX5_balanceByEntries 10 = .ok (.goto 4, 3) := by decide +kernel
theorem dX5_balanceByEntries_13 : decode cX5_balanceByEntries 13 = .ok (.iconst 1, 1) := by decide +kernel
theorem dX5_balanceByEntries_14 : decode cX5_balanceByEntries 14 = .ok (.invokevirtual 87, 3) := by decide +kernel
theorem dX5_balanceByEntries_17 : decode cX5_balanceByEntries 17 = .ok (.ifCond .eq 12, 3) := by decide +kernel
theorem dX5_balanceByEntries_20 : decode cX5_balanceByEntries 20 = .ok (.aload_n 0, 1) := by decide +kernel
theorem dX5_balanceByEntries_21 : decode cX5_balanceByEntries 21 = .ok (.getfield 28, 3) := by decide +kernel
theorem dX5_balanceByEntries_24 : decode cX5_balanceByEntries 24 = .ok (.iload_n 1, 1) := by decide +kernel
theorem dX5_balanceByEntries_25 : decode cX5_balanceByEntries 25 = .ok (.iaload, 1) := by decide +kernel
theorem dX5_balanceByEntries_26 : decode cX5_balanceByEntries 26 = .ok (.goto 4, 3) := by decide +kernel
theorem dX5_balanceByEntries_29 : decode cX5_balanceByEntries 29 = .ok (.iconst 0, 1) := by decide +kernel
theorem dX5_balanceByEntries_30 : decode cX5_balanceByEntries 30 = .ok (.ireturn, 1) := by decide +kernel
set_option maxRecDepth 20000 in
theorem ggX5_reserve_X5_isSeller : GoodIn wsX5_reserve wsX5_isSeller := goodIn_r _ [8, 9, 10, 11, 7, 12, 18, 19, 20, 21, 22, 23, 24, 25, 26, 27, 28, 29, 30, 31, 32, 33, 34, 35, 36, 37, 38, 39, 40, 41, 42, 43, 44, 45, 46, 47, 48] (by decide +kernel) (by decide +kernel)
set_option maxRecDepth 20000 in
theorem gX5_reserve_X5_isSeller : GoodIn wsX5_reserve (wsV RX5 91 RX5 yX5_isSeller wsX5_isSeller) := goodIn_app (goodIn_of _ (by decide +kernel)) ggX5_reserve_X5_isSeller
set_option maxRecDepth 20000 in
theorem ggX5_reserve_X5_holds : GoodIn wsX5_reserve wsX5_holds := goodIn_r _ [16, 17, 18, 19, 20, 21, 22, 23, 24, 25, 26, 27, 28, 29, 30, 31, 32, 33, 34, 35, 36, 37, 38, 39, 40, 41, 42, 43, 44, 45, 46, 47, 48] (by decide +kernel) (by decide +kernel)
set_option maxRecDepth 20000 in
theorem gX5_reserve_X5_holds : GoodIn wsX5_reserve (wsV RX5 87 RX5 yX5_holds wsX5_holds) := goodIn_app (goodIn_of _ (by decide +kernel)) ggX5_reserve_X5_holds
theorem dX5_reserve_0 : decode cX5_reserve 0 = .ok (.aload_n 0, 1) := by decide +kernel
theorem dX5_reserve_1 : decode cX5_reserve 1 = .ok (.aload_n 0, 1) := by decide +kernel
theorem dX5_reserve_2 : decode cX5_reserve 2 = .ok (.iload_n 1, 1) := by decide +kernel
theorem dX5_reserve_3 : decode cX5_reserve 3 = .ok (.invokevirtual 91, 3) := by decide +kernel
theorem dX5_reserve_6 : decode cX5_reserve 6 = .ok (.ifCond .eq 7, 3) := by decide +kernel
theorem dX5_reserve_9 : decode cX5_reserve 9 = .ok (.iconst 0, 1) := by decide +kernel
theorem dX5_reserve_10 : decode cX5_reserve 10 = .ok (.goto 4, 3) := by decide +kernel
theorem dX5_reserve_13 : decode cX5_reserve 13 = .ok (.iconst 1, 1) := by decide +kernel
theorem dX5_reserve_14 : decode cX5_reserve 14 = .ok (.invokevirtual 87, 3) := by decide +kernel
theorem dX5_reserve_17 : decode cX5_reserve 17 = .ok (.ifCond .ne 5, 3) := by decide +kernel
theorem dX5_reserve_20 : decode cX5_reserve 20 = .ok (.iconst 0, 1) := by decide +kernel
theorem dX5_reserve_21 : decode cX5_reserve 21 = .ok (.ireturn, 1) := by decide +kernel
theorem dX5_reserve_22 : decode cX5_reserve 22 = .ok (.iconst 0, 1) := by decide +kernel
theorem dX5_reserve_23 : decode cX5_reserve 23 = .ok (.istore_n 2, 1) := by decide +kernel
theorem dX5_reserve_24 : decode cX5_reserve 24 = .ok (.iconst 0, 1) := by decide +kernel
theorem dX5_reserve_25 : decode cX5_reserve 25 = .ok (.istore_n 3, 1) := by decide +kernel
theorem dX5_reserve_26 : decode cX5_reserve 26 = .ok (.iload_n 3, 1) := by decide +kernel
theorem dX5_reserve_27 : decode cX5_reserve 27 = .ok (.aload_n 0, 1) := by decide +kernel
theorem dX5_reserve_28 : decode cX5_reserve 28 = .ok (.getfield 114, 3) := by decide +kernel
theorem dX5_reserve_31 : decode cX5_reserve 31 = .ok (.if_icmp .ge 32, 3) := by decide +kernel
theorem dX5_reserve_34 : decode cX5_reserve 34 = .ok (.iload_n 2, 1) := by decide +kernel
theorem dX5_reserve_35 : decode cX5_reserve 35 = .ok (.aload_n 0, 1) := by decide +kernel
theorem dX5_reserve_36 : decode cX5_reserve 36 = .ok (.getfield 38, 3) := by decide +kernel
theorem dX5_reserve_39 : decode cX5_reserve 39 = .ok (.iload_n 3, 1) := by decide +kernel
theorem dX5_reserve_40 : decode cX5_reserve 40 = .ok (.iaload, 1) := by decide +kernel
theorem dX5_reserve_41 : decode cX5_reserve 41 = .ok (.iload_n 1, 1) := by decide +kernel
theorem dX5_reserve_42 : decode cX5_reserve 42 = .ok (.if_icmp .ne 12, 3) := by decide +kernel
theorem dX5_reserve_45 : decode cX5_reserve 45 = .ok (.aload_n 0, 1) := by decide +kernel
theorem dX5_reserve_46 : decode cX5_reserve 46 = .ok (.getfield 59, 3) := by decide +kernel
theorem dX5_reserve_49 : decode cX5_reserve 49 = .ok (.iload_n 3, 1) := by decide +kernel
theorem dX5_reserve_50 : decode cX5_reserve 50 = .ok (.iaload, 1) := by decide +kernel
theorem dX5_reserve_51 : decode cX5_reserve 51 = .ok (.goto 4, 3) := by decide +kernel
theorem dX5_reserve_54 : decode cX5_reserve 54 = .ok (.iconst 0, 1) := by decide +kernel
theorem dX5_reserve_55 : decode cX5_reserve 55 = .ok (.iadd, 1) := by decide +kernel
theorem dX5_reserve_56 : decode cX5_reserve 56 = .ok (.istore_n 2, 1) := by decide +kernel
theorem dX5_reserve_57 : decode cX5_reserve 57 = .ok (.iinc 3 1, 3) := by decide +kernel
theorem dX5_reserve_60 : decode cX5_reserve 60 = .ok (.goto (-34), 3) := by decide +kernel
theorem dX5_reserve_63 : decode cX5_reserve 63 = .ok (.iload_n 2, 1) := by decide +kernel
theorem dX5_reserve_64 : decode cX5_reserve 64 = .ok (.ireturn, 1) := by decide +kernel
set_option maxRecDepth 20000 in
theorem ggX5_paidTo_X5_isSeller : GoodIn wsX5_paidTo wsX5_isSeller := goodIn_r _ [6, 7, 8, 9, 5, 10, 16, 17, 18, 19, 20, 21, 22, 23, 24, 25, 26, 27, 28, 29, 30, 31, 32, 33, 34, 35, 36, 37, 38, 39, 40, 41, 42, 43, 44, 45, 46] (by decide +kernel) (by decide +kernel)
set_option maxRecDepth 20000 in
theorem gX5_paidTo_X5_isSeller : GoodIn wsX5_paidTo (wsV RX5 91 RX5 yX5_isSeller wsX5_isSeller) := goodIn_app (goodIn_of _ (by decide +kernel)) ggX5_paidTo_X5_isSeller
set_option maxRecDepth 20000 in
theorem ggX5_paidTo_X5_holds : GoodIn wsX5_paidTo wsX5_holds := goodIn_r _ [14, 15, 16, 17, 18, 19, 20, 21, 22, 23, 24, 25, 26, 27, 28, 29, 30, 31, 32, 33, 34, 35, 36, 37, 38, 39, 40, 41, 42, 43, 44, 45, 46] (by decide +kernel) (by decide +kernel)
set_option maxRecDepth 20000 in
theorem gX5_paidTo_X5_holds : GoodIn wsX5_paidTo (wsV RX5 87 RX5 yX5_holds wsX5_holds) := goodIn_app (goodIn_of _ (by decide +kernel)) ggX5_paidTo_X5_holds
theorem dX5_paidTo_0 : decode cX5_paidTo 0 = .ok (.aload_n 0, 1) := by decide +kernel
theorem dX5_paidTo_1 : decode cX5_paidTo 1 = .ok (.aload_n 0, 1) := by decide +kernel
theorem dX5_paidTo_2 : decode cX5_paidTo 2 = .ok (.iload_n 1, 1) := by decide +kernel
theorem dX5_paidTo_3 : decode cX5_paidTo 3 = .ok (.invokevirtual 91, 3) := by decide +kernel
theorem dX5_paidTo_6 : decode cX5_paidTo 6 = .ok (.ifCond .eq 7, 3) := by decide +kernel
theorem dX5_paidTo_9 : decode cX5_paidTo 9 = .ok (.iconst 0, 1) := by decide +kernel
theorem dX5_paidTo_10 : decode cX5_paidTo 10 = .ok (.goto 4, 3) := by decide +kernel
theorem dX5_paidTo_13 : decode cX5_paidTo 13 = .ok (.iconst 1, 1) := by decide +kernel
theorem dX5_paidTo_14 : decode cX5_paidTo 14 = .ok (.invokevirtual 87, 3) := by decide +kernel
theorem dX5_paidTo_17 : decode cX5_paidTo 17 = .ok (.ifCond .eq 12, 3) := by decide +kernel
theorem dX5_paidTo_20 : decode cX5_paidTo 20 = .ok (.aload_n 0, 1) := by decide +kernel
theorem dX5_paidTo_21 : decode cX5_paidTo 21 = .ok (.getfield 31, 3) := by decide +kernel
theorem dX5_paidTo_24 : decode cX5_paidTo 24 = .ok (.iload_n 1, 1) := by decide +kernel
theorem dX5_paidTo_25 : decode cX5_paidTo 25 = .ok (.iaload, 1) := by decide +kernel
theorem dX5_paidTo_26 : decode cX5_paidTo 26 = .ok (.goto 4, 3) := by decide +kernel
theorem dX5_paidTo_29 : decode cX5_paidTo 29 = .ok (.iconst 0, 1) := by decide +kernel
theorem dX5_paidTo_30 : decode cX5_paidTo 30 = .ok (.ireturn, 1) := by decide +kernel
theorem dX5_received_0 : decode cX5_received 0 = .ok (.aload_n 0, 1) := by decide +kernel
theorem dX5_received_1 : decode cX5_received 1 = .ok (.iconst 0, 1) := by decide +kernel
theorem dX5_received_2 : decode cX5_received 2 = .ok (.putfield 76, 3) := by decide +kernel
theorem dX5_received_5 : decode cX5_received 5 = .ok (.aload_n 0, 1) := by decide +kernel
theorem dX5_received_6 : decode cX5_received 6 = .ok (.getfield 120, 3) := by decide +kernel
theorem dX5_received_9 : decode cX5_received 9 = .ok (.ireturn, 1) := by decide +kernel
theorem dX5_refunded_0 : decode cX5_refunded 0 = .ok (.aload_n 0, 1) := by decide +kernel
theorem dX5_refunded_1 : decode cX5_refunded 1 = .ok (.iconst 0, 1) := by decide +kernel
theorem dX5_refunded_2 : decode cX5_refunded 2 = .ok (.putfield 76, 3) := by decide +kernel
theorem dX5_refunded_5 : decode cX5_refunded 5 = .ok (.aload_n 0, 1) := by decide +kernel
theorem dX5_refunded_6 : decode cX5_refunded 6 = .ok (.getfield 137, 3) := by decide +kernel
theorem dX5_refunded_9 : decode cX5_refunded 9 = .ok (.ireturn, 1) := by decide +kernel
theorem dX5_fees_0 : decode cX5_fees 0 = .ok (.aload_n 0, 1) := by decide +kernel
theorem dX5_fees_1 : decode cX5_fees 1 = .ok (.iconst 0, 1) := by decide +kernel
theorem dX5_fees_2 : decode cX5_fees 2 = .ok (.putfield 76, 3) := by decide +kernel
theorem dX5_fees_5 : decode cX5_fees 5 = .ok (.aload_n 0, 1) := by decide +kernel
theorem dX5_fees_6 : decode cX5_fees 6 = .ok (.getfield 123, 3) := by decide +kernel
theorem dX5_fees_9 : decode cX5_fees 9 = .ok (.ireturn, 1) := by decide +kernel
theorem dX5_taxes_0 : decode cX5_taxes 0 = .ok (.aload_n 0, 1) := by decide +kernel
theorem dX5_taxes_1 : decode cX5_taxes 1 = .ok (.iconst 0, 1) := by decide +kernel
theorem dX5_taxes_2 : decode cX5_taxes 2 = .ok (.putfield 76, 3) := by decide +kernel
theorem dX5_taxes_5 : decode cX5_taxes 5 = .ok (.aload_n 0, 1) := by decide +kernel
theorem dX5_taxes_6 : decode cX5_taxes 6 = .ok (.getfield 126, 3) := by decide +kernel
theorem dX5_taxes_9 : decode cX5_taxes 9 = .ok (.ireturn, 1) := by decide +kernel
theorem dJxf58ca_isNaN_12338_0 : decode cJxf58ca_isNaN_12338 0 = .ok (.fload_n 0, 1) := by decide +kernel
theorem dJxf58ca_isNaN_12338_1 : decode cJxf58ca_isNaN_12338 1 = .ok (.fload_n 0, 1) := by decide +kernel
theorem dJxf58ca_isNaN_12338_2 : decode cJxf58ca_isNaN_12338 2 = .ok (.fcmp .l, 1) := by decide +kernel
theorem dJxf58ca_isNaN_12338_3 : decode cJxf58ca_isNaN_12338 3 = .ok (.ifCond .eq 7, 3) := by decide +kernel
theorem dJxf58ca_isNaN_12338_6 : decode cJxf58ca_isNaN_12338 6 = .ok (.iconst 1, 1) := by decide +kernel
theorem dJxf58ca_isNaN_12338_7 : decode cJxf58ca_isNaN_12338 7 = .ok (.goto 4, 3) := by decide +kernel
theorem dJxf58ca_isNaN_12338_10 : decode cJxf58ca_isNaN_12338 10 = .ok (.iconst 0, 1) := by decide +kernel
theorem dJxf58ca_isNaN_12338_11 : decode cJxf58ca_isNaN_12338 11 = .ok (.ireturn, 1) := by decide +kernel
set_option maxRecDepth 20000 in
theorem ggJxf58ca_floatToIntBits_5c35a_Jxf58ca_isNaN_12338 : GoodIn wsJxf58ca_floatToIntBits_5c35a wsJxf58ca_isNaN_12338 := goodIn_r _ [9] (by decide +kernel) (by decide +kernel)
set_option maxRecDepth 20000 in
theorem gJxf58ca_floatToIntBits_5c35a_Jxf58ca_isNaN_12338 : GoodIn wsJxf58ca_floatToIntBits_5c35a (va_wsS RJxf58ca 59 yJxf58ca_isNaN_12338 wsJxf58ca_isNaN_12338) := goodIn_app (goodIn_of _ (by decide +kernel)) ggJxf58ca_floatToIntBits_5c35a_Jxf58ca_isNaN_12338
theorem dJxf58ca_floatToIntBits_5c35a_0 : decode cJxf58ca_floatToIntBits_5c35a 0 = .ok (.fload_n 0, 1) := by decide +kernel
theorem dJxf58ca_floatToIntBits_5c35a_1 : decode cJxf58ca_floatToIntBits_5c35a 1 = .ok (.invokestatic 59, 3) := by decide +kernel
theorem dJxf58ca_floatToIntBits_5c35a_4 : decode cJxf58ca_floatToIntBits_5c35a 4 = .ok (.ifCond .ne 8, 3) := by decide +kernel
theorem dJxf58ca_floatToIntBits_5c35a_7 : decode cJxf58ca_floatToIntBits_5c35a 7 = .ok (.fload_n 0, 1) := by decide +kernel
theorem dJxf58ca_floatToIntBits_5c35a_8 : decode cJxf58ca_floatToIntBits_5c35a 8 = .ok (.invokestatic 74, 3) := by decide +kernel
theorem dJxf58ca_floatToIntBits_5c35a_11 : decode cJxf58ca_floatToIntBits_5c35a 11 = .ok (.ireturn, 1) := by decide +kernel
theorem dJxf58ca_floatToIntBits_5c35a_12 : decode cJxf58ca_floatToIntBits_5c35a 12 = .ok (.ldc 77, 2) := by decide +kernel
theorem dJxf58ca_floatToIntBits_5c35a_14 : decode cJxf58ca_floatToIntBits_5c35a 14 = .ok (.ireturn, 1) := by decide +kernel
theorem dJ6_bitCount_0f7a4_0 : decode cJ6_bitCount_0f7a4 0 = .ok (.iload_n 0, 1) := by decide +kernel
theorem dJ6_bitCount_0f7a4_1 : decode cJ6_bitCount_0f7a4 1 = .ok (.iload_n 0, 1) := by decide +kernel
theorem dJ6_bitCount_0f7a4_2 : decode cJ6_bitCount_0f7a4 2 = .ok (.iconst 1, 1) := by decide +kernel
theorem dJ6_bitCount_0f7a4_3 : decode cJ6_bitCount_0f7a4 3 = .ok (.iushr, 1) := by decide +kernel
theorem dJ6_bitCount_0f7a4_4 : decode cJ6_bitCount_0f7a4 4 = .ok (.ldc_w 265, 3) := by decide +kernel
theorem dJ6_bitCount_0f7a4_7 : decode cJ6_bitCount_0f7a4 7 = .ok (.iand, 1) := by decide +kernel
theorem dJ6_bitCount_0f7a4_8 : decode cJ6_bitCount_0f7a4 8 = .ok (.isub, 1) := by decide +kernel
theorem dJ6_bitCount_0f7a4_9 : decode cJ6_bitCount_0f7a4 9 = .ok (.istore_n 0, 1) := by decide +kernel
theorem dJ6_bitCount_0f7a4_10 : decode cJ6_bitCount_0f7a4 10 = .ok (.iload_n 0, 1) := by decide +kernel
theorem dJ6_bitCount_0f7a4_11 : decode cJ6_bitCount_0f7a4 11 = .ok (.ldc_w 266, 3) := by decide +kernel
theorem dJ6_bitCount_0f7a4_14 : decode cJ6_bitCount_0f7a4 14 = .ok (.iand, 1) := by decide +kernel
theorem dJ6_bitCount_0f7a4_15 : decode cJ6_bitCount_0f7a4 15 = .ok (.iload_n 0, 1) := by decide +kernel
theorem dJ6_bitCount_0f7a4_16 : decode cJ6_bitCount_0f7a4 16 = .ok (.iconst 2, 1) := by decide +kernel
theorem dJ6_bitCount_0f7a4_17 : decode cJ6_bitCount_0f7a4 17 = .ok (.iushr, 1) := by decide +kernel
theorem dJ6_bitCount_0f7a4_18 : decode cJ6_bitCount_0f7a4 18 = .ok (.ldc_w 266, 3) := by decide +kernel
theorem dJ6_bitCount_0f7a4_21 : decode cJ6_bitCount_0f7a4 21 = .ok (.iand, 1) := by decide +kernel
theorem dJ6_bitCount_0f7a4_22 : decode cJ6_bitCount_0f7a4 22 = .ok (.iadd, 1) := by decide +kernel
theorem dJ6_bitCount_0f7a4_23 : decode cJ6_bitCount_0f7a4 23 = .ok (.istore_n 0, 1) := by decide +kernel
theorem dJ6_bitCount_0f7a4_24 : decode cJ6_bitCount_0f7a4 24 = .ok (.iload_n 0, 1) := by decide +kernel
theorem dJ6_bitCount_0f7a4_25 : decode cJ6_bitCount_0f7a4 25 = .ok (.iload_n 0, 1) := by decide +kernel
theorem dJ6_bitCount_0f7a4_26 : decode cJ6_bitCount_0f7a4 26 = .ok (.iconst 4, 1) := by decide +kernel
theorem dJ6_bitCount_0f7a4_27 : decode cJ6_bitCount_0f7a4 27 = .ok (.iushr, 1) := by decide +kernel
theorem dJ6_bitCount_0f7a4_28 : decode cJ6_bitCount_0f7a4 28 = .ok (.iadd, 1) := by decide +kernel
theorem dJ6_bitCount_0f7a4_29 : decode cJ6_bitCount_0f7a4 29 = .ok (.ldc_w 267, 3) := by decide +kernel
theorem dJ6_bitCount_0f7a4_32 : decode cJ6_bitCount_0f7a4 32 = .ok (.iand, 1) := by decide +kernel
theorem dJ6_bitCount_0f7a4_33 : decode cJ6_bitCount_0f7a4 33 = .ok (.istore_n 0, 1) := by decide +kernel
theorem dJ6_bitCount_0f7a4_34 : decode cJ6_bitCount_0f7a4 34 = .ok (.iload_n 0, 1) := by decide +kernel
theorem dJ6_bitCount_0f7a4_35 : decode cJ6_bitCount_0f7a4 35 = .ok (.iload_n 0, 1) := by decide +kernel
theorem dJ6_bitCount_0f7a4_36 : decode cJ6_bitCount_0f7a4 36 = .ok (.bipush 8, 2) := by decide +kernel
theorem dJ6_bitCount_0f7a4_38 : decode cJ6_bitCount_0f7a4 38 = .ok (.iushr, 1) := by decide +kernel
theorem dJ6_bitCount_0f7a4_39 : decode cJ6_bitCount_0f7a4 39 = .ok (.iadd, 1) := by decide +kernel
theorem dJ6_bitCount_0f7a4_40 : decode cJ6_bitCount_0f7a4 40 = .ok (.istore_n 0, 1) := by decide +kernel
theorem dJ6_bitCount_0f7a4_41 : decode cJ6_bitCount_0f7a4 41 = .ok (.iload_n 0, 1) := by decide +kernel
theorem dJ6_bitCount_0f7a4_42 : decode cJ6_bitCount_0f7a4 42 = .ok (.iload_n 0, 1) := by decide +kernel
theorem dJ6_bitCount_0f7a4_43 : decode cJ6_bitCount_0f7a4 43 = .ok (.bipush 16, 2) := by decide +kernel
theorem dJ6_bitCount_0f7a4_45 : decode cJ6_bitCount_0f7a4 45 = .ok (.iushr, 1) := by decide +kernel
theorem dJ6_bitCount_0f7a4_46 : decode cJ6_bitCount_0f7a4 46 = .ok (.iadd, 1) := by decide +kernel
theorem dJ6_bitCount_0f7a4_47 : decode cJ6_bitCount_0f7a4 47 = .ok (.istore_n 0, 1) := by decide +kernel
theorem dJ6_bitCount_0f7a4_48 : decode cJ6_bitCount_0f7a4 48 = .ok (.iload_n 0, 1) := by decide +kernel
theorem dJ6_bitCount_0f7a4_49 : decode cJ6_bitCount_0f7a4 49 = .ok (.bipush 63, 2) := by decide +kernel
theorem dJ6_bitCount_0f7a4_51 : decode cJ6_bitCount_0f7a4 51 = .ok (.iand, 1) := by decide +kernel
theorem dJ6_bitCount_0f7a4_52 : decode cJ6_bitCount_0f7a4 52 = .ok (.ireturn, 1) := by decide +kernel
theorem dJ9_min_7cf53_0 : decode cJ9_min_7cf53 0 = .ok (.iload_n 0, 1) := by decide +kernel
theorem dJ9_min_7cf53_1 : decode cJ9_min_7cf53 1 = .ok (.iload_n 1, 1) := by decide +kernel
theorem dJ9_min_7cf53_2 : decode cJ9_min_7cf53 2 = .ok (.if_icmp .gt 7, 3) := by decide +kernel
theorem dJ9_min_7cf53_5 : decode cJ9_min_7cf53 5 = .ok (.iload_n 0, 1) := by decide +kernel
theorem dJ9_min_7cf53_6 : decode cJ9_min_7cf53 6 = .ok (.goto 4, 3) := by decide +kernel
theorem dJ9_min_7cf53_9 : decode cJ9_min_7cf53 9 = .ok (.iload_n 1, 1) := by decide +kernel
theorem dJ9_min_7cf53_10 : decode cJ9_min_7cf53 10 = .ok (.ireturn, 1) := by decide +kernel
theorem dJ7_copyOf_59c91_0 : decode cJ7_copyOf_59c91 0 = .ok (.iload_n 1, 1) := by decide +kernel
theorem dJ7_copyOf_59c91_1 : decode cJ7_copyOf_59c91 1 = .ok (.aload_n 0, 1) := by decide +kernel
theorem dJ7_copyOf_59c91_2 : decode cJ7_copyOf_59c91 2 = .ok (.arraylength, 1) := by decide +kernel
theorem dJ7_copyOf_59c91_3 : decode cJ7_copyOf_59c91 3 = .ok (.if_icmp .ne 11, 3) := by decide +kernel
theorem dJ7_copyOf_59c91_6 : decode cJ7_copyOf_59c91 6 = .ok (.aload_n 0, 1) := by decide +kernel
theorem dJ7_copyOf_59c91_7 : decode cJ7_copyOf_59c91 7 = .ok (.invokevirtual 316, 3) := by decide +kernel
theorem dJ7_copyOf_59c91_10 : decode cJ7_copyOf_59c91 10 = .ok (.checkcast 317, 3) := by decide +kernel
theorem dJ7_copyOf_59c91_13 : decode cJ7_copyOf_59c91 13 = .ok (.areturn, 1) := by decide +kernel
theorem dJ7_copyOf_59c91_14 : decode cJ7_copyOf_59c91 14 = .ok (.iload_n 1, 1) := by decide +kernel
theorem dJ7_copyOf_59c91_15 : decode cJ7_copyOf_59c91 15 = .ok (.newarray .int, 2) := by decide +kernel
theorem dJ7_copyOf_59c91_17 : decode cJ7_copyOf_59c91 17 = .ok (.astore_n 2, 1) := by decide +kernel
theorem dJ7_copyOf_59c91_18 : decode cJ7_copyOf_59c91 18 = .ok (.aload_n 0, 1) := by decide +kernel
theorem dJ7_copyOf_59c91_19 : decode cJ7_copyOf_59c91 19 = .ok (.iconst 0, 1) := by decide +kernel
theorem dJ7_copyOf_59c91_20 : decode cJ7_copyOf_59c91 20 = .ok (.aload_n 2, 1) := by decide +kernel
theorem dJ7_copyOf_59c91_21 : decode cJ7_copyOf_59c91 21 = .ok (.iconst 0, 1) := by decide +kernel
theorem dJ7_copyOf_59c91_22 : decode cJ7_copyOf_59c91 22 = .ok (.aload_n 0, 1) := by decide +kernel
theorem dJ7_copyOf_59c91_23 : decode cJ7_copyOf_59c91 23 = .ok (.arraylength, 1) := by decide +kernel
theorem dJ7_copyOf_59c91_24 : decode cJ7_copyOf_59c91 24 = .ok (.iload_n 1, 1) := by decide +kernel
theorem dJ7_copyOf_59c91_25 : decode cJ7_copyOf_59c91 25 = .ok (.invokestatic 304, 3) := by decide +kernel
theorem dJ7_copyOf_59c91_28 : decode cJ7_copyOf_59c91 28 = .ok (.invokestatic 150, 3) := by decide +kernel
theorem dJ7_copyOf_59c91_31 : decode cJ7_copyOf_59c91 31 = .ok (.aload_n 2, 1) := by decide +kernel
theorem dJ7_copyOf_59c91_32 : decode cJ7_copyOf_59c91 32 = .ok (.areturn, 1) := by decide +kernel
set_option maxRecDepth 20000 in
theorem ggL_addSeller_X4_addSeller : GoodIn wsL_addSeller wsX4_addSeller := goodIn_ca (goodIn_ca (goodIn_r _ [7, 8, 9, 10, 11, 12, 13, 14, 15, 16, 17, 18, 19, 20, 21, 22, 23, 24, 25, 26, 27, 28, 29, 30, 31, 32, 33, 34, 35, 36, 37, 38, 39, 40, 41, 42] (by decide +kernel) (by decide +kernel)) (goodIn_sub (fun _ h => List.mem_cons_of_mem _ (List.mem_append_left _ (List.mem_append_right _ h))) (by decide +kernel))) (goodIn_sub (fun _ h => List.mem_cons_of_mem _ (List.mem_append_right _ h)) (by decide +kernel))
set_option maxRecDepth 20000 in
theorem gL_addSeller_X4_addSeller : GoodIn wsL_addSeller (wsV RL 7 RX4 yX4_addSeller wsX4_addSeller) := goodIn_app (goodIn_of _ (by decide +kernel)) ggL_addSeller_X4_addSeller
