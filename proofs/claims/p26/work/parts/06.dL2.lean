set_option maxRecDepth 20000 in
theorem ggL_areAlike_X4_today : GoodIn wsL_areAlike wsX4_today := goodIn_r _ [6, 7, 70, 71, 72, 73, 74, 75, 76, 77, 78, 79, 80] (by decide +kernel) (by decide +kernel)
set_option maxRecDepth 20000 in
theorem gL_areAlike_X4_today : GoodIn wsL_areAlike (wsV RL 77 RX4 yX4_today wsX4_today) := goodIn_app (goodIn_of _ (by decide +kernel)) ggL_areAlike_X4_today
set_option maxRecDepth 20000 in
theorem ggL_areAlike_X4_payouts : GoodIn wsL_areAlike wsX4_payouts := goodIn_r _ [11, 12, 13, 70, 71, 72, 73, 74, 75, 76, 77, 78, 79, 80, 81, 82, 83, 84] (by decide +kernel) (by decide +kernel)
set_option maxRecDepth 20000 in
theorem gL_areAlike_X4_payouts : GoodIn wsL_areAlike (wsV RL 81 RX4 yX4_payouts wsX4_payouts) := goodIn_app (goodIn_of _ (by decide +kernel)) ggL_areAlike_X4_payouts
set_option maxRecDepth 20000 in
theorem ggL_areAlike_X4_received : GoodIn wsL_areAlike wsX4_received := goodIn_r _ [17, 18, 70, 71, 72, 73, 74, 75, 76, 77, 78, 79, 80] (by decide +kernel) (by decide +kernel)
set_option maxRecDepth 20000 in
theorem gL_areAlike_X4_received : GoodIn wsL_areAlike (wsV RL 84 RX4 yX4_received wsX4_received) := goodIn_app (goodIn_of _ (by decide +kernel)) ggL_areAlike_X4_received
set_option maxRecDepth 20000 in
theorem ggL_areAlike_X4_refunded : GoodIn wsL_areAlike wsX4_refunded := goodIn_r _ [22, 23, 70, 71, 72, 73, 74, 75, 76, 77, 78, 79, 80] (by decide +kernel) (by decide +kernel)
set_option maxRecDepth 20000 in
theorem gL_areAlike_X4_refunded : GoodIn wsL_areAlike (wsV RL 87 RX4 yX4_refunded wsX4_refunded) := goodIn_app (goodIn_of _ (by decide +kernel)) ggL_areAlike_X4_refunded
set_option maxRecDepth 20000 in
theorem ggL_areAlike_X4_fees : GoodIn wsL_areAlike wsX4_fees := goodIn_r _ [27, 28, 70, 71, 72, 73, 74, 75, 76, 77, 78, 79, 80] (by decide +kernel) (by decide +kernel)
set_option maxRecDepth 20000 in
theorem gL_areAlike_X4_fees : GoodIn wsL_areAlike (wsV RL 90 RX4 yX4_fees wsX4_fees) := goodIn_app (goodIn_of _ (by decide +kernel)) ggL_areAlike_X4_fees
set_option maxRecDepth 20000 in
theorem ggL_areAlike_X4_taxes : GoodIn wsL_areAlike wsX4_taxes := goodIn_r _ [32, 33, 70, 71, 72, 73, 74, 75, 76, 77, 78, 79, 80] (by decide +kernel) (by decide +kernel)
set_option maxRecDepth 20000 in
theorem gL_areAlike_X4_taxes : GoodIn wsL_areAlike (wsV RL 93 RX4 yX4_taxes wsX4_taxes) := goodIn_app (goodIn_of _ (by decide +kernel)) ggL_areAlike_X4_taxes
set_option maxRecDepth 20000 in
theorem ggL_areAlike_L_balance : GoodIn wsL_areAlike wsL_balance := goodIn_ca (goodIn_r _ [37, 38, 1, 39, 40, 41, 5, 42, 43, 44, 45, 46, 47, 48, 49, 50, 51, 70, 71, 72, 73, 74, 75, 76, 77, 78, 79, 80, 85, 86, 87, 88, 89, 90, 91, 92, 93] (by decide +kernel) (by decide +kernel)) (goodIn_sub (fun _ h => List.mem_cons_of_mem _ (List.mem_append_right _ h)) (by decide +kernel))
set_option maxRecDepth 20000 in
theorem gL_areAlike_L_balance : GoodIn wsL_areAlike (va_wsS RL 96 yL_balance wsL_balance) := goodIn_app (goodIn_of _ (by decide +kernel)) ggL_areAlike_L_balance
set_option maxRecDepth 20000 in
theorem ggL_areAlike_X4_reserve : GoodIn wsL_areAlike wsX4_reserve := goodIn_ca (goodIn_r _ [55, 56, 45, 46, 47, 5, 48, 49, 50, 43, 51, 57, 58, 59, 60, 61, 62, 63, 64, 70, 71, 72, 73, 74, 75, 76, 77, 78, 79, 80, 85, 86, 87, 88, 89, 90, 91, 92, 93, 94, 95, 96, 97, 98, 99, 100, 101] (by decide +kernel) (by decide +kernel)) (goodIn_sub (fun _ h => List.mem_cons_of_mem _ (List.mem_append_right _ h)) (by decide +kernel))
set_option maxRecDepth 20000 in
theorem gL_areAlike_X4_reserve : GoodIn wsL_areAlike (wsV RL 99 RX4 yX4_reserve wsX4_reserve) := goodIn_app (goodIn_of _ (by decide +kernel)) ggL_areAlike_X4_reserve
set_option maxRecDepth 20000 in
theorem ggL_areAlike_X4_paidTo : GoodIn wsL_areAlike wsX4_paidTo := goodIn_ca (goodIn_r _ [68, 43, 69, 45, 46, 47, 5, 48, 49, 50, 51, 70, 71, 72, 73, 74, 75, 76, 77, 78, 79, 80, 85, 86, 87, 88, 89, 90, 91, 92, 93] (by decide +kernel) (by decide +kernel)) (goodIn_sub (fun _ h => List.mem_cons_of_mem _ (List.mem_append_right _ h)) (by decide +kernel))
set_option maxRecDepth 20000 in
theorem gL_areAlike_X4_paidTo : GoodIn wsL_areAlike (wsV RL 102 RX4 yX4_paidTo wsX4_paidTo) := goodIn_app (goodIn_of _ (by decide +kernel)) ggL_areAlike_X4_paidTo
theorem dL_areAlike_0 : decode cL_areAlike 0 = .ok (.aload_n 0, 1) := by decide +kernel
theorem dL_areAlike_1 : decode cL_areAlike 1 = .ok (.invokevirtual 77, 3) := by decide +kernel
theorem dL_areAlike_4 : decode cL_areAlike 4 = .ok (.aload_n 1, 1) := by decide +kernel
theorem dL_areAlike_5 : decode cL_areAlike 5 = .ok (.invokevirtual 77, 3) := by decide +kernel
theorem dL_areAlike_8 : decode cL_areAlike 8 = .ok (.if_icmp .ne 62, 3) := by decide +kernel
theorem dL_areAlike_11 : decode cL_areAlike 11 = .ok (.aload_n 0, 1) := by decide +kernel
theorem dL_areAlike_12 : decode cL_areAlike 12 = .ok (.invokevirtual 81, 3) := by decide +kernel
theorem dL_areAlike_15 : decode cL_areAlike 15 = .ok (.aload_n 1, 1) := by decide +kernel
theorem dL_areAlike_16 : decode cL_areAlike 16 = .ok (.invokevirtual 81, 3) := by decide +kernel
theorem dL_areAlike_19 : decode cL_areAlike 19 = .ok (.if_icmp .ne 51, 3) := by decide +kernel
theorem dL_areAlike_22 : decode cL_areAlike 22 = .ok (.aload_n 0, 1) := by decide +kernel
theorem dL_areAlike_23 : decode cL_areAlike 23 = .ok (.invokevirtual 84, 3) := by decide +kernel
theorem dL_areAlike_26 : decode cL_areAlike 26 = .ok (.aload_n 1, 1) := by decide +kernel
theorem dL_areAlike_27 : decode cL_areAlike 27 = .ok (.invokevirtual 84, 3) := by decide +kernel
theorem dL_areAlike_30 : decode cL_areAlike 30 = .ok (.if_icmp .ne 40, 3) := by decide +kernel
theorem dL_areAlike_33 : decode cL_areAlike 33 = .ok (.aload_n 0, 1) := by decide +kernel
theorem dL_areAlike_34 : decode cL_areAlike 34 = .ok (.invokevirtual 87, 3) := by decide +kernel
theorem dL_areAlike_37 : decode cL_areAlike 37 = .ok (.aload_n 1, 1) := by decide +kernel
theorem dL_areAlike_38 : decode cL_areAlike 38 = .ok (.invokevirtual 87, 3) := by decide +kernel
theorem dL_areAlike_41 : decode cL_areAlike 41 = .ok (.if_icmp .ne 29, 3) := by decide +kernel
theorem dL_areAlike_44 : decode cL_areAlike 44 = .ok (.aload_n 0, 1) := by decide +kernel
theorem dL_areAlike_45 : decode cL_areAlike 45 = .ok (.invokevirtual 90, 3) := by decide +kernel
theorem dL_areAlike_48 : decode cL_areAlike 48 = .ok (.aload_n 1, 1) := by decide +kernel
theorem dL_areAlike_49 : decode cL_areAlike 49 = .ok (.invokevirtual 90, 3) := by decide +kernel
theorem dL_areAlike_52 : decode cL_areAlike 52 = .ok (.if_icmp .ne 18, 3) := by decide +kernel
theorem dL_areAlike_55 : decode cL_areAlike 55 = .ok (.aload_n 0, 1) := by decide +kernel
theorem dL_areAlike_56 : decode cL_areAlike 56 = .ok (.invokevirtual 93, 3) := by decide +kernel
theorem dL_areAlike_59 : decode cL_areAlike 59 = .ok (.aload_n 1, 1) := by decide +kernel
theorem dL_areAlike_60 : decode cL_areAlike 60 = .ok (.invokevirtual 93, 3) := by decide +kernel
theorem dL_areAlike_63 : decode cL_areAlike 63 = .ok (.if_icmp .ne 7, 3) := by decide +kernel
theorem dL_areAlike_66 : decode cL_areAlike 66 = .ok (.iconst 1, 1) := by decide +kernel
theorem dL_areAlike_67 : decode cL_areAlike 67 = .ok (.goto 4, 3) := by decide +kernel
theorem dL_areAlike_70 : decode cL_areAlike 70 = .ok (.iconst 0, 1) := by decide +kernel
theorem dL_areAlike_71 : decode cL_areAlike 71 = .ok (.istore_n 2, 1) := by decide +kernel
theorem dL_areAlike_72 : decode cL_areAlike 72 = .ok (.iconst 0, 1) := by decide +kernel
theorem dL_areAlike_73 : decode cL_areAlike 73 = .ok (.istore_n 3, 1) := by decide +kernel
theorem dL_areAlike_74 : decode cL_areAlike 74 = .ok (.iload_n 3, 1) := by decide +kernel
theorem dL_areAlike_75 : decode cL_areAlike 75 = .ok (.bipush 8, 2) := by decide +kernel
theorem dL_areAlike_77 : decode cL_areAlike 77 = .ok (.if_icmp .ge 69, 3) := by decide +kernel
theorem dL_areAlike_80 : decode cL_areAlike 80 = .ok (.iload_n 2, 1) := by decide +kernel
theorem dL_areAlike_81 : decode cL_areAlike 81 = .ok (.ifCond .eq 65, 3) := by decide +kernel
theorem dL_areAlike_84 : decode cL_areAlike 84 = .ok (.aload_n 0, 1) := by decide +kernel
theorem dL_areAlike_85 : decode cL_areAlike 85 = .ok (.iload_n 3, 1) := by decide +kernel
theorem dL_areAlike_86 : decode cL_areAlike 86 = .ok (.invokestatic 96, 3) := by decide +kernel
theorem dL_areAlike_89 : decode cL_areAlike 89 = .ok (.istore 4, 2) := by decide +kernel
theorem dL_areAlike_91 : decode cL_areAlike 91 = .ok (.iload 4, 2) := by decide +kernel
theorem dL_areAlike_93 : decode cL_areAlike 93 = .ok (.aload_n 1, 1) := by decide +kernel
theorem dL_areAlike_94 : decode cL_areAlike 94 = .ok (.iload_n 3, 1) := by decide +kernel
theorem dL_areAlike_95 : decode cL_areAlike 95 = .ok (.invokestatic 96, 3) := by decide +kernel
theorem dL_areAlike_98 : decode cL_areAlike 98 = .ok (.if_icmp .ne 40, 3) := by decide +kernel
theorem dL_areAlike_101 : decode cL_areAlike 101 = .ok (.iload 4, 2) := by decide +kernel
theorem dL_areAlike_103 : decode cL_areAlike 103 = .ok (.ldc 45, 2) := by decide +kernel
theorem dL_areAlike_105 : decode cL_areAlike 105 = .ok (.if_icmp .eq 29, 3) := by decide +kernel
theorem dL_areAlike_108 : decode cL_areAlike 108 = .ok (.aload_n 0, 1) := by decide +kernel
theorem dL_areAlike_109 : decode cL_areAlike 109 = .ok (.iload_n 3, 1) := by decide +kernel
theorem dL_areAlike_110 : decode cL_areAlike 110 = .ok (.invokevirtual 99, 3) := by decide +kernel
theorem dL_areAlike_113 : decode cL_areAlike 113 = .ok (.aload_n 1, 1) := by decide +kernel
theorem dL_areAlike_114 : decode cL_areAlike 114 = .ok (.iload_n 3, 1) := by decide +kernel
theorem dL_areAlike_115 : decode cL_areAlike 115 = .ok (.invokevirtual 99, 3) := by decide +kernel
theorem dL_areAlike_118 : decode cL_areAlike 118 = .ok (.if_icmp .ne 20, 3) := by decide +kernel
theorem dL_areAlike_121 : decode cL_areAlike 121 = .ok (.aload_n 0, 1) := by decide +kernel
theorem dL_areAlike_122 : decode cL_areAlike 122 = .ok (.iload_n 3, 1) := by decide +kernel
theorem dL_areAlike_123 : decode cL_areAlike 123 = .ok (.invokevirtual 102, 3) := by decide +kernel
theorem dL_areAlike_126 : decode cL_areAlike 126 = .ok (.aload_n 1, 1) := by decide +kernel
theorem dL_areAlike_127 : decode cL_areAlike 127 = .ok (.iload_n 3, 1) := by decide +kernel
theorem dL_areAlike_128 : decode cL_areAlike 128 = .ok (.invokevirtual 102, 3) := by decide +kernel
theorem dL_areAlike_131 : decode cL_areAlike 131 = .ok (.if_icmp .ne 7, 3) := by decide +kernel
theorem dL_areAlike_134 : decode cL_areAlike 134 = .ok (.iconst 1, 1) := by decide +kernel
theorem dL_areAlike_135 : decode cL_areAlike 135 = .ok (.goto 4, 3) := by decide +kernel
theorem dL_areAlike_138 : decode cL_areAlike 138 = .ok (.iconst 0, 1) := by decide +kernel
theorem dL_areAlike_139 : decode cL_areAlike 139 = .ok (.istore_n 2, 1) := by decide +kernel
theorem dL_areAlike_140 : decode cL_areAlike 140 = .ok (.iinc 3 1, 3) := by decide +kernel
theorem dL_areAlike_143 : decode cL_areAlike 143 = .ok (.goto (-69), 3) := by decide +kernel
theorem dL_areAlike_146 : decode cL_areAlike 146 = .ok (.iload_n 2, 1) := by decide +kernel
theorem dL_areAlike_147 : decode cL_areAlike 147 = .ok (.ireturn, 1) := by decide +kernel
set_option maxRecDepth 20000 in
theorem ggL_isKept_X4_refunded : GoodIn wsL_isKept wsX4_refunded := goodIn_r _ [6, 7, 93, 94, 95, 96, 97, 98, 99, 100, 101, 102, 103] (by decide +kernel) (by decide +kernel)
set_option maxRecDepth 20000 in
theorem gL_isKept_X4_refunded : GoodIn wsL_isKept (wsV RL 87 RX4 yX4_refunded wsX4_refunded) := goodIn_app (goodIn_of _ (by decide +kernel)) ggL_isKept_X4_refunded
set_option maxRecDepth 20000 in
theorem ggL_isKept_X4_fees : GoodIn wsL_isKept wsX4_fees := goodIn_r _ [11, 12, 93, 94, 95, 96, 97, 98, 99, 100, 101, 102, 103] (by decide +kernel) (by decide +kernel)
set_option maxRecDepth 20000 in
theorem gL_isKept_X4_fees : GoodIn wsL_isKept (wsV RL 90 RX4 yX4_fees wsX4_fees) := goodIn_app (goodIn_of _ (by decide +kernel)) ggL_isKept_X4_fees
set_option maxRecDepth 20000 in
theorem ggL_isKept_X4_taxes : GoodIn wsL_isKept wsX4_taxes := goodIn_r _ [16, 17, 93, 94, 95, 96, 97, 98, 99, 100, 101, 102, 103] (by decide +kernel) (by decide +kernel)
set_option maxRecDepth 20000 in
theorem gL_isKept_X4_taxes : GoodIn wsL_isKept (wsV RL 93 RX4 yX4_taxes wsX4_taxes) := goodIn_app (goodIn_of _ (by decide +kernel)) ggL_isKept_X4_taxes
set_option maxRecDepth 20000 in
theorem ggL_isKept_X4_received : GoodIn wsL_isKept wsX4_received := goodIn_r _ [21, 22, 93, 94, 95, 96, 97, 98, 99, 100, 101, 102, 103] (by decide +kernel) (by decide +kernel)
set_option maxRecDepth 20000 in
theorem gL_isKept_X4_received : GoodIn wsL_isKept (wsV RL 84 RX4 yX4_received wsX4_received) := goodIn_app (goodIn_of _ (by decide +kernel)) ggL_isKept_X4_received
set_option maxRecDepth 20000 in
theorem ggL_isKept_L_balance : GoodIn wsL_isKept wsL_balance := goodIn_ca (goodIn_r _ [26, 27, 1, 28, 29, 30, 5, 31, 32, 33, 34, 35, 36, 37, 38, 39, 40, 93, 94, 95, 96, 97, 98, 99, 100, 101, 102, 103, 104, 105, 106, 107, 108, 109, 110, 111, 112] (by decide +kernel) (by decide +kernel)) (goodIn_sub (fun _ h => List.mem_cons_of_mem _ (List.mem_append_right _ h)) (by decide +kernel))
set_option maxRecDepth 20000 in
theorem gL_isKept_L_balance : GoodIn wsL_isKept (va_wsS RL 96 yL_balance wsL_balance) := goodIn_app (goodIn_of _ (by decide +kernel)) ggL_isKept_L_balance
set_option maxRecDepth 20000 in
theorem ggL_isKept_X4_balance : GoodIn wsL_isKept wsX4_balance := goodIn_ca (goodIn_r _ [31, 32, 33, 34, 35, 36, 5, 37, 38, 39, 40, 93, 94, 95, 96, 97, 98, 99, 100, 101, 102, 103, 104, 105, 106, 107, 108, 109, 110, 111, 112] (by decide +kernel) (by decide +kernel)) (goodIn_sub (fun _ h => List.mem_cons_of_mem _ (List.mem_append_right _ h)) (by decide +kernel))
set_option maxRecDepth 20000 in
theorem gL_isKept_X4_balance : GoodIn wsL_isKept (wsV RL 61 RX4 yX4_balance wsX4_balance) := goodIn_app (goodIn_of _ (by decide +kernel)) ggL_isKept_X4_balance
set_option maxRecDepth 20000 in
theorem ggL_isKept_X4_reserve : GoodIn wsL_isKept wsX4_reserve := goodIn_ca (goodIn_r _ [44, 45, 34, 35, 36, 5, 37, 38, 39, 32, 40, 46, 47, 48, 49, 50, 51, 52, 53, 93, 94, 95, 96, 97, 98, 99, 100, 101, 102, 103, 104, 105, 106, 107, 108, 109, 110, 111, 112, 113, 114, 115, 116, 117, 118, 119, 120] (by decide +kernel) (by decide +kernel)) (goodIn_sub (fun _ h => List.mem_cons_of_mem _ (List.mem_append_right _ h)) (by decide +kernel))
set_option maxRecDepth 20000 in
theorem gL_isKept_X4_reserve : GoodIn wsL_isKept (wsV RL 99 RX4 yX4_reserve wsX4_reserve) := goodIn_app (goodIn_of _ (by decide +kernel)) ggL_isKept_X4_reserve
set_option maxRecDepth 20000 in
theorem ggL_isKept_X4_paidTo : GoodIn wsL_isKept wsX4_paidTo := goodIn_ca (goodIn_r _ [57, 32, 58, 34, 35, 36, 5, 37, 38, 39, 40, 93, 94, 95, 96, 97, 98, 99, 100, 101, 102, 103, 104, 105, 106, 107, 108, 109, 110, 111, 112] (by decide +kernel) (by decide +kernel)) (goodIn_sub (fun _ h => List.mem_cons_of_mem _ (List.mem_append_right _ h)) (by decide +kernel))
set_option maxRecDepth 20000 in
theorem gL_isKept_X4_paidTo : GoodIn wsL_isKept (wsV RL 102 RX4 yX4_paidTo wsX4_paidTo) := goodIn_app (goodIn_of _ (by decide +kernel)) ggL_isKept_X4_paidTo
set_option maxRecDepth 20000 in
theorem ggL_isKept_X4_balanceByEntries : GoodIn wsL_isKept wsX4_balanceByEntries := goodIn_ca (goodIn_r _ [62, 63, 34, 35, 36, 5, 37, 38, 39, 32, 40, 64, 65, 66, 67, 68, 69, 70, 71, 72, 93, 94, 95, 96, 97, 98, 99, 100, 101, 102, 103, 104, 105, 106, 107, 108, 109, 110, 111, 112, 121, 122, 123, 124] (by decide +kernel) (by decide +kernel)) (goodIn_sub (fun _ h => List.mem_cons_of_mem _ (List.mem_append_right _ h)) (by decide +kernel))
set_option maxRecDepth 20000 in
theorem gL_isKept_X4_balanceByEntries : GoodIn wsL_isKept (wsV RL 105 RX4 yX4_balanceByEntries wsX4_balanceByEntries) := goodIn_app (goodIn_of _ (by decide +kernel)) ggL_isKept_X4_balanceByEntries
set_option maxRecDepth 20000 in
theorem ggL_isKept_X4_payouts : GoodIn wsL_isKept wsX4_payouts := goodIn_r _ [76, 77, 78, 93, 94, 95, 96, 97, 98, 99, 100, 101, 102, 103, 125, 126, 127, 128] (by decide +kernel) (by decide +kernel)
set_option maxRecDepth 20000 in
theorem gL_isKept_X4_payouts : GoodIn wsL_isKept (wsV RL 81 RX4 yX4_payouts wsX4_payouts) := goodIn_app (goodIn_of _ (by decide +kernel)) ggL_isKept_X4_payouts
set_option maxRecDepth 20000 in
theorem ggL_isKept_X4_payout : GoodIn wsL_isKept wsX4_payout := goodIn_ca (goodIn_r _ [82, 77, 83, 84, 85, 86, 5, 87, 38, 39, 78, 93, 94, 95, 96, 97, 98, 99, 100, 101, 102, 103, 125, 126, 127, 128] (by decide +kernel) (by decide +kernel)) (goodIn_sub (fun _ h => List.mem_cons_of_mem _ (List.mem_append_right _ h)) (by decide +kernel))
set_option maxRecDepth 20000 in
theorem gL_isKept_X4_payout : GoodIn wsL_isKept (wsV RL 108 RX4 yX4_payout wsX4_payout) := goodIn_app (goodIn_of _ (by decide +kernel)) ggL_isKept_X4_payout
set_option maxRecDepth 20000 in
theorem ggL_isKept_X4_sellerOf : GoodIn wsL_isKept wsX4_sellerOf := goodIn_ca (goodIn_r _ [91, 77, 92, 84, 85, 86, 5, 87, 38, 39, 78, 93, 94, 95, 96, 97, 98, 99, 100, 101, 102, 103, 125, 126, 127, 128] (by decide +kernel) (by decide +kernel)) (goodIn_sub (fun _ h => List.mem_cons_of_mem _ (List.mem_append_right _ h)) (by decide +kernel))
set_option maxRecDepth 20000 in
theorem gL_isKept_X4_sellerOf : GoodIn wsL_isKept (wsV RL 111 RX4 yX4_sellerOf wsX4_sellerOf) := goodIn_app (goodIn_of _ (by decide +kernel)) ggL_isKept_X4_sellerOf
theorem dL_isKept_0 : decode cL_isKept 0 = .ok (.aload_n 0, 1) := by decide +kernel
theorem dL_isKept_1 : decode cL_isKept 1 = .ok (.invokevirtual 87, 3) := by decide +kernel
theorem dL_isKept_4 : decode cL_isKept 4 = .ok (.aload_n 0, 1) := by decide +kernel
theorem dL_isKept_5 : decode cL_isKept 5 = .ok (.invokevirtual 90, 3) := by decide +kernel
theorem dL_isKept_8 : decode cL_isKept 8 = .ok (.iadd, 1) := by decide +kernel
theorem dL_isKept_9 : decode cL_isKept 9 = .ok (.aload_n 0, 1) := by decide +kernel
theorem dL_isKept_10 : decode cL_isKept 10 = .ok (.invokevirtual 93, 3) := by decide +kernel
theorem dL_isKept_13 : decode cL_isKept 13 = .ok (.iadd, 1) := by decide +kernel
theorem dL_isKept_14 : decode cL_isKept 14 = .ok (.istore_n 1, 1) := by decide +kernel
theorem dL_isKept_15 : decode cL_isKept 15 = .ok (.iconst 0, 1) := by decide +kernel
theorem dL_isKept_16 : decode cL_isKept 16 = .ok (.istore_n 2, 1) := by decide +kernel
theorem dL_isKept_17 : decode cL_isKept 17 = .ok (.aload_n 0, 1) := by decide +kernel
theorem dL_isKept_18 : decode cL_isKept 18 = .ok (.invokevirtual 90, 3) := by decide +kernel
theorem dL_isKept_21 : decode cL_isKept 21 = .ok (.ifCond .lt 32, 3) := by decide +kernel
theorem dL_isKept_24 : decode cL_isKept 24 = .ok (.aload_n 0, 1) := by decide +kernel
theorem dL_isKept_25 : decode cL_isKept 25 = .ok (.invokevirtual 93, 3) := by decide +kernel
theorem dL_isKept_28 : decode cL_isKept 28 = .ok (.ifCond .lt 25, 3) := by decide +kernel
theorem dL_isKept_31 : decode cL_isKept 31 = .ok (.aload_n 0, 1) := by decide +kernel
theorem dL_isKept_32 : decode cL_isKept 32 = .ok (.invokevirtual 87, 3) := by decide +kernel
theorem dL_isKept_35 : decode cL_isKept 35 = .ok (.ifCond .lt 18, 3) := by decide +kernel
theorem dL_isKept_38 : decode cL_isKept 38 = .ok (.aload_n 0, 1) := by decide +kernel
theorem dL_isKept_39 : decode cL_isKept 39 = .ok (.invokevirtual 87, 3) := by decide +kernel
theorem dL_isKept_42 : decode cL_isKept 42 = .ok (.aload_n 0, 1) := by decide +kernel
theorem dL_isKept_43 : decode cL_isKept 43 = .ok (.invokevirtual 84, 3) := by decide +kernel
theorem dL_isKept_46 : decode cL_isKept 46 = .ok (.if_icmp .gt 7, 3) := by decide +kernel
theorem dL_isKept_49 : decode cL_isKept 49 = .ok (.iconst 1, 1) := by decide +kernel
theorem dL_isKept_50 : decode cL_isKept 50 = .ok (.goto 4, 3) := by decide +kernel
theorem dL_isKept_53 : decode cL_isKept 53 = .ok (.iconst 0, 1) := by decide +kernel
theorem dL_isKept_54 : decode cL_isKept 54 = .ok (.istore_n 3, 1) := by decide +kernel
theorem dL_isKept_55 : decode cL_isKept 55 = .ok (.iconst 0, 1) := by decide +kernel
theorem dL_isKept_56 : decode cL_isKept 56 = .ok (.istore 4, 2) := by decide +kernel
theorem dL_isKept_58 : decode cL_isKept 58 = .ok (.iload 4, 2) := by decide +kernel
theorem dL_isKept_60 : decode cL_isKept 60 = .ok (.bipush 8, 2) := by decide +kernel
theorem dL_isKept_62 : decode cL_isKept 62 = .ok (.if_icmp .ge 95, 3) := by decide +kernel
theorem dL_isKept_65 : decode cL_isKept 65 = .ok (.aload_n 0, 1) := by decide +kernel
theorem dL_isKept_66 : decode cL_isKept 66 = .ok (.iload 4, 2) := by decide +kernel
theorem dL_isKept_68 : decode cL_isKept 68 = .ok (.invokestatic 96, 3) := by decide +kernel
theorem dL_isKept_71 : decode cL_isKept 71 = .ok (.ldc 45, 2) := by decide +kernel
theorem dL_isKept_73 : decode cL_isKept 73 = .ok (.if_icmp .eq 84, 3) := by decide +kernel
theorem dL_isKept_76 : decode cL_isKept 76 = .ok (.iload_n 3, 1) := by decide +kernel
theorem dL_isKept_77 : decode cL_isKept 77 = .ok (.ifCond .eq 80, 3) := by decide +kernel
theorem dL_isKept_80 : decode cL_isKept 80 = .ok (.iload_n 1, 1) := by decide +kernel
theorem dL_isKept_81 : decode cL_isKept 81 = .ok (.aload_n 0, 1) := by decide +kernel
theorem dL_isKept_82 : decode cL_isKept 82 = .ok (.iload 4, 2) := by decide +kernel
theorem dL_isKept_84 : decode cL_isKept 84 = .ok (.invokevirtual 61, 3) := by decide +kernel
theorem dL_isKept_87 : decode cL_isKept 87 = .ok (.aload_n 0, 1) := by decide +kernel
theorem dL_isKept_88 : decode cL_isKept 88 = .ok (.iload 4, 2) := by decide +kernel
theorem dL_isKept_90 : decode cL_isKept 90 = .ok (.invokevirtual 99, 3) := by decide +kernel
theorem dL_isKept_93 : decode cL_isKept 93 = .ok (.iadd, 1) := by decide +kernel
theorem dL_isKept_94 : decode cL_isKept 94 = .ok (.aload_n 0, 1) := by decide +kernel
theorem dL_isKept_95 : decode cL_isKept 95 = .ok (.iload 4, 2) := by decide +kernel
theorem dL_isKept_97 : decode cL_isKept 97 = .ok (.invokevirtual 102, 3) := by decide +kernel
theorem dL_isKept_100 : decode cL_isKept 100 = .ok (.iadd, 1) := by decide +kernel
theorem dL_isKept_101 : decode cL_isKept 101 = .ok (.iadd, 1) := by decide +kernel
theorem dL_isKept_102 : decode cL_isKept 102 = .ok (.istore_n 1, 1) := by decide +kernel
theorem dL_isKept_103 : decode cL_isKept 103 = .ok (.iload_n 2, 1) := by decide +kernel
theorem dL_isKept_104 : decode cL_isKept 104 = .ok (.aload_n 0, 1) := by decide +kernel
theorem dL_isKept_105 : decode cL_isKept 105 = .ok (.iload 4, 2) := by decide +kernel
theorem dL_isKept_107 : decode cL_isKept 107 = .ok (.invokevirtual 102, 3) := by decide +kernel
theorem dL_isKept_110 : decode cL_isKept 110 = .ok (.iadd, 1) := by decide +kernel
theorem dL_isKept_111 : decode cL_isKept 111 = .ok (.istore_n 2, 1) := by decide +kernel
theorem dL_isKept_112 : decode cL_isKept 112 = .ok (.aload_n 0, 1) := by decide +kernel
theorem dL_isKept_113 : decode cL_isKept 113 = .ok (.iload 4, 2) := by decide +kernel
theorem dL_isKept_115 : decode cL_isKept 115 = .ok (.invokevirtual 99, 3) := by decide +kernel
theorem dL_isKept_118 : decode cL_isKept 118 = .ok (.ifCond .lt 31, 3) := by decide +kernel
theorem dL_isKept_121 : decode cL_isKept 121 = .ok (.aload_n 0, 1) := by decide +kernel
theorem dL_isKept_122 : decode cL_isKept 122 = .ok (.iload 4, 2) := by decide +kernel
theorem dL_isKept_124 : decode cL_isKept 124 = .ok (.invokevirtual 102, 3) := by decide +kernel
theorem dL_isKept_127 : decode cL_isKept 127 = .ok (.ifCond .lt 22, 3) := by decide +kernel
theorem dL_isKept_130 : decode cL_isKept 130 = .ok (.aload_n 0, 1) := by decide +kernel
theorem dL_isKept_131 : decode cL_isKept 131 = .ok (.iload 4, 2) := by decide +kernel
theorem dL_isKept_133 : decode cL_isKept 133 = .ok (.invokevirtual 105, 3) := by decide +kernel
theorem dL_isKept_136 : decode cL_isKept 136 = .ok (.aload_n 0, 1) := by decide +kernel
theorem dL_isKept_137 : decode cL_isKept 137 = .ok (.iload 4, 2) := by decide +kernel
theorem dL_isKept_139 : decode cL_isKept 139 = .ok (.invokevirtual 61, 3) := by decide +kernel
theorem dL_isKept_142 : decode cL_isKept 142 = .ok (.if_icmp .ne 7, 3) := by decide +kernel
theorem dL_isKept_145 : decode cL_isKept 145 = .ok (.iconst 1, 1) := by decide +kernel
theorem dL_isKept_146 : decode cL_isKept 146 = .ok (.goto 4, 3) := by decide +kernel
theorem dL_isKept_149 : decode cL_isKept 149 = .ok (.iconst 0, 1) := by decide +kernel
theorem dL_isKept_150 : decode cL_isKept 150 = .ok (.istore_n 3, 1) := by decide +kernel
theorem dL_isKept_151 : decode cL_isKept 151 = .ok (.iinc 4 1, 3) := by decide +kernel
theorem dL_isKept_154 : decode cL_isKept 154 = .ok (.goto (-96), 3) := by decide +kernel
theorem dL_isKept_157 : decode cL_isKept 157 = .ok (.iconst 0, 1) := by decide +kernel
theorem dL_isKept_158 : decode cL_isKept 158 = .ok (.istore 4, 2) := by decide +kernel
theorem dL_isKept_160 : decode cL_isKept 160 = .ok (.iload 4, 2) := by decide +kernel
theorem dL_isKept_162 : decode cL_isKept 162 = .ok (.aload_n 0, 1) := by decide +kernel
theorem dL_isKept_163 : decode cL_isKept 163 = .ok (.invokevirtual 81, 3) := by decide +kernel
theorem dL_isKept_166 : decode cL_isKept 166 = .ok (.if_icmp .ge 52, 3) := by decide +kernel
theorem dL_isKept_169 : decode cL_isKept 169 = .ok (.iload_n 3, 1) := by decide +kernel
theorem dL_isKept_170 : decode cL_isKept 170 = .ok (.ifCond .eq 48, 3) := by decide +kernel
theorem dL_isKept_173 : decode cL_isKept 173 = .ok (.iload_n 2, 1) := by decide +kernel
theorem dL_isKept_174 : decode cL_isKept 174 = .ok (.aload_n 0, 1) := by decide +kernel
theorem dL_isKept_175 : decode cL_isKept 175 = .ok (.iload 4, 2) := by decide +kernel
theorem dL_isKept_177 : decode cL_isKept 177 = .ok (.invokevirtual 108, 3) := by decide +kernel
theorem dL_isKept_180 : decode cL_isKept 180 = .ok (.isub, 1) := by decide +kernel
theorem dL_isKept_181 : decode cL_isKept 181 = .ok (.istore_n 2, 1) := by decide +kernel
theorem dL_isKept_182 : decode cL_isKept 182 = .ok (.aload_n 0, 1) := by decide +kernel
theorem dL_isKept_183 : decode cL_isKept 183 = .ok (.iload 4, 2) := by decide +kernel
theorem dL_isKept_185 : decode cL_isKept 185 = .ok (.invokevirtual 108, 3) := by decide +kernel
theorem dL_isKept_188 : decode cL_isKept 188 = .ok (.ifCond .le 22, 3) := by decide +kernel
theorem dL_isKept_191 : decode cL_isKept 191 = .ok (.aload_n 0, 1) := by decide +kernel
theorem dL_isKept_192 : decode cL_isKept 192 = .ok (.aload_n 0, 1) := by decide +kernel
theorem dL_isKept_193 : decode cL_isKept 193 = .ok (.iload 4, 2) := by decide +kernel
theorem dL_isKept_195 : decode cL_isKept 195 = .ok (.invokevirtual 111, 3) := by decide +kernel
theorem dL_isKept_198 : decode cL_isKept 198 = .ok (.invokestatic 96, 3) := by decide +kernel
theorem dL_isKept_201 : decode cL_isKept 201 = .ok (.ldc 45, 2) := by decide +kernel
theorem dL_isKept_203 : decode cL_isKept 203 = .ok (.if_icmp .eq 7, 3) := by decide +kernel
theorem dL_isKept_206 : decode cL_isKept 206 = .ok (.iconst 1, 1) := by decide +kernel
theorem dL_isKept_207 : decode cL_isKept 207 = .ok (.goto 4, 3) := by decide +kernel
theorem dL_isKept_210 : decode cL_isKept 210 = .ok (.iconst 0, 1) := by decide +kernel
theorem dL_isKept_211 : decode cL_isKept 211 = .ok (.istore_n 3, 1) := by decide +kernel
theorem dL_isKept_212 : decode cL_isKept 212 = .ok (.iinc 4 1, 3) := by decide +kernel
theorem dL_isKept_215 : decode cL_isKept 215 = .ok (.goto (-55), 3) := by decide +kernel
theorem dL_isKept_218 : decode cL_isKept 218 = .ok (.iload_n 3, 1) := by decide +kernel
theorem dL_isKept_219 : decode cL_isKept 219 = .ok (.ifCond .eq 19, 3) := by decide +kernel
theorem dL_isKept_222 : decode cL_isKept 222 = .ok (.iload_n 1, 1) := by decide +kernel
theorem dL_isKept_223 : decode cL_isKept 223 = .ok (.aload_n 0, 1) := by decide +kernel
theorem dL_isKept_224 : decode cL_isKept 224 = .ok (.invokevirtual 84, 3) := by decide +kernel
theorem dL_isKept_227 : decode cL_isKept 227 = .ok (.if_icmp .ne 11, 3) := by decide +kernel
theorem dL_isKept_230 : decode cL_isKept 230 = .ok (.iload_n 2, 1) := by decide +kernel
theorem dL_isKept_231 : decode cL_isKept 231 = .ok (.ifCond .gt 7, 3) := by decide +kernel
theorem dL_isKept_234 : decode cL_isKept 234 = .ok (.iconst 1, 1) := by decide +kernel
theorem dL_isKept_235 : decode cL_isKept 235 = .ok (.goto 4, 3) := by decide +kernel
theorem dL_isKept_238 : decode cL_isKept 238 = .ok (.iconst 0, 1) := by decide +kernel
theorem dL_isKept_239 : decode cL_isKept 239 = .ok (.ireturn, 1) := by decide +kernel
set_option maxRecDepth 20000 in
theorem ggL_isDaySo_X4_payouts : GoodIn wsL_isDaySo wsX4_payouts := goodIn_r _ [6, 7, 8, 261, 262, 263, 264, 265, 266, 267, 268, 269, 270, 271, 272, 273, 274, 275] (by decide +kernel) (by decide +kernel)
set_option maxRecDepth 20000 in
theorem gL_isDaySo_X4_payouts : GoodIn wsL_isDaySo (wsV RL 81 RX4 yX4_payouts wsX4_payouts) := goodIn_app (goodIn_of _ (by decide +kernel)) ggL_isDaySo_X4_payouts
set_option maxRecDepth 20000 in
theorem ggL_isDaySo_X4_today : GoodIn wsL_isDaySo wsX4_today := goodIn_r _ [12, 13, 261, 262, 263, 264, 265, 266, 267, 268, 269, 270, 271] (by decide +kernel) (by decide +kernel)
set_option maxRecDepth 20000 in
theorem gL_isDaySo_X4_today : GoodIn wsL_isDaySo (wsV RL 77 RX4 yX4_today wsX4_today) := goodIn_app (goodIn_of _ (by decide +kernel)) ggL_isDaySo_X4_today
set_option maxRecDepth 20000 in
theorem ggL_isDaySo_L_does : GoodIn wsL_isDaySo wsL_does := goodIn_ca (goodIn_ca (goodIn_ca (goodIn_r _ [17, 18, 19, 20, 1, 21, 22, 23, 5, 24, 25, 26, 27, 28, 29, 30, 31, 32, 33, 34, 35, 36, 37, 38, 39, 40, 41, 42, 43, 44, 45, 46, 47, 48, 49, 50, 51, 52, 53, 54, 55, 16, 56, 57, 58, 59, 60, 61, 62, 63, 64, 65, 66, 67, 68, 69, 70, 71, 72, 73, 74, 75, 76, 77, 78, 79, 80, 81, 82, 83, 84, 85, 86, 87, 88, 89, 90, 91, 92, 93, 94, 95, 96, 97, 98, 99, 100, 101, 102, 103, 104, 105, 106, 107, 108, 109, 110, 111, 112, 113, 13, 114, 115, 116, 117, 118, 119, 120, 121, 122, 123, 124, 125, 126, 127, 128, 129, 130, 131, 132, 133, 134, 135, 136, 137, 138, 139, 140, 141, 142, 143, 144, 145, 146, 147, 148, 149, 150, 151, 152, 153, 154, 155, 156, 157, 158, 159, 160, 161, 162, 163, 164, 165, 166, 167, 168, 7, 8, 169, 170, 171, 172, 173, 174, 175, 176, 177, 178, 179, 180, 181, 182, 183, 184, 185, 186, 187, 188, 189, 190, 191, 192, 193, 194, 195, 196, 197, 198, 199, 200, 201, 202, 203, 204, 205, 206, 207, 208, 209, 210, 211, 212, 213, 214, 215, 216, 217, 218, 219, 220, 221, 222, 223, 224, 225, 226, 227, 228, 229, 230, 231, 232, 233, 234, 235, 236, 237, 238, 239, 240, 261, 262, 263, 264, 265, 266, 267, 268, 269, 270, 271, 276, 277, 278, 279, 280, 281, 282, 283, 284, 285, 286, 287, 288, 289, 290, 291, 292, 293, 294, 295, 296, 272, 273, 274, 275] (by decide +kernel) (by decide +kernel)) (goodIn_sub (fun _ h => List.mem_cons_of_mem _ (List.mem_append_left _ (List.mem_append_left _ (List.mem_append_right _ h)))) (by decide +kernel))) (goodIn_sub (fun _ h => List.mem_cons_of_mem _ (List.mem_append_left _ (List.mem_append_right _ h))) (by decide +kernel))) (goodIn_sub (fun _ h => List.mem_cons_of_mem _ (List.mem_append_right _ h)) (by decide +kernel))
set_option maxRecDepth 20000 in
theorem gL_isDaySo_L_does : GoodIn wsL_isDaySo (va_wsS RL 67 yL_does wsL_does) := goodIn_app (goodIn_of _ (by decide +kernel)) ggL_isDaySo_L_does
set_option maxRecDepth 20000 in
theorem ggL_isDaySo_X4_sellerOf : GoodIn wsL_isDaySo wsX4_sellerOf := goodIn_ca (goodIn_r _ [244, 7, 235, 237, 238, 239, 5, 240, 25, 26, 8, 261, 262, 263, 264, 265, 266, 267, 268, 269, 270, 271, 272, 273, 274, 275] (by decide +kernel) (by decide +kernel)) (goodIn_sub (fun _ h => List.mem_cons_of_mem _ (List.mem_append_left _ (List.mem_append_left _ (List.mem_append_right _ h)))) (by decide +kernel))
set_option maxRecDepth 20000 in
theorem gL_isDaySo_X4_sellerOf : GoodIn wsL_isDaySo (wsV RL 111 RX4 yX4_sellerOf wsX4_sellerOf) := goodIn_app (goodIn_of _ (by decide +kernel)) ggL_isDaySo_X4_sellerOf
set_option maxRecDepth 20000 in
theorem ggL_isDaySo_L_balance : GoodIn wsL_isDaySo wsL_balance := goodIn_ca (goodIn_r _ [247, 18, 1, 248, 249, 250, 5, 251, 29, 135, 45, 46, 47, 48, 25, 26, 30, 261, 262, 263, 264, 265, 266, 267, 268, 269, 270, 271, 276, 277, 278, 279, 280, 281, 282, 283, 284] (by decide +kernel) (by decide +kernel)) (goodIn_sub (fun _ h => List.mem_cons_of_mem _ (List.mem_append_left _ (List.mem_append_left _ (List.mem_append_right _ h)))) (by decide +kernel))
set_option maxRecDepth 20000 in
theorem gL_isDaySo_L_balance : GoodIn wsL_isDaySo (va_wsS RL 96 yL_balance wsL_balance) := goodIn_app (goodIn_of _ (by decide +kernel)) ggL_isDaySo_L_balance
set_option maxRecDepth 20000 in
theorem ggL_isDaySo_X4_balance : GoodIn wsL_isDaySo wsX4_balance := goodIn_ca (goodIn_r _ [251, 29, 135, 45, 46, 47, 5, 48, 25, 26, 30, 261, 262, 263, 264, 265, 266, 267, 268, 269, 270, 271, 276, 277, 278, 279, 280, 281, 282, 283, 284] (by decide +kernel) (by decide +kernel)) (goodIn_sub (fun _ h => List.mem_cons_of_mem _ (List.mem_append_left _ (List.mem_append_left _ (List.mem_append_right _ h)))) (by decide +kernel))
set_option maxRecDepth 20000 in
theorem gL_isDaySo_X4_balance : GoodIn wsL_isDaySo (wsV RL 61 RX4 yX4_balance wsX4_balance) := goodIn_app (goodIn_of _ (by decide +kernel)) ggL_isDaySo_X4_balance
set_option maxRecDepth 20000 in
theorem ggL_isDaySo_X4_reserve : GoodIn wsL_isDaySo wsX4_reserve := goodIn_ca (goodIn_r _ [255, 99, 45, 46, 47, 5, 48, 25, 26, 29, 30, 256, 257, 258, 126, 259, 128, 129, 260, 261, 262, 263, 264, 265, 266, 267, 268, 269, 270, 271, 276, 277, 278, 279, 280, 281, 282, 283, 284, 285, 286, 287, 288, 289, 290, 291, 292] (by decide +kernel) (by decide +kernel)) (goodIn_sub (fun _ h => List.mem_cons_of_mem _ (List.mem_append_left _ (List.mem_append_left _ (List.mem_append_right _ h)))) (by decide +kernel))
set_option maxRecDepth 20000 in
theorem gL_isDaySo_X4_reserve : GoodIn wsL_isDaySo (wsV RL 99 RX4 yX4_reserve wsX4_reserve) := goodIn_app (goodIn_of _ (by decide +kernel)) ggL_isDaySo_X4_reserve
theorem dL_isDaySo_0 : decode cL_isDaySo 0 = .ok (.aload_n 0, 1) := by decide +kernel
theorem dL_isDaySo_1 : decode cL_isDaySo 1 = .ok (.invokevirtual 81, 3) := by decide +kernel
theorem dL_isDaySo_4 : decode cL_isDaySo 4 = .ok (.istore_n 2, 1) := by decide +kernel
theorem dL_isDaySo_5 : decode cL_isDaySo 5 = .ok (.aload_n 0, 1) := by decide +kernel
theorem dL_isDaySo_6 : decode cL_isDaySo 6 = .ok (.invokevirtual 77, 3) := by decide +kernel
theorem dL_isDaySo_9 : decode cL_isDaySo 9 = .ok (.istore_n 3, 1) := by decide +kernel
theorem dL_isDaySo_10 : decode cL_isDaySo 10 = .ok (.aload_n 0, 1) := by decide +kernel
theorem dL_isDaySo_11 : decode cL_isDaySo 11 = .ok (.bipush 8, 2) := by decide +kernel
theorem dL_isDaySo_13 : decode cL_isDaySo 13 = .ok (.iconst 1, 1) := by decide +kernel
theorem dL_isDaySo_14 : decode cL_isDaySo 14 = .ok (.iconst 0, 1) := by decide +kernel
theorem dL_isDaySo_15 : decode cL_isDaySo 15 = .ok (.iconst 0, 1) := by decide +kernel
theorem dL_isDaySo_16 : decode cL_isDaySo 16 = .ok (.invokestatic 67, 3) := by decide +kernel
theorem dL_isDaySo_19 : decode cL_isDaySo 19 = .ok (.istore 4, 2) := by decide +kernel
theorem dL_isDaySo_21 : decode cL_isDaySo 21 = .ok (.iload 4, 2) := by decide +kernel
theorem dL_isDaySo_23 : decode cL_isDaySo 23 = .ok (.ldc 45, 2) := by decide +kernel
theorem dL_isDaySo_25 : decode cL_isDaySo 25 = .ok (.if_icmp .ne 33, 3) := by decide +kernel
theorem dL_isDaySo_28 : decode cL_isDaySo 28 = .ok (.aload_n 1, 1) := by decide +kernel
theorem dL_isDaySo_29 : decode cL_isDaySo 29 = .ok (.bipush 8, 2) := by decide +kernel
theorem dL_isDaySo_31 : decode cL_isDaySo 31 = .ok (.iconst 1, 1) := by decide +kernel
theorem dL_isDaySo_32 : decode cL_isDaySo 32 = .ok (.iconst 0, 1) := by decide +kernel
theorem dL_isDaySo_33 : decode cL_isDaySo 33 = .ok (.iconst 0, 1) := by decide +kernel
theorem dL_isDaySo_34 : decode cL_isDaySo 34 = .ok (.invokestatic 67, 3) := by decide +kernel
theorem dL_isDaySo_37 : decode cL_isDaySo 37 = .ok (.iload 4, 2) := by decide +kernel
theorem dL_isDaySo_39 : decode cL_isDaySo 39 = .ok (.if_icmp .ne 17, 3) := by decide +kernel
theorem dL_isDaySo_42 : decode cL_isDaySo 42 = .ok (.aload_n 0, 1) := by decide +kernel
theorem dL_isDaySo_43 : decode cL_isDaySo 43 = .ok (.invokevirtual 77, 3) := by decide +kernel
theorem dL_isDaySo_46 : decode cL_isDaySo 46 = .ok (.sipush 5000, 3) := by decide +kernel
theorem dL_isDaySo_49 : decode cL_isDaySo 49 = .ok (.if_icmp .ne 7, 3) := by decide +kernel
theorem dL_isDaySo_52 : decode cL_isDaySo 52 = .ok (.iconst 1, 1) := by decide +kernel
theorem dL_isDaySo_53 : decode cL_isDaySo 53 = .ok (.goto 4, 3) := by decide +kernel
theorem dL_isDaySo_56 : decode cL_isDaySo 56 = .ok (.iconst 0, 1) := by decide +kernel
theorem dL_isDaySo_57 : decode cL_isDaySo 57 = .ok (.ireturn, 1) := by decide +kernel
theorem dL_isDaySo_58 : decode cL_isDaySo 58 = .ok (.iload 4, 2) := by decide +kernel
theorem dL_isDaySo_60 : decode cL_isDaySo 60 = .ok (.ifCond .lt 49, 3) := by decide +kernel
theorem dL_isDaySo_63 : decode cL_isDaySo 63 = .ok (.aload_n 1, 1) := by decide +kernel
theorem dL_isDaySo_64 : decode cL_isDaySo 64 = .ok (.bipush 8, 2) := by decide +kernel
theorem dL_isDaySo_66 : decode cL_isDaySo 66 = .ok (.iconst 1, 1) := by decide +kernel
theorem dL_isDaySo_67 : decode cL_isDaySo 67 = .ok (.iconst 0, 1) := by decide +kernel
theorem dL_isDaySo_68 : decode cL_isDaySo 68 = .ok (.iconst 0, 1) := by decide +kernel
theorem dL_isDaySo_69 : decode cL_isDaySo 69 = .ok (.invokestatic 67, 3) := by decide +kernel
theorem dL_isDaySo_72 : decode cL_isDaySo 72 = .ok (.iload 4, 2) := by decide +kernel
theorem dL_isDaySo_74 : decode cL_isDaySo 74 = .ok (.if_icmp .ne 35, 3) := by decide +kernel
theorem dL_isDaySo_77 : decode cL_isDaySo 77 = .ok (.aload_n 0, 1) := by decide +kernel
theorem dL_isDaySo_78 : decode cL_isDaySo 78 = .ok (.invokevirtual 77, 3) := by decide +kernel
theorem dL_isDaySo_81 : decode cL_isDaySo 81 = .ok (.iload_n 3, 1) := by decide +kernel
theorem dL_isDaySo_82 : decode cL_isDaySo 82 = .ok (.iconst 1, 1) := by decide +kernel
theorem dL_isDaySo_83 : decode cL_isDaySo 83 = .ok (.iadd, 1) := by decide +kernel
theorem dL_isDaySo_84 : decode cL_isDaySo 84 = .ok (.if_icmp .ne 25, 3) := by decide +kernel
theorem dL_isDaySo_87 : decode cL_isDaySo 87 = .ok (.aload_n 0, 1) := by decide +kernel
theorem dL_isDaySo_88 : decode cL_isDaySo 88 = .ok (.invokevirtual 81, 3) := by decide +kernel
theorem dL_isDaySo_91 : decode cL_isDaySo 91 = .ok (.iload_n 2, 1) := by decide +kernel
theorem dL_isDaySo_92 : decode cL_isDaySo 92 = .ok (.iload 4, 2) := by decide +kernel
theorem dL_isDaySo_94 : decode cL_isDaySo 94 = .ok (.iadd, 1) := by decide +kernel
theorem dL_isDaySo_95 : decode cL_isDaySo 95 = .ok (.if_icmp .ne 14, 3) := by decide +kernel
theorem dL_isDaySo_98 : decode cL_isDaySo 98 = .ok (.iload 4, 2) := by decide +kernel
theorem dL_isDaySo_100 : decode cL_isDaySo 100 = .ok (.bipush 8, 2) := by decide +kernel
theorem dL_isDaySo_102 : decode cL_isDaySo 102 = .ok (.if_icmp .gt 7, 3) := by decide +kernel
theorem dL_isDaySo_105 : decode cL_isDaySo 105 = .ok (.iconst 1, 1) := by decide +kernel
theorem dL_isDaySo_106 : decode cL_isDaySo 106 = .ok (.goto 4, 3) := by decide +kernel
theorem dL_isDaySo_109 : decode cL_isDaySo 109 = .ok (.iconst 0, 1) := by decide +kernel
theorem dL_isDaySo_110 : decode cL_isDaySo 110 = .ok (.istore 5, 2) := by decide +kernel
theorem dL_isDaySo_112 : decode cL_isDaySo 112 = .ok (.iload_n 2, 1) := by decide +kernel
theorem dL_isDaySo_113 : decode cL_isDaySo 113 = .ok (.iconst 1, 1) := by decide +kernel
theorem dL_isDaySo_114 : decode cL_isDaySo 114 = .ok (.iadd, 1) := by decide +kernel
theorem dL_isDaySo_115 : decode cL_isDaySo 115 = .ok (.istore 6, 2) := by decide +kernel
theorem dL_isDaySo_117 : decode cL_isDaySo 117 = .ok (.iload 6, 2) := by decide +kernel
theorem dL_isDaySo_119 : decode cL_isDaySo 119 = .ok (.aload_n 0, 1) := by decide +kernel
theorem dL_isDaySo_120 : decode cL_isDaySo 120 = .ok (.invokevirtual 81, 3) := by decide +kernel
theorem dL_isDaySo_123 : decode cL_isDaySo 123 = .ok (.if_icmp .ge 38, 3) := by decide +kernel
theorem dL_isDaySo_126 : decode cL_isDaySo 126 = .ok (.iload 5, 2) := by decide +kernel
theorem dL_isDaySo_128 : decode cL_isDaySo 128 = .ok (.ifCond .eq 33, 3) := by decide +kernel
theorem dL_isDaySo_131 : decode cL_isDaySo 131 = .ok (.aload_n 0, 1) := by decide +kernel
theorem dL_isDaySo_132 : decode cL_isDaySo 132 = .ok (.iload 6, 2) := by decide +kernel
theorem dL_isDaySo_134 : decode cL_isDaySo 134 = .ok (.invokevirtual 111, 3) := by decide +kernel
theorem dL_isDaySo_137 : decode cL_isDaySo 137 = .ok (.aload_n 0, 1) := by decide +kernel
theorem dL_isDaySo_138 : decode cL_isDaySo 138 = .ok (.iload 6, 2) := by decide +kernel
theorem dL_isDaySo_140 : decode cL_isDaySo 140 = .ok (.iconst 1, 1) := by decide +kernel
theorem dL_isDaySo_141 : decode cL_isDaySo 141 = .ok (.isub, 1) := by decide +kernel
theorem dL_isDaySo_142 : decode cL_isDaySo 142 = .ok (.invokevirtual 111, 3) := by decide +kernel
theorem dL_isDaySo_145 : decode cL_isDaySo 145 = .ok (.if_icmp .le 7, 3) := by decide +kernel
theorem dL_isDaySo_148 : decode cL_isDaySo 148 = .ok (.iconst 1, 1) := by decide +kernel
theorem dL_isDaySo_149 : decode cL_isDaySo 149 = .ok (.goto 4, 3) := by decide +kernel
theorem dL_isDaySo_152 : decode cL_isDaySo 152 = .ok (.iconst 0, 1) := by decide +kernel
theorem dL_isDaySo_153 : decode cL_isDaySo 153 = .ok (.istore 5, 2) := by decide +kernel
theorem dL_isDaySo_155 : decode cL_isDaySo 155 = .ok (.iinc 6 1, 3) := by decide +kernel
theorem dL_isDaySo_158 : decode cL_isDaySo 158 = .ok (.goto (-41), 3) := by decide +kernel
theorem dL_isDaySo_161 : decode cL_isDaySo 161 = .ok (.iconst 0, 1) := by decide +kernel
theorem dL_isDaySo_162 : decode cL_isDaySo 162 = .ok (.istore 6, 2) := by decide +kernel
theorem dL_isDaySo_164 : decode cL_isDaySo 164 = .ok (.iload 6, 2) := by decide +kernel
theorem dL_isDaySo_166 : decode cL_isDaySo 166 = .ok (.bipush 8, 2) := by decide +kernel
theorem dL_isDaySo_168 : decode cL_isDaySo 168 = .ok (.if_icmp .ge 50, 3) := by decide +kernel
theorem dL_isDaySo_171 : decode cL_isDaySo 171 = .ok (.aload_n 0, 1) := by decide +kernel
theorem dL_isDaySo_172 : decode cL_isDaySo 172 = .ok (.iload 6, 2) := by decide +kernel
theorem dL_isDaySo_174 : decode cL_isDaySo 174 = .ok (.invokestatic 96, 3) := by decide +kernel
theorem dL_isDaySo_177 : decode cL_isDaySo 177 = .ok (.ldc 45, 2) := by decide +kernel
theorem dL_isDaySo_179 : decode cL_isDaySo 179 = .ok (.if_icmp .eq 39, 3) := by decide +kernel
theorem dL_isDaySo_182 : decode cL_isDaySo 182 = .ok (.iload 5, 2) := by decide +kernel
theorem dL_isDaySo_184 : decode cL_isDaySo 184 = .ok (.ifCond .eq 34, 3) := by decide +kernel
theorem dL_isDaySo_187 : decode cL_isDaySo 187 = .ok (.aload_n 0, 1) := by decide +kernel
theorem dL_isDaySo_188 : decode cL_isDaySo 188 = .ok (.iload 6, 2) := by decide +kernel
theorem dL_isDaySo_190 : decode cL_isDaySo 190 = .ok (.invokevirtual 61, 3) := by decide +kernel
theorem dL_isDaySo_193 : decode cL_isDaySo 193 = .ok (.ifCond .ge 12, 3) := by decide +kernel
theorem dL_isDaySo_196 : decode cL_isDaySo 196 = .ok (.aload_n 0, 1) := by decide +kernel
theorem dL_isDaySo_197 : decode cL_isDaySo 197 = .ok (.iload 6, 2) := by decide +kernel
theorem dL_isDaySo_199 : decode cL_isDaySo 199 = .ok (.invokevirtual 99, 3) := by decide +kernel
theorem dL_isDaySo_202 : decode cL_isDaySo 202 = .ok (.ifCond .ne 7, 3) := by decide +kernel
theorem dL_isDaySo_205 : decode cL_isDaySo 205 = .ok (.iconst 1, 1) := by decide +kernel
theorem dL_isDaySo_206 : decode cL_isDaySo 206 = .ok (.goto 4, 3) := by decide +kernel
theorem dL_isDaySo_209 : decode cL_isDaySo 209 = .ok (.iconst 0, 1) := by decide +kernel
theorem dL_isDaySo_210 : decode cL_isDaySo 210 = .ok (.istore 5, 2) := by decide +kernel
theorem dL_isDaySo_212 : decode cL_isDaySo 212 = .ok (.iinc 6 1, 3) := by decide +kernel
theorem dL_isDaySo_215 : decode cL_isDaySo 215 = .ok (.goto (-51), 3) := by decide +kernel
theorem dL_isDaySo_218 : decode cL_isDaySo 218 = .ok (.iload 5, 2) := by decide +kernel
theorem dL_isDaySo_220 : decode cL_isDaySo 220 = .ok (.ireturn, 1) := by decide +kernel
set_option maxRecDepth 20000 in
theorem ggL_isRefundedSo_X4_fees : GoodIn wsL_isRefundedSo wsX4_fees := goodIn_r _ [6, 7, 266, 267, 268, 269, 270, 271, 272, 273, 274, 275, 276] (by decide +kernel) (by decide +kernel)
set_option maxRecDepth 20000 in
theorem gL_isRefundedSo_X4_fees : GoodIn wsL_isRefundedSo (wsV RL 90 RX4 yX4_fees wsX4_fees) := goodIn_app (goodIn_of _ (by decide +kernel)) ggL_isRefundedSo_X4_fees
set_option maxRecDepth 20000 in
theorem ggL_isRefundedSo_X4_taxes : GoodIn wsL_isRefundedSo wsX4_taxes := goodIn_r _ [11, 12, 266, 267, 268, 269, 270, 271, 272, 273, 274, 275, 276] (by decide +kernel) (by decide +kernel)
set_option maxRecDepth 20000 in
theorem gL_isRefundedSo_X4_taxes : GoodIn wsL_isRefundedSo (wsV RL 93 RX4 yX4_taxes wsX4_taxes) := goodIn_app (goodIn_of _ (by decide +kernel)) ggL_isRefundedSo_X4_taxes
set_option maxRecDepth 20000 in
theorem ggL_isRefundedSo_L_balance : GoodIn wsL_isRefundedSo wsL_balance := goodIn_ca (goodIn_r _ [16, 17, 1, 18, 19, 20, 5, 21, 22, 23, 24, 25, 26, 27, 28, 29, 30, 266, 267, 268, 269, 270, 271, 272, 273, 274, 275, 276, 277, 278, 279, 280, 281, 282, 283, 284, 285] (by decide +kernel) (by decide +kernel)) (goodIn_sub (fun _ h => List.mem_cons_of_mem _ (List.mem_append_left _ (List.mem_append_left _ (List.mem_append_right _ h)))) (by decide +kernel))
set_option maxRecDepth 20000 in
theorem gL_isRefundedSo_L_balance : GoodIn wsL_isRefundedSo (va_wsS RL 96 yL_balance wsL_balance) := goodIn_app (goodIn_of _ (by decide +kernel)) ggL_isRefundedSo_L_balance
set_option maxRecDepth 20000 in
theorem ggL_isRefundedSo_X4_reserve : GoodIn wsL_isRefundedSo wsX4_reserve := goodIn_ca (goodIn_r _ [34, 35, 24, 25, 26, 5, 27, 28, 29, 22, 30, 36, 37, 38, 39, 40, 41, 42, 43, 266, 267, 268, 269, 270, 271, 272, 273, 274, 275, 276, 277, 278, 279, 280, 281, 282, 283, 284, 285, 286, 287, 288, 289, 290, 291, 292, 293] (by decide +kernel) (by decide +kernel)) (goodIn_sub (fun _ h => List.mem_cons_of_mem _ (List.mem_append_left _ (List.mem_append_left _ (List.mem_append_right _ h)))) (by decide +kernel))
set_option maxRecDepth 20000 in
theorem gL_isRefundedSo_X4_reserve : GoodIn wsL_isRefundedSo (wsV RL 99 RX4 yX4_reserve wsX4_reserve) := goodIn_app (goodIn_of _ (by decide +kernel)) ggL_isRefundedSo_X4_reserve
set_option maxRecDepth 20000 in
theorem ggL_isRefundedSo_L_does : GoodIn wsL_isRefundedSo wsL_does := goodIn_ca (goodIn_ca (goodIn_ca (goodIn_r _ [46, 17, 47, 48, 1, 49, 50, 51, 5, 52, 28, 29, 53, 54, 22, 30, 55, 56, 57, 58, 59, 60, 61, 62, 63, 64, 65, 66, 67, 68, 24, 25, 26, 27, 69, 70, 71, 72, 73, 74, 75, 15, 76, 77, 78, 79, 80, 81, 82, 83, 84, 85, 86, 87, 88, 89, 90, 91, 92, 93, 94, 95, 96, 97, 98, 99, 100, 101, 102, 103, 104, 105, 106, 107, 108, 109, 110, 111, 112, 113, 114, 115, 116, 117, 118, 35, 119, 120, 121, 122, 123, 124, 125, 126, 127, 128, 129, 130, 131, 132, 133, 134, 12, 7, 135, 136, 137, 138, 139, 140, 141, 142, 143, 39, 144, 41, 42, 145, 146, 147, 148, 149, 23, 150, 151, 152, 153, 154, 155, 156, 157, 158, 159, 160, 161, 162, 163, 164, 165, 166, 167, 168, 169, 170, 171, 172, 173, 174, 175, 176, 177, 178, 179, 180, 181, 182, 183, 184, 185, 186, 187, 188, 189, 190, 191, 192, 193, 194, 195, 196, 197, 198, 199, 200, 201, 202, 203, 204, 205, 206, 207, 208, 209, 210, 211, 212, 213, 214, 215, 216, 217, 218, 219, 220, 221, 222, 223, 224, 225, 226, 227, 228, 229, 230, 231, 232, 233, 234, 235, 236, 237, 238, 239, 240, 241, 242, 243, 244, 245, 246, 247, 248, 249, 250, 251, 252, 253, 254, 255, 256, 266, 267, 268, 269, 270, 271, 272, 273, 274, 275, 276, 277, 278, 279, 280, 281, 282, 283, 284, 285, 286, 287, 288, 289, 290, 291, 292, 293, 294, 295, 296, 297, 298, 299, 300, 301] (by decide +kernel) (by decide +kernel)) (goodIn_sub (fun _ h => List.mem_cons_of_mem _ (List.mem_append_left _ (List.mem_append_left _ (List.mem_append_right _ h)))) (by decide +kernel))) (goodIn_sub (fun _ h => List.mem_cons_of_mem _ (List.mem_append_left _ (List.mem_append_right _ h))) (by decide +kernel))) (goodIn_sub (fun _ h => List.mem_cons_of_mem _ (List.mem_append_right _ h)) (by decide +kernel))
set_option maxRecDepth 20000 in
theorem gL_isRefundedSo_L_does : GoodIn wsL_isRefundedSo (va_wsS RL 67 yL_does wsL_does) := goodIn_app (goodIn_of _ (by decide +kernel)) ggL_isRefundedSo_L_does
set_option maxRecDepth 20000 in
theorem ggL_isRefundedSo_L_refund : GoodIn wsL_isRefundedSo wsL_refund := goodIn_ca (goodIn_ca (goodIn_ca (goodIn_r _ [259, 17, 47, 48, 1, 260, 261, 262, 5, 263, 28, 29, 53, 54, 35, 119, 81, 264, 197, 129, 128, 130, 124, 125, 126, 127, 265, 12, 7, 22, 23, 69, 70, 71, 72, 73, 135, 136, 137, 138, 139, 140, 146, 147, 148, 149, 150, 151, 152, 153, 154, 155, 156, 157, 158, 159, 160, 161, 162, 163, 266, 267, 268, 269, 270, 271, 272, 273, 274, 275, 276, 286, 287, 288, 289, 290, 291, 292, 293, 277, 278, 279, 280, 281, 282, 283, 284, 285, 294, 295, 296, 297] (by decide +kernel) (by decide +kernel)) (goodIn_sub (fun _ h => List.mem_cons_of_mem _ (List.mem_append_left _ (List.mem_append_left _ (List.mem_append_right _ h)))) (by decide +kernel))) (goodIn_sub (fun _ h => List.mem_cons_of_mem _ (List.mem_append_left _ (List.mem_append_right _ h))) (by decide +kernel))) (goodIn_sub (fun _ h => List.mem_cons_of_mem _ (List.mem_append_right _ h)) (by decide +kernel))
set_option maxRecDepth 20000 in
theorem gL_isRefundedSo_L_refund : GoodIn wsL_isRefundedSo (va_wsS RL 74 yL_refund wsL_refund) := goodIn_app (goodIn_of _ (by decide +kernel)) ggL_isRefundedSo_L_refund
set_option maxRecDepth 20000 in
theorem ggL_isRefundedSo_X4_balance : GoodIn wsL_isRefundedSo wsX4_balance := goodIn_ca (goodIn_r _ [21, 22, 23, 24, 25, 26, 5, 27, 28, 29, 30, 266, 267, 268, 269, 270, 271, 272, 273, 274, 275, 276, 277, 278, 279, 280, 281, 282, 283, 284, 285] (by decide +kernel) (by decide +kernel)) (goodIn_sub (fun _ h => List.mem_cons_of_mem _ (List.mem_append_left _ (List.mem_append_left _ (List.mem_append_right _ h)))) (by decide +kernel))
set_option maxRecDepth 20000 in
theorem gL_isRefundedSo_X4_balance : GoodIn wsL_isRefundedSo (wsV RL 61 RX4 yX4_balance wsX4_balance) := goodIn_app (goodIn_of _ (by decide +kernel)) ggL_isRefundedSo_X4_balance
theorem dL_isRefundedSo_0 : decode cL_isRefundedSo 0 = .ok (.aload_n 0, 1) := by decide +kernel
theorem dL_isRefundedSo_1 : decode cL_isRefundedSo 1 = .ok (.invokevirtual 90, 3) := by decide +kernel
theorem dL_isRefundedSo_4 : decode cL_isRefundedSo 4 = .ok (.istore 5, 2) := by decide +kernel
theorem dL_isRefundedSo_6 : decode cL_isRefundedSo 6 = .ok (.aload_n 0, 1) := by decide +kernel
theorem dL_isRefundedSo_7 : decode cL_isRefundedSo 7 = .ok (.invokevirtual 93, 3) := by decide +kernel
theorem dL_isRefundedSo_10 : decode cL_isRefundedSo 10 = .ok (.istore 6, 2) := by decide +kernel
theorem dL_isRefundedSo_12 : decode cL_isRefundedSo 12 = .ok (.aload_n 0, 1) := by decide +kernel
theorem dL_isRefundedSo_13 : decode cL_isRefundedSo 13 = .ok (.iload_n 2, 1) := by decide +kernel
theorem dL_isRefundedSo_14 : decode cL_isRefundedSo 14 = .ok (.invokestatic 96, 3) := by decide +kernel
theorem dL_isRefundedSo_17 : decode cL_isRefundedSo 17 = .ok (.istore 7, 2) := by decide +kernel
theorem dL_isRefundedSo_19 : decode cL_isRefundedSo 19 = .ok (.iload 7, 2) := by decide +kernel
theorem dL_isRefundedSo_21 : decode cL_isRefundedSo 21 = .ok (.ldc 45, 2) := by decide +kernel
theorem dL_isRefundedSo_23 : decode cL_isRefundedSo 23 = .ok (.if_icmp .ne 19, 3) := by decide +kernel
theorem dL_isRefundedSo_26 : decode cL_isRefundedSo 26 = .ok (.aload_n 1, 1) := by decide +kernel
theorem dL_isRefundedSo_27 : decode cL_isRefundedSo 27 = .ok (.iload_n 2, 1) := by decide +kernel
theorem dL_isRefundedSo_28 : decode cL_isRefundedSo 28 = .ok (.invokestatic 96, 3) := by decide +kernel
theorem dL_isRefundedSo_31 : decode cL_isRefundedSo 31 = .ok (.iload 7, 2) := by decide +kernel
theorem dL_isRefundedSo_33 : decode cL_isRefundedSo 33 = .ok (.if_icmp .ne 7, 3) := by decide +kernel
theorem dL_isRefundedSo_36 : decode cL_isRefundedSo 36 = .ok (.iconst 1, 1) := by decide +kernel
theorem dL_isRefundedSo_37 : decode cL_isRefundedSo 37 = .ok (.goto 4, 3) := by decide +kernel
theorem dL_isRefundedSo_40 : decode cL_isRefundedSo 40 = .ok (.iconst 0, 1) := by decide +kernel
theorem dL_isRefundedSo_41 : decode cL_isRefundedSo 41 = .ok (.ireturn, 1) := by decide +kernel
theorem dL_isRefundedSo_42 : decode cL_isRefundedSo 42 = .ok (.aload_n 0, 1) := by decide +kernel
theorem dL_isRefundedSo_43 : decode cL_isRefundedSo 43 = .ok (.iload_n 2, 1) := by decide +kernel
theorem dL_isRefundedSo_44 : decode cL_isRefundedSo 44 = .ok (.invokevirtual 99, 3) := by decide +kernel
theorem dL_isRefundedSo_47 : decode cL_isRefundedSo 47 = .ok (.istore 8, 2) := by decide +kernel
theorem dL_isRefundedSo_49 : decode cL_isRefundedSo 49 = .ok (.aload_n 0, 1) := by decide +kernel
theorem dL_isRefundedSo_50 : decode cL_isRefundedSo 50 = .ok (.bipush 6, 2) := by decide +kernel
theorem dL_isRefundedSo_52 : decode cL_isRefundedSo 52 = .ok (.iload_n 2, 1) := by decide +kernel
theorem dL_isRefundedSo_53 : decode cL_isRefundedSo 53 = .ok (.iload_n 3, 1) := by decide +kernel
theorem dL_isRefundedSo_54 : decode cL_isRefundedSo 54 = .ok (.iload 4, 2) := by decide +kernel
theorem dL_isRefundedSo_56 : decode cL_isRefundedSo 56 = .ok (.invokestatic 67, 3) := by decide +kernel
theorem dL_isRefundedSo_59 : decode cL_isRefundedSo 59 = .ok (.istore 9, 2) := by decide +kernel
theorem dL_isRefundedSo_61 : decode cL_isRefundedSo 61 = .ok (.aload_n 1, 1) := by decide +kernel
theorem dL_isRefundedSo_62 : decode cL_isRefundedSo 62 = .ok (.bipush 6, 2) := by decide +kernel
theorem dL_isRefundedSo_64 : decode cL_isRefundedSo 64 = .ok (.iload_n 2, 1) := by decide +kernel
theorem dL_isRefundedSo_65 : decode cL_isRefundedSo 65 = .ok (.iload_n 3, 1) := by decide +kernel
theorem dL_isRefundedSo_66 : decode cL_isRefundedSo 66 = .ok (.iload 4, 2) := by decide +kernel
theorem dL_isRefundedSo_68 : decode cL_isRefundedSo 68 = .ok (.invokestatic 67, 3) := by decide +kernel
theorem dL_isRefundedSo_71 : decode cL_isRefundedSo 71 = .ok (.iload 9, 2) := by decide +kernel
theorem dL_isRefundedSo_73 : decode cL_isRefundedSo 73 = .ok (.if_icmp .ne 7, 3) := by decide +kernel
theorem dL_isRefundedSo_76 : decode cL_isRefundedSo 76 = .ok (.iconst 1, 1) := by decide +kernel
theorem dL_isRefundedSo_77 : decode cL_isRefundedSo 77 = .ok (.goto 4, 3) := by decide +kernel
theorem dL_isRefundedSo_80 : decode cL_isRefundedSo 80 = .ok (.iconst 0, 1) := by decide +kernel
theorem dL_isRefundedSo_81 : decode cL_isRefundedSo 81 = .ok (.istore 10, 2) := by decide +kernel
theorem dL_isRefundedSo_83 : decode cL_isRefundedSo 83 = .ok (.iload 9, 2) := by decide +kernel
theorem dL_isRefundedSo_85 : decode cL_isRefundedSo 85 = .ok (.ifCond .ge 6, 3) := by decide +kernel
theorem dL_isRefundedSo_88 : decode cL_isRefundedSo 88 = .ok (.iload 10, 2) := by decide +kernel
theorem dL_isRefundedSo_90 : decode cL_isRefundedSo 90 = .ok (.ireturn, 1) := by decide +kernel
theorem dL_isRefundedSo_91 : decode cL_isRefundedSo 91 = .ok (.iload 10, 2) := by decide +kernel
theorem dL_isRefundedSo_93 : decode cL_isRefundedSo 93 = .ok (.ifCond .eq 45, 3) := by decide +kernel
theorem dL_isRefundedSo_96 : decode cL_isRefundedSo 96 = .ok (.aload_n 0, 1) := by decide +kernel
theorem dL_isRefundedSo_97 : decode cL_isRefundedSo 97 = .ok (.invokevirtual 90, 3) := by decide +kernel
theorem dL_isRefundedSo_100 : decode cL_isRefundedSo 100 = .ok (.iload 5, 2) := by decide +kernel
theorem dL_isRefundedSo_102 : decode cL_isRefundedSo 102 = .ok (.if_icmp .lt 36, 3) := by decide +kernel
theorem dL_isRefundedSo_105 : decode cL_isRefundedSo 105 = .ok (.aload_n 0, 1) := by decide +kernel
theorem dL_isRefundedSo_106 : decode cL_isRefundedSo 106 = .ok (.invokevirtual 93, 3) := by decide +kernel
theorem dL_isRefundedSo_109 : decode cL_isRefundedSo 109 = .ok (.iload 6, 2) := by decide +kernel
theorem dL_isRefundedSo_111 : decode cL_isRefundedSo 111 = .ok (.if_icmp .lt 27, 3) := by decide +kernel
theorem dL_isRefundedSo_114 : decode cL_isRefundedSo 114 = .ok (.aload_n 0, 1) := by decide +kernel
theorem dL_isRefundedSo_115 : decode cL_isRefundedSo 115 = .ok (.invokevirtual 90, 3) := by decide +kernel
theorem dL_isRefundedSo_118 : decode cL_isRefundedSo 118 = .ok (.aload_n 0, 1) := by decide +kernel
theorem dL_isRefundedSo_119 : decode cL_isRefundedSo 119 = .ok (.invokevirtual 93, 3) := by decide +kernel
theorem dL_isRefundedSo_122 : decode cL_isRefundedSo 122 = .ok (.iadd, 1) := by decide +kernel
theorem dL_isRefundedSo_123 : decode cL_isRefundedSo 123 = .ok (.iload 5, 2) := by decide +kernel
theorem dL_isRefundedSo_125 : decode cL_isRefundedSo 125 = .ok (.iload 6, 2) := by decide +kernel
theorem dL_isRefundedSo_127 : decode cL_isRefundedSo 127 = .ok (.iadd, 1) := by decide +kernel
theorem dL_isRefundedSo_128 : decode cL_isRefundedSo 128 = .ok (.iload 4, 2) := by decide +kernel
theorem dL_isRefundedSo_130 : decode cL_isRefundedSo 130 = .ok (.iadd, 1) := by decide +kernel
theorem dL_isRefundedSo_131 : decode cL_isRefundedSo 131 = .ok (.if_icmp .gt 7, 3) := by decide +kernel
theorem dL_isRefundedSo_134 : decode cL_isRefundedSo 134 = .ok (.iconst 1, 1) := by decide +kernel
theorem dL_isRefundedSo_135 : decode cL_isRefundedSo 135 = .ok (.goto 4, 3) := by decide +kernel
theorem dL_isRefundedSo_138 : decode cL_isRefundedSo 138 = .ok (.iconst 0, 1) := by decide +kernel
theorem dL_isRefundedSo_139 : decode cL_isRefundedSo 139 = .ok (.istore 10, 2) := by decide +kernel
theorem dL_isRefundedSo_141 : decode cL_isRefundedSo 141 = .ok (.aload_n 0, 1) := by decide +kernel
theorem dL_isRefundedSo_142 : decode cL_isRefundedSo 142 = .ok (.iload 9, 2) := by decide +kernel
theorem dL_isRefundedSo_144 : decode cL_isRefundedSo 144 = .ok (.iload 4, 2) := by decide +kernel
theorem dL_isRefundedSo_146 : decode cL_isRefundedSo 146 = .ok (.iconst 1, 1) := by decide +kernel
theorem dL_isRefundedSo_147 : decode cL_isRefundedSo 147 = .ok (.invokestatic 74, 3) := by decide +kernel
theorem dL_isRefundedSo_150 : decode cL_isRefundedSo 150 = .ok (.istore 11, 2) := by decide +kernel
theorem dL_isRefundedSo_152 : decode cL_isRefundedSo 152 = .ok (.iload 10, 2) := by decide +kernel
theorem dL_isRefundedSo_154 : decode cL_isRefundedSo 154 = .ok (.ifCond .eq 44, 3) := by decide +kernel
theorem dL_isRefundedSo_157 : decode cL_isRefundedSo 157 = .ok (.aload_n 1, 1) := by decide +kernel
theorem dL_isRefundedSo_158 : decode cL_isRefundedSo 158 = .ok (.iload 9, 2) := by decide +kernel
theorem dL_isRefundedSo_160 : decode cL_isRefundedSo 160 = .ok (.iload 4, 2) := by decide +kernel
theorem dL_isRefundedSo_162 : decode cL_isRefundedSo 162 = .ok (.iconst 1, 1) := by decide +kernel
theorem dL_isRefundedSo_163 : decode cL_isRefundedSo 163 = .ok (.invokestatic 74, 3) := by decide +kernel
theorem dL_isRefundedSo_166 : decode cL_isRefundedSo 166 = .ok (.iload 11, 2) := by decide +kernel
theorem dL_isRefundedSo_168 : decode cL_isRefundedSo 168 = .ok (.if_icmp .ne 30, 3) := by decide +kernel
theorem dL_isRefundedSo_171 : decode cL_isRefundedSo 171 = .ok (.iload 11, 2) := by decide +kernel
theorem dL_isRefundedSo_173 : decode cL_isRefundedSo 173 = .ok (.aload_n 0, 1) := by decide +kernel
theorem dL_isRefundedSo_174 : decode cL_isRefundedSo 174 = .ok (.iload_n 2, 1) := by decide +kernel
theorem dL_isRefundedSo_175 : decode cL_isRefundedSo 175 = .ok (.invokevirtual 61, 3) := by decide +kernel
theorem dL_isRefundedSo_178 : decode cL_isRefundedSo 178 = .ok (.if_icmp .ne 20, 3) := by decide +kernel
theorem dL_isRefundedSo_181 : decode cL_isRefundedSo 181 = .ok (.aload_n 0, 1) := by decide +kernel
theorem dL_isRefundedSo_182 : decode cL_isRefundedSo 182 = .ok (.iload 9, 2) := by decide +kernel
theorem dL_isRefundedSo_184 : decode cL_isRefundedSo 184 = .ok (.iconst 1, 1) := by decide +kernel
theorem dL_isRefundedSo_185 : decode cL_isRefundedSo 185 = .ok (.iconst 1, 1) := by decide +kernel
theorem dL_isRefundedSo_186 : decode cL_isRefundedSo 186 = .ok (.invokestatic 74, 3) := by decide +kernel
theorem dL_isRefundedSo_189 : decode cL_isRefundedSo 189 = .ok (.ldc 45, 2) := by decide +kernel
theorem dL_isRefundedSo_191 : decode cL_isRefundedSo 191 = .ok (.if_icmp .ne 7, 3) := by decide +kernel
theorem dL_isRefundedSo_194 : decode cL_isRefundedSo 194 = .ok (.iconst 1, 1) := by decide +kernel
theorem dL_isRefundedSo_195 : decode cL_isRefundedSo 195 = .ok (.goto 4, 3) := by decide +kernel
theorem dL_isRefundedSo_198 : decode cL_isRefundedSo 198 = .ok (.iconst 0, 1) := by decide +kernel
theorem dL_isRefundedSo_199 : decode cL_isRefundedSo 199 = .ok (.istore 10, 2) := by decide +kernel
theorem dL_isRefundedSo_201 : decode cL_isRefundedSo 201 = .ok (.iload 10, 2) := by decide +kernel
theorem dL_isRefundedSo_203 : decode cL_isRefundedSo 203 = .ok (.ifCond .eq 44, 3) := by decide +kernel
theorem dL_isRefundedSo_206 : decode cL_isRefundedSo 206 = .ok (.aload_n 0, 1) := by decide +kernel
theorem dL_isRefundedSo_207 : decode cL_isRefundedSo 207 = .ok (.invokevirtual 90, 3) := by decide +kernel
theorem dL_isRefundedSo_210 : decode cL_isRefundedSo 210 = .ok (.iload 5, 2) := by decide +kernel
theorem dL_isRefundedSo_212 : decode cL_isRefundedSo 212 = .ok (.if_icmp .ne 35, 3) := by decide +kernel
theorem dL_isRefundedSo_215 : decode cL_isRefundedSo 215 = .ok (.aload_n 0, 1) := by decide +kernel
theorem dL_isRefundedSo_216 : decode cL_isRefundedSo 216 = .ok (.invokevirtual 93, 3) := by decide +kernel
theorem dL_isRefundedSo_219 : decode cL_isRefundedSo 219 = .ok (.iload 6, 2) := by decide +kernel
theorem dL_isRefundedSo_221 : decode cL_isRefundedSo 221 = .ok (.if_icmp .ne 26, 3) := by decide +kernel
theorem dL_isRefundedSo_224 : decode cL_isRefundedSo 224 = .ok (.aload_n 0, 1) := by decide +kernel
theorem dL_isRefundedSo_225 : decode cL_isRefundedSo 225 = .ok (.iload_n 2, 1) := by decide +kernel
theorem dL_isRefundedSo_226 : decode cL_isRefundedSo 226 = .ok (.invokevirtual 61, 3) := by decide +kernel
theorem dL_isRefundedSo_229 : decode cL_isRefundedSo 229 = .ok (.aload_n 0, 1) := by decide +kernel
theorem dL_isRefundedSo_230 : decode cL_isRefundedSo 230 = .ok (.iload_n 2, 1) := by decide +kernel
theorem dL_isRefundedSo_231 : decode cL_isRefundedSo 231 = .ok (.invokevirtual 99, 3) := by decide +kernel
theorem dL_isRefundedSo_234 : decode cL_isRefundedSo 234 = .ok (.iadd, 1) := by decide +kernel
theorem dL_isRefundedSo_235 : decode cL_isRefundedSo 235 = .ok (.iload 7, 2) := by decide +kernel
theorem dL_isRefundedSo_237 : decode cL_isRefundedSo 237 = .ok (.iload 8, 2) := by decide +kernel
theorem dL_isRefundedSo_239 : decode cL_isRefundedSo 239 = .ok (.iadd, 1) := by decide +kernel
theorem dL_isRefundedSo_240 : decode cL_isRefundedSo 240 = .ok (.if_icmp .ne 7, 3) := by decide +kernel
theorem dL_isRefundedSo_243 : decode cL_isRefundedSo 243 = .ok (.iconst 1, 1) := by decide +kernel
theorem dL_isRefundedSo_244 : decode cL_isRefundedSo 244 = .ok (.goto 4, 3) := by decide +kernel
theorem dL_isRefundedSo_247 : decode cL_isRefundedSo 247 = .ok (.iconst 0, 1) := by decide +kernel
theorem dL_isRefundedSo_248 : decode cL_isRefundedSo 248 = .ok (.ireturn, 1) := by decide +kernel
