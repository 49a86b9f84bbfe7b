theorem dL_addSeller_0 : decode cL_addSeller 0 = .ok (.aload_n 2, 1) := by decide +kernel
theorem dL_addSeller_1 : decode cL_addSeller 1 = .ok (.iconst 0, 1) := by decide +kernel
theorem dL_addSeller_2 : decode cL_addSeller 2 = .ok (.aload_n 0, 1) := by decide +kernel
theorem dL_addSeller_3 : decode cL_addSeller 3 = .ok (.iload_n 1, 1) := by decide +kernel
theorem dL_addSeller_4 : decode cL_addSeller 4 = .ok (.invokevirtual 7, 3) := by decide +kernel
theorem dL_addSeller_7 : decode cL_addSeller 7 = .ok (.i2l, 1) := by decide +kernel
theorem dL_addSeller_8 : decode cL_addSeller 8 = .ok (.lastore, 1) := by decide +kernel
theorem dL_addSeller_9 : decode cL_addSeller 9 = .ok (.goto 9, 3) := by decide +kernel
theorem dL_addSeller_12 : decode cL_addSeller 12 = .ok (.astore_n 3, 1) := by decide +kernel
theorem dL_addSeller_13 : decode cL_addSeller 13 = .ok (.iconst 1, 1) := by decide +kernel
theorem dL_addSeller_14 : decode cL_addSeller 14 = .ok (.ireturn, 1) := by decide +kernel
theorem dL_addSeller_15 : decode cL_addSeller 15 = .ok (.astore_n 3, 1) := by decide +kernel
theorem dL_addSeller_16 : decode cL_addSeller 16 = .ok (.iconst 2, 1) := by decide +kernel
theorem dL_addSeller_17 : decode cL_addSeller 17 = .ok (.ireturn, 1) := by decide +kernel
theorem dL_addSeller_18 : decode cL_addSeller 18 = .ok (.iconst 0, 1) := by decide +kernel
theorem dL_addSeller_19 : decode cL_addSeller 19 = .ok (.ireturn, 1) := by decide +kernel
set_option maxRecDepth 20000 in
theorem ggL_verify_X4_verify : GoodIn wsL_verify wsX4_verify := goodIn_ca (goodIn_ca (goodIn_r _ [7, 8, 9, 10, 11, 12, 6, 13, 14, 15, 16, 17, 18, 19, 20, 21, 22, 23, 24, 25, 26, 27, 28, 29, 30, 31, 32, 33, 34, 35, 36, 37, 38, 39, 40, 41] (by decide +kernel) (by decide +kernel)) (goodIn_sub (fun _ h => List.mem_cons_of_mem _ (List.mem_append_left _ (List.mem_append_right _ h))) (by decide +kernel))) (goodIn_sub (fun _ h => List.mem_cons_of_mem _ (List.mem_append_right _ h)) (by decide +kernel))
set_option maxRecDepth 20000 in
theorem gL_verify_X4_verify : GoodIn wsL_verify (wsV RL 17 RX4 yX4_verify wsX4_verify) := goodIn_app (goodIn_of _ (by decide +kernel)) ggL_verify_X4_verify
theorem dL_verify_0 : decode cL_verify 0 = .ok (.aload_n 3, 1) := by decide +kernel
theorem dL_verify_1 : decode cL_verify 1 = .ok (.iconst 0, 1) := by decide +kernel
theorem dL_verify_2 : decode cL_verify 2 = .ok (.aload_n 0, 1) := by decide +kernel
theorem dL_verify_3 : decode cL_verify 3 = .ok (.iload_n 1, 1) := by decide +kernel
theorem dL_verify_4 : decode cL_verify 4 = .ok (.iload_n 2, 1) := by decide +kernel
theorem dL_verify_5 : decode cL_verify 5 = .ok (.invokevirtual 17, 3) := by decide +kernel
theorem dL_verify_8 : decode cL_verify 8 = .ok (.i2l, 1) := by decide +kernel
theorem dL_verify_9 : decode cL_verify 9 = .ok (.lastore, 1) := by decide +kernel
theorem dL_verify_10 : decode cL_verify 10 = .ok (.goto 11, 3) := by decide +kernel
theorem dL_verify_13 : decode cL_verify 13 = .ok (.astore 4, 2) := by decide +kernel
theorem dL_verify_15 : decode cL_verify 15 = .ok (.iconst 1, 1) := by decide +kernel
theorem dL_verify_16 : decode cL_verify 16 = .ok (.ireturn, 1) := by decide +kernel
theorem dL_verify_17 : decode cL_verify 17 = .ok (.astore 4, 2) := by decide +kernel
theorem dL_verify_19 : decode cL_verify 19 = .ok (.iconst 2, 1) := by decide +kernel
theorem dL_verify_20 : decode cL_verify 20 = .ok (.ireturn, 1) := by decide +kernel
theorem dL_verify_21 : decode cL_verify 21 = .ok (.iconst 0, 1) := by decide +kernel
theorem dL_verify_22 : decode cL_verify 22 = .ok (.ireturn, 1) := by decide +kernel
set_option maxRecDepth 20000 in
theorem ggL_setPayouts_X4_setPayouts : GoodIn wsL_setPayouts wsX4_setPayouts := goodIn_ca (goodIn_ca (goodIn_r _ [7, 8, 9, 10, 11, 12, 13, 14, 6, 15, 16, 17, 18, 19, 20, 21, 22, 23, 24, 25, 26, 27, 28, 29, 30, 31, 32, 33, 34, 35, 36, 37, 38, 39, 40, 41, 42, 43] (by decide +kernel) (by decide +kernel)) (goodIn_sub (fun _ h => List.mem_cons_of_mem _ (List.mem_append_left _ (List.mem_append_right _ h))) (by decide +kernel))) (goodIn_sub (fun _ h => List.mem_cons_of_mem _ (List.mem_append_right _ h)) (by decide +kernel))
set_option maxRecDepth 20000 in
theorem gL_setPayouts_X4_setPayouts : GoodIn wsL_setPayouts (wsV RL 23 RX4 yX4_setPayouts wsX4_setPayouts) := goodIn_app (goodIn_of _ (by decide +kernel)) ggL_setPayouts_X4_setPayouts
theorem dL_setPayouts_0 : decode cL_setPayouts 0 = .ok (.aload_n 0, 1) := by decide +kernel
theorem dL_setPayouts_1 : decode cL_setPayouts 1 = .ok (.iload_n 1, 1) := by decide +kernel
theorem dL_setPayouts_2 : decode cL_setPayouts 2 = .ok (.iload_n 2, 1) := by decide +kernel
theorem dL_setPayouts_3 : decode cL_setPayouts 3 = .ok (.iload_n 3, 1) := by decide +kernel
theorem dL_setPayouts_4 : decode cL_setPayouts 4 = .ok (.invokevirtual 23, 3) := by decide +kernel
theorem dL_setPayouts_7 : decode cL_setPayouts 7 = .ok (.goto 11, 3) := by decide +kernel
theorem dL_setPayouts_10 : decode cL_setPayouts 10 = .ok (.astore 4, 2) := by decide +kernel
theorem dL_setPayouts_12 : decode cL_setPayouts 12 = .ok (.iconst 1, 1) := by decide +kernel
theorem dL_setPayouts_13 : decode cL_setPayouts 13 = .ok (.ireturn, 1) := by decide +kernel
theorem dL_setPayouts_14 : decode cL_setPayouts 14 = .ok (.astore 4, 2) := by decide +kernel
theorem dL_setPayouts_16 : decode cL_setPayouts 16 = .ok (.iconst 2, 1) := by decide +kernel
theorem dL_setPayouts_17 : decode cL_setPayouts 17 = .ok (.ireturn, 1) := by decide +kernel
theorem dL_setPayouts_18 : decode cL_setPayouts 18 = .ok (.iconst 0, 1) := by decide +kernel
theorem dL_setPayouts_19 : decode cL_setPayouts 19 = .ok (.ireturn, 1) := by decide +kernel
set_option maxRecDepth 20000 in
theorem ggL_setReserve_X4_setReserve : GoodIn wsL_setReserve wsX4_setReserve := goodIn_ca (goodIn_ca (goodIn_r _ [7, 8, 9, 10, 11, 12, 13, 6, 14, 15, 16, 17, 18, 19, 20, 21, 22, 23, 24, 25, 26, 27, 28, 29, 30, 31, 32, 33, 34, 35, 36, 37, 38, 39, 40, 41, 42] (by decide +kernel) (by decide +kernel)) (goodIn_sub (fun _ h => List.mem_cons_of_mem _ (List.mem_append_left _ (List.mem_append_right _ h))) (by decide +kernel))) (goodIn_sub (fun _ h => List.mem_cons_of_mem _ (List.mem_append_right _ h)) (by decide +kernel))
set_option maxRecDepth 20000 in
theorem gL_setReserve_X4_setReserve : GoodIn wsL_setReserve (wsV RL 27 RX4 yX4_setReserve wsX4_setReserve) := goodIn_app (goodIn_of _ (by decide +kernel)) ggL_setReserve_X4_setReserve
theorem dL_setReserve_0 : decode cL_setReserve 0 = .ok (.aload_n 0, 1) := by decide +kernel
theorem dL_setReserve_1 : decode cL_setReserve 1 = .ok (.iload_n 1, 1) := by decide +kernel
theorem dL_setReserve_2 : decode cL_setReserve 2 = .ok (.iload_n 2, 1) := by decide +kernel
theorem dL_setReserve_3 : decode cL_setReserve 3 = .ok (.iload_n 3, 1) := by decide +kernel
theorem dL_setReserve_4 : decode cL_setReserve 4 = .ok (.invokevirtual 27, 3) := by decide +kernel
theorem dL_setReserve_7 : decode cL_setReserve 7 = .ok (.goto 11, 3) := by decide +kernel
theorem dL_setReserve_10 : decode cL_setReserve 10 = .ok (.astore 4, 2) := by decide +kernel
theorem dL_setReserve_12 : decode cL_setReserve 12 = .ok (.iconst 1, 1) := by decide +kernel
theorem dL_setReserve_13 : decode cL_setReserve 13 = .ok (.ireturn, 1) := by decide +kernel
theorem dL_setReserve_14 : decode cL_setReserve 14 = .ok (.astore 4, 2) := by decide +kernel
theorem dL_setReserve_16 : decode cL_setReserve 16 = .ok (.iconst 2, 1) := by decide +kernel
theorem dL_setReserve_17 : decode cL_setReserve 17 = .ok (.ireturn, 1) := by decide +kernel
theorem dL_setReserve_18 : decode cL_setReserve 18 = .ok (.iconst 0, 1) := by decide +kernel
theorem dL_setReserve_19 : decode cL_setReserve 19 = .ok (.ireturn, 1) := by decide +kernel
set_option maxRecDepth 20000 in
theorem ggL_setShare_X4_setShare : GoodIn wsL_setShare wsX4_setShare := goodIn_ca (goodIn_ca (goodIn_r _ [7, 8, 9, 10, 6, 11, 12, 13, 14, 15, 16, 17, 18, 19, 20, 21, 22, 23, 24, 25, 26, 27, 28, 29, 30, 31, 32, 33, 34, 35, 36, 37] (by decide +kernel) (by decide +kernel)) (goodIn_sub (fun _ h => List.mem_cons_of_mem _ (List.mem_append_left _ (List.mem_append_right _ h))) (by decide +kernel))) (goodIn_sub (fun _ h => List.mem_cons_of_mem _ (List.mem_append_right _ h)) (by decide +kernel))
set_option maxRecDepth 20000 in
theorem gL_setShare_X4_setShare : GoodIn wsL_setShare (wsV RL 30 RX4 yX4_setShare wsX4_setShare) := goodIn_app (goodIn_of _ (by decide +kernel)) ggL_setShare_X4_setShare
theorem dL_setShare_0 : decode cL_setShare 0 = .ok (.aload_n 3, 1) := by decide +kernel
theorem dL_setShare_1 : decode cL_setShare 1 = .ok (.iconst 0, 1) := by decide +kernel
theorem dL_setShare_2 : decode cL_setShare 2 = .ok (.aload_n 0, 1) := by decide +kernel
theorem dL_setShare_3 : decode cL_setShare 3 = .ok (.iload_n 1, 1) := by decide +kernel
theorem dL_setShare_4 : decode cL_setShare 4 = .ok (.iload_n 2, 1) := by decide +kernel
theorem dL_setShare_5 : decode cL_setShare 5 = .ok (.invokevirtual 30, 3) := by decide +kernel
theorem dL_setShare_8 : decode cL_setShare 8 = .ok (.i2l, 1) := by decide +kernel
theorem dL_setShare_9 : decode cL_setShare 9 = .ok (.lastore, 1) := by decide +kernel
theorem dL_setShare_10 : decode cL_setShare 10 = .ok (.goto 11, 3) := by decide +kernel
theorem dL_setShare_13 : decode cL_setShare 13 = .ok (.astore 4, 2) := by decide +kernel
theorem dL_setShare_15 : decode cL_setShare 15 = .ok (.iconst 1, 1) := by decide +kernel
theorem dL_setShare_16 : decode cL_setShare 16 = .ok (.ireturn, 1) := by decide +kernel
theorem dL_setShare_17 : decode cL_setShare 17 = .ok (.astore 4, 2) := by decide +kernel
theorem dL_setShare_19 : decode cL_setShare 19 = .ok (.iconst 2, 1) := by decide +kernel
theorem dL_setShare_20 : decode cL_setShare 20 = .ok (.ireturn, 1) := by decide +kernel
theorem dL_setShare_21 : decode cL_setShare 21 = .ok (.iconst 0, 1) := by decide +kernel
theorem dL_setShare_22 : decode cL_setShare 22 = .ok (.ireturn, 1) := by decide +kernel
set_option maxRecDepth 20000 in
theorem ggL_setTax_X4_setTax : GoodIn wsL_setTax wsX4_setTax := goodIn_ca (goodIn_r _ [6, 7, 8, 9, 5, 10, 11, 12, 13, 14, 15, 16, 17, 18, 19, 20, 21, 22, 23] (by decide +kernel) (by decide +kernel)) (goodIn_sub (fun _ h => List.mem_cons_of_mem _ (List.mem_append_right _ h)) (by decide +kernel))
set_option maxRecDepth 20000 in
theorem gL_setTax_X4_setTax : GoodIn wsL_setTax (wsV RL 33 RX4 yX4_setTax wsX4_setTax) := goodIn_app (goodIn_of _ (by decide +kernel)) ggL_setTax_X4_setTax
theorem dL_setTax_0 : decode cL_setTax 0 = .ok (.aload_n 2, 1) := by decide +kernel
theorem dL_setTax_1 : decode cL_setTax 1 = .ok (.iconst 0, 1) := by decide +kernel
theorem dL_setTax_2 : decode cL_setTax 2 = .ok (.aload_n 0, 1) := by decide +kernel
theorem dL_setTax_3 : decode cL_setTax 3 = .ok (.iload_n 1, 1) := by decide +kernel
theorem dL_setTax_4 : decode cL_setTax 4 = .ok (.invokevirtual 33, 3) := by decide +kernel
theorem dL_setTax_7 : decode cL_setTax 7 = .ok (.i2l, 1) := by decide +kernel
theorem dL_setTax_8 : decode cL_setTax 8 = .ok (.lastore, 1) := by decide +kernel
theorem dL_setTax_9 : decode cL_setTax 9 = .ok (.goto 6, 3) := by decide +kernel
theorem dL_setTax_12 : decode cL_setTax 12 = .ok (.astore_n 3, 1) := by decide +kernel
theorem dL_setTax_13 : decode cL_setTax 13 = .ok (.iconst 1, 1) := by decide +kernel
theorem dL_setTax_14 : decode cL_setTax 14 = .ok (.ireturn, 1) := by decide +kernel
theorem dL_setTax_15 : decode cL_setTax 15 = .ok (.iconst 0, 1) := by decide +kernel
theorem dL_setTax_16 : decode cL_setTax 16 = .ok (.ireturn, 1) := by decide +kernel
set_option maxRecDepth 20000 in
theorem ggL_sell_X4_sell : GoodIn wsL_sell wsX4_sell := goodIn_ca (goodIn_ca (goodIn_ca (goodIn_r _ [8, 9, 10, 11, 12, 7, 13, 14, 15, 16, 17, 18, 19, 20, 21, 22, 23, 24, 25, 26, 27, 28, 29, 30, 31, 32, 33, 34, 35, 36, 37, 38, 39, 40, 41, 42, 43, 44, 45, 46, 47, 48, 49, 50, 51, 52, 53, 54, 55, 56, 57, 58, 59, 60, 61, 62, 63, 64, 65, 66, 67, 68, 69, 70, 71, 72, 73, 74, 75, 76, 77, 78, 79, 80, 81, 82, 83, 84, 85, 86, 87, 88, 89, 90, 91, 92, 93, 94, 95, 96, 97, 98, 99, 100, 101, 102, 103, 104, 105, 106, 107, 108, 109, 110, 111, 112, 113, 114, 115, 116, 117, 118, 119] (by decide +kernel) (by decide +kernel)) (goodIn_sub (fun _ h => List.mem_cons_of_mem _ (List.mem_append_left _ (List.mem_append_left _ (List.mem_append_right _ h)))) (by decide +kernel))) (goodIn_sub (fun _ h => List.mem_cons_of_mem _ (List.mem_append_left _ (List.mem_append_right _ h))) (by decide +kernel))) (goodIn_sub (fun _ h => List.mem_cons_of_mem _ (List.mem_append_right _ h)) (by decide +kernel))
set_option maxRecDepth 20000 in
theorem gL_sell_X4_sell : GoodIn wsL_sell (wsV RL 36 RX4 yX4_sell wsX4_sell) := goodIn_app (goodIn_of _ (by decide +kernel)) ggL_sell_X4_sell
theorem dL_sell_0 : decode cL_sell 0 = .ok (.aload 4, 2) := by decide +kernel
theorem dL_sell_2 : decode cL_sell 2 = .ok (.iconst 0, 1) := by decide +kernel
theorem dL_sell_3 : decode cL_sell 3 = .ok (.aload_n 0, 1) := by decide +kernel
theorem dL_sell_4 : decode cL_sell 4 = .ok (.iload_n 1, 1) := by decide +kernel
theorem dL_sell_5 : decode cL_sell 5 = .ok (.iload_n 2, 1) := by decide +kernel
theorem dL_sell_6 : decode cL_sell 6 = .ok (.iload_n 3, 1) := by decide +kernel
theorem dL_sell_7 : decode cL_sell 7 = .ok (.invokevirtual 36, 3) := by decide +kernel
theorem dL_sell_10 : decode cL_sell 10 = .ok (.i2l, 1) := by decide +kernel
theorem dL_sell_11 : decode cL_sell 11 = .ok (.lastore, 1) := by decide +kernel
theorem dL_sell_12 : decode cL_sell 12 = .ok (.goto 15, 3) := by decide +kernel
theorem dL_sell_15 : decode cL_sell 15 = .ok (.astore 5, 2) := by decide +kernel
theorem dL_sell_17 : decode cL_sell 17 = .ok (.iconst 1, 1) := by decide +kernel
theorem dL_sell_18 : decode cL_sell 18 = .ok (.ireturn, 1) := by decide +kernel
theorem dL_sell_19 : decode cL_sell 19 = .ok (.astore 5, 2) := by decide +kernel
theorem dL_sell_21 : decode cL_sell 21 = .ok (.iconst 2, 1) := by decide +kernel
theorem dL_sell_22 : decode cL_sell 22 = .ok (.ireturn, 1) := by decide +kernel
theorem dL_sell_23 : decode cL_sell 23 = .ok (.astore 5, 2) := by decide +kernel
theorem dL_sell_25 : decode cL_sell 25 = .ok (.iconst 3, 1) := by decide +kernel
theorem dL_sell_26 : decode cL_sell 26 = .ok (.ireturn, 1) := by decide +kernel
theorem dL_sell_27 : decode cL_sell 27 = .ok (.iconst 0, 1) := by decide +kernel
theorem dL_sell_28 : decode cL_sell 28 = .ok (.ireturn, 1) := by decide +kernel
set_option maxRecDepth 20000 in
theorem ggL_order_X4_order : GoodIn wsL_order wsX4_order := goodIn_ca (goodIn_ca (goodIn_ca (goodIn_r _ [8, 9, 10, 11, 12, 13, 14, 15, 16, 17, 18, 19, 20, 21, 7, 22, 23, 24, 25, 26, 27, 28, 29, 30, 31, 32, 33, 34, 35, 36, 37, 38, 39, 40, 41, 42, 43, 44, 45, 46, 47, 48, 49, 50, 51, 52, 53, 54, 55, 56, 57, 58, 59, 60, 61, 62, 63, 64, 65, 66, 67, 68, 69, 70, 71, 72, 73, 74, 75, 76, 77, 78, 79, 80, 81, 82, 83, 84, 85, 86, 87, 88, 89, 90, 91, 92, 93, 94, 95, 96, 97, 98, 99, 100, 101, 102, 103, 104, 105, 106, 107, 108, 109, 110, 111, 112, 113, 114, 115, 116, 117, 118, 119, 120, 121, 122, 123, 124, 125, 126] (by decide +kernel) (by decide +kernel)) (goodIn_sub (fun _ h => List.mem_cons_of_mem _ (List.mem_append_left _ (List.mem_append_left _ (List.mem_append_right _ h)))) (by decide +kernel))) (goodIn_sub (fun _ h => List.mem_cons_of_mem _ (List.mem_append_left _ (List.mem_append_right _ h))) (by decide +kernel))) (goodIn_sub (fun _ h => List.mem_cons_of_mem _ (List.mem_append_right _ h)) (by decide +kernel))
set_option maxRecDepth 20000 in
theorem gL_order_X4_order : GoodIn wsL_order (wsV RL 40 RX4 yX4_order wsX4_order) := goodIn_app (goodIn_of _ (by decide +kernel)) ggL_order_X4_order
theorem dL_order_0 : decode cL_order 0 = .ok (.aload 4, 2) := by decide +kernel
theorem dL_order_2 : decode cL_order 2 = .ok (.iconst 0, 1) := by decide +kernel
theorem dL_order_3 : decode cL_order 3 = .ok (.aload_n 0, 1) := by decide +kernel
theorem dL_order_4 : decode cL_order 4 = .ok (.iload_n 1, 1) := by decide +kernel
theorem dL_order_5 : decode cL_order 5 = .ok (.iload_n 2, 1) := by decide +kernel
theorem dL_order_6 : decode cL_order 6 = .ok (.iload_n 3, 1) := by decide +kernel
theorem dL_order_7 : decode cL_order 7 = .ok (.invokevirtual 40, 3) := by decide +kernel
theorem dL_order_10 : decode cL_order 10 = .ok (.i2l, 1) := by decide +kernel
theorem dL_order_11 : decode cL_order 11 = .ok (.lastore, 1) := by decide +kernel
theorem dL_order_12 : decode cL_order 12 = .ok (.goto 15, 3) := by decide +kernel
theorem dL_order_15 : decode cL_order 15 = .ok (.astore 5, 2) := by decide +kernel
theorem dL_order_17 : decode cL_order 17 = .ok (.iconst 1, 1) := by decide +kernel
theorem dL_order_18 : decode cL_order 18 = .ok (.ireturn, 1) := by decide +kernel
theorem dL_order_19 : decode cL_order 19 = .ok (.astore 5, 2) := by decide +kernel
theorem dL_order_21 : decode cL_order 21 = .ok (.iconst 2, 1) := by decide +kernel
theorem dL_order_22 : decode cL_order 22 = .ok (.ireturn, 1) := by decide +kernel
theorem dL_order_23 : decode cL_order 23 = .ok (.astore 5, 2) := by decide +kernel
theorem dL_order_25 : decode cL_order 25 = .ok (.iconst 3, 1) := by decide +kernel
theorem dL_order_26 : decode cL_order 26 = .ok (.ireturn, 1) := by decide +kernel
theorem dL_order_27 : decode cL_order 27 = .ok (.iconst 0, 1) := by decide +kernel
theorem dL_order_28 : decode cL_order 28 = .ok (.ireturn, 1) := by decide +kernel
set_option maxRecDepth 20000 in
theorem ggL_refund_X4_refund : GoodIn wsL_refund wsX4_refund := goodIn_ca (goodIn_ca (goodIn_ca (goodIn_r _ [8, 9, 10, 11, 12, 13, 14, 15, 16, 17, 18, 19, 20, 21, 22, 23, 24, 25, 26, 27, 28, 29, 30, 31, 7, 32, 33, 34, 35, 36, 37, 38, 39, 40, 41, 42, 43, 44, 45, 46, 47, 48, 49, 50, 51, 52, 53, 54, 55, 56, 57, 58, 59, 60, 61, 62, 63, 64, 65, 66, 67, 68, 69, 70, 71, 72, 73, 74, 75, 76, 77, 78, 79, 80, 81, 82, 83, 84, 85, 86, 87, 88, 89, 90] (by decide +kernel) (by decide +kernel)) (goodIn_sub (fun _ h => List.mem_cons_of_mem _ (List.mem_append_left _ (List.mem_append_left _ (List.mem_append_right _ h)))) (by decide +kernel))) (goodIn_sub (fun _ h => List.mem_cons_of_mem _ (List.mem_append_left _ (List.mem_append_right _ h))) (by decide +kernel))) (goodIn_sub (fun _ h => List.mem_cons_of_mem _ (List.mem_append_right _ h)) (by decide +kernel))
set_option maxRecDepth 20000 in
theorem gL_refund_X4_refund : GoodIn wsL_refund (wsV RL 43 RX4 yX4_refund wsX4_refund) := goodIn_app (goodIn_of _ (by decide +kernel)) ggL_refund_X4_refund
theorem dL_refund_0 : decode cL_refund 0 = .ok (.aload 4, 2) := by decide +kernel
theorem dL_refund_2 : decode cL_refund 2 = .ok (.iconst 0, 1) := by decide +kernel
theorem dL_refund_3 : decode cL_refund 3 = .ok (.aload_n 0, 1) := by decide +kernel
theorem dL_refund_4 : decode cL_refund 4 = .ok (.iload_n 1, 1) := by decide +kernel
theorem dL_refund_5 : decode cL_refund 5 = .ok (.iload_n 2, 1) := by decide +kernel
theorem dL_refund_6 : decode cL_refund 6 = .ok (.iload_n 3, 1) := by decide +kernel
theorem dL_refund_7 : decode cL_refund 7 = .ok (.invokevirtual 43, 3) := by decide +kernel
theorem dL_refund_10 : decode cL_refund 10 = .ok (.i2l, 1) := by decide +kernel
theorem dL_refund_11 : decode cL_refund 11 = .ok (.lastore, 1) := by decide +kernel
theorem dL_refund_12 : decode cL_refund 12 = .ok (.goto 15, 3) := by decide +kernel
theorem dL_refund_15 : decode cL_refund 15 = .ok (.astore 5, 2) := by decide +kernel
theorem dL_refund_17 : decode cL_refund 17 = .ok (.iconst 1, 1) := by decide +kernel
theorem dL_refund_18 : decode cL_refund 18 = .ok (.ireturn, 1) := by decide +kernel
theorem dL_refund_19 : decode cL_refund 19 = .ok (.astore 5, 2) := by decide +kernel
theorem dL_refund_21 : decode cL_refund 21 = .ok (.iconst 2, 1) := by decide +kernel
theorem dL_refund_22 : decode cL_refund 22 = .ok (.ireturn, 1) := by decide +kernel
theorem dL_refund_23 : decode cL_refund 23 = .ok (.astore 5, 2) := by decide +kernel
theorem dL_refund_25 : decode cL_refund 25 = .ok (.iconst 3, 1) := by decide +kernel
theorem dL_refund_26 : decode cL_refund 26 = .ok (.ireturn, 1) := by decide +kernel
theorem dL_refund_27 : decode cL_refund 27 = .ok (.iconst 0, 1) := by decide +kernel
theorem dL_refund_28 : decode cL_refund 28 = .ok (.ireturn, 1) := by decide +kernel
set_option maxRecDepth 20000 in
theorem ggL_pass_X4_pass : GoodIn wsL_pass wsX4_pass := goodIn_ca (goodIn_ca (goodIn_r _ [7, 8, 9, 10, 11, 12, 13, 14, 6, 15, 16, 17, 18, 19, 20, 21, 22, 23, 24, 25, 26, 27, 28, 29, 30, 31, 32, 33, 34, 35, 36, 37, 38, 39, 40, 41, 42, 43, 44, 45, 46, 47, 48, 49, 50, 51, 52, 53, 54, 55, 56, 57, 58, 59, 60, 61, 62, 63, 64, 65, 66, 67, 68, 69, 70, 71, 72, 73, 74, 75, 76, 77, 78, 79, 80, 81, 82, 83, 84, 85, 86, 87, 88, 89, 90, 91, 92, 93, 94, 95, 96, 97, 98, 99, 100, 101, 102, 103, 104, 105, 106, 107, 108, 109, 110, 111, 112, 113, 114, 115, 116, 117, 118, 119, 120, 121, 122, 123, 124, 125, 126, 127, 128, 129, 130, 131, 132, 133, 134, 135, 136, 137, 138, 139, 140, 141, 142, 143, 144, 145, 146] (by decide +kernel) (by decide +kernel)) (goodIn_sub (fun _ h => List.mem_cons_of_mem _ (List.mem_append_left _ (List.mem_append_right _ h))) (by decide +kernel))) (goodIn_sub (fun _ h => List.mem_cons_of_mem _ (List.mem_append_right _ h)) (by decide +kernel))
set_option maxRecDepth 20000 in
theorem gL_pass_X4_pass : GoodIn wsL_pass (wsV RL 47 RX4 yX4_pass wsX4_pass) := goodIn_app (goodIn_of _ (by decide +kernel)) ggL_pass_X4_pass
theorem dL_pass_0 : decode cL_pass 0 = .ok (.aload_n 2, 1) := by decide +kernel
theorem dL_pass_1 : decode cL_pass 1 = .ok (.iconst 0, 1) := by decide +kernel
theorem dL_pass_2 : decode cL_pass 2 = .ok (.aload_n 0, 1) := by decide +kernel
theorem dL_pass_3 : decode cL_pass 3 = .ok (.iload_n 1, 1) := by decide +kernel
theorem dL_pass_4 : decode cL_pass 4 = .ok (.invokevirtual 47, 3) := by decide +kernel
theorem dL_pass_7 : decode cL_pass 7 = .ok (.i2l, 1) := by decide +kernel
theorem dL_pass_8 : decode cL_pass 8 = .ok (.lastore, 1) := by decide +kernel
theorem dL_pass_9 : decode cL_pass 9 = .ok (.goto 9, 3) := by decide +kernel
theorem dL_pass_12 : decode cL_pass 12 = .ok (.astore_n 3, 1) := by decide +kernel
theorem dL_pass_13 : decode cL_pass 13 = .ok (.iconst 1, 1) := by decide +kernel
theorem dL_pass_14 : decode cL_pass 14 = .ok (.ireturn, 1) := by decide +kernel
theorem dL_pass_15 : decode cL_pass 15 = .ok (.astore_n 3, 1) := by decide +kernel
theorem dL_pass_16 : decode cL_pass 16 = .ok (.iconst 2, 1) := by decide +kernel
theorem dL_pass_17 : decode cL_pass 17 = .ok (.ireturn, 1) := by decide +kernel
theorem dL_pass_18 : decode cL_pass 18 = .ok (.iconst 0, 1) := by decide +kernel
theorem dL_pass_19 : decode cL_pass 19 = .ok (.ireturn, 1) := by decide +kernel
set_option maxRecDepth 20000 in
theorem ggL_fail_X4_fail : GoodIn wsL_fail wsX4_fail := goodIn_ca (goodIn_ca (goodIn_r _ [7, 8, 9, 10, 11, 12, 13, 14, 15, 16, 17, 18, 19, 6, 20, 21, 22, 23, 24, 25, 26, 27, 28, 29, 30, 31, 32, 33, 34, 35, 36, 37, 38, 39, 40, 41, 42, 43, 44, 45, 46, 47, 48, 49, 50, 51, 52, 53, 54, 55, 56, 57, 58, 59, 60, 61, 62, 63, 64, 65, 66, 67, 68, 69] (by decide +kernel) (by decide +kernel)) (goodIn_sub (fun _ h => List.mem_cons_of_mem _ (List.mem_append_left _ (List.mem_append_right _ h))) (by decide +kernel))) (goodIn_sub (fun _ h => List.mem_cons_of_mem _ (List.mem_append_right _ h)) (by decide +kernel))
set_option maxRecDepth 20000 in
theorem gL_fail_X4_fail : GoodIn wsL_fail (wsV RL 50 RX4 yX4_fail wsX4_fail) := goodIn_app (goodIn_of _ (by decide +kernel)) ggL_fail_X4_fail
theorem dL_fail_0 : decode cL_fail 0 = .ok (.aload_n 2, 1) := by decide +kernel
theorem dL_fail_1 : decode cL_fail 1 = .ok (.iconst 0, 1) := by decide +kernel
theorem dL_fail_2 : decode cL_fail 2 = .ok (.aload_n 0, 1) := by decide +kernel
theorem dL_fail_3 : decode cL_fail 3 = .ok (.iload_n 1, 1) := by decide +kernel
theorem dL_fail_4 : decode cL_fail 4 = .ok (.invokevirtual 50, 3) := by decide +kernel
theorem dL_fail_7 : decode cL_fail 7 = .ok (.i2l, 1) := by decide +kernel
theorem dL_fail_8 : decode cL_fail 8 = .ok (.lastore, 1) := by decide +kernel
theorem dL_fail_9 : decode cL_fail 9 = .ok (.goto 9, 3) := by decide +kernel
theorem dL_fail_12 : decode cL_fail 12 = .ok (.astore_n 3, 1) := by decide +kernel
theorem dL_fail_13 : decode cL_fail 13 = .ok (.iconst 1, 1) := by decide +kernel
theorem dL_fail_14 : decode cL_fail 14 = .ok (.ireturn, 1) := by decide +kernel
theorem dL_fail_15 : decode cL_fail 15 = .ok (.astore_n 3, 1) := by decide +kernel
theorem dL_fail_16 : decode cL_fail 16 = .ok (.iconst 2, 1) := by decide +kernel
theorem dL_fail_17 : decode cL_fail 17 = .ok (.ireturn, 1) := by decide +kernel
theorem dL_fail_18 : decode cL_fail 18 = .ok (.iconst 0, 1) := by decide +kernel
theorem dL_fail_19 : decode cL_fail 19 = .ok (.ireturn, 1) := by decide +kernel
set_option maxRecDepth 20000 in
theorem ggL_payout_X4_payout : GoodIn wsL_payout wsX4_payout := goodIn_ca (goodIn_r _ [6, 7, 8, 9, 10, 11, 5, 12, 13, 14, 15, 16, 17, 18, 19, 20, 21, 22, 23, 24, 25, 26, 27, 28, 29, 30] (by decide +kernel) (by decide +kernel)) (goodIn_sub (fun _ h => List.mem_cons_of_mem _ (List.mem_append_right _ h)) (by decide +kernel))
set_option maxRecDepth 20000 in
theorem gL_payout_X4_payout : GoodIn wsL_payout (wsV RL 53 RX4 yX4_payout wsX4_payout) := goodIn_app (goodIn_of _ (by decide +kernel)) ggL_payout_X4_payout
theorem dL_payout_0 : decode cL_payout 0 = .ok (.aload_n 2, 1) := by decide +kernel
theorem dL_payout_1 : decode cL_payout 1 = .ok (.iconst 0, 1) := by decide +kernel
theorem dL_payout_2 : decode cL_payout 2 = .ok (.aload_n 0, 1) := by decide +kernel
theorem dL_payout_3 : decode cL_payout 3 = .ok (.iload_n 1, 1) := by decide +kernel
theorem dL_payout_4 : decode cL_payout 4 = .ok (.invokevirtual 53, 3) := by decide +kernel
theorem dL_payout_7 : decode cL_payout 7 = .ok (.i2l, 1) := by decide +kernel
theorem dL_payout_8 : decode cL_payout 8 = .ok (.lastore, 1) := by decide +kernel
theorem dL_payout_9 : decode cL_payout 9 = .ok (.goto 6, 3) := by decide +kernel
theorem dL_payout_12 : decode cL_payout 12 = .ok (.astore_n 3, 1) := by decide +kernel
theorem dL_payout_13 : decode cL_payout 13 = .ok (.iconst 1, 1) := by decide +kernel
theorem dL_payout_14 : decode cL_payout 14 = .ok (.ireturn, 1) := by decide +kernel
theorem dL_payout_15 : decode cL_payout 15 = .ok (.iconst 0, 1) := by decide +kernel
theorem dL_payout_16 : decode cL_payout 16 = .ok (.ireturn, 1) := by decide +kernel
set_option maxRecDepth 20000 in
theorem ggL_sellerOf_X4_sellerOf : GoodIn wsL_sellerOf wsX4_sellerOf := goodIn_ca (goodIn_r _ [6, 7, 8, 9, 10, 11, 5, 12, 13, 14, 15, 16, 17, 18, 19, 20, 21, 22, 23, 24, 25, 26, 27, 28, 29, 30] (by decide +kernel) (by decide +kernel)) (goodIn_sub (fun _ h => List.mem_cons_of_mem _ (List.mem_append_right _ h)) (by decide +kernel))
set_option maxRecDepth 20000 in
theorem gL_sellerOf_X4_sellerOf : GoodIn wsL_sellerOf (wsV RL 56 RX4 yX4_sellerOf wsX4_sellerOf) := goodIn_app (goodIn_of _ (by decide +kernel)) ggL_sellerOf_X4_sellerOf
theorem dL_sellerOf_0 : decode cL_sellerOf 0 = .ok (.aload_n 2, 1) := by decide +kernel
theorem dL_sellerOf_1 : decode cL_sellerOf 1 = .ok (.iconst 0, 1) := by decide +kernel
theorem dL_sellerOf_2 : decode cL_sellerOf 2 = .ok (.aload_n 0, 1) := by decide +kernel
theorem dL_sellerOf_3 : decode cL_sellerOf 3 = .ok (.iload_n 1, 1) := by decide +kernel
theorem dL_sellerOf_4 : decode cL_sellerOf 4 = .ok (.invokevirtual 56, 3) := by decide +kernel
theorem dL_sellerOf_7 : decode cL_sellerOf 7 = .ok (.i2l, 1) := by decide +kernel
theorem dL_sellerOf_8 : decode cL_sellerOf 8 = .ok (.lastore, 1) := by decide +kernel
theorem dL_sellerOf_9 : decode cL_sellerOf 9 = .ok (.goto 6, 3) := by decide +kernel
theorem dL_sellerOf_12 : decode cL_sellerOf 12 = .ok (.astore_n 3, 1) := by decide +kernel
theorem dL_sellerOf_13 : decode cL_sellerOf 13 = .ok (.iconst 1, 1) := by decide +kernel
theorem dL_sellerOf_14 : decode cL_sellerOf 14 = .ok (.ireturn, 1) := by decide +kernel
theorem dL_sellerOf_15 : decode cL_sellerOf 15 = .ok (.iconst 0, 1) := by decide +kernel
theorem dL_sellerOf_16 : decode cL_sellerOf 16 = .ok (.ireturn, 1) := by decide +kernel
set_option maxRecDepth 20000 in
theorem ggL_balance_X4_balance : GoodIn wsL_balance wsX4_balance := goodIn_ca (goodIn_r _ [6, 7, 8, 9, 10, 11, 5, 12, 13, 14, 15, 16, 17, 18, 19, 20, 21, 22, 23, 24, 25, 26, 27, 28, 29, 30, 31, 32, 33, 34, 35] (by decide +kernel) (by decide +kernel)) (goodIn_sub (fun _ h => List.mem_cons_of_mem _ (List.mem_append_right _ h)) (by decide +kernel))
set_option maxRecDepth 20000 in
theorem gL_balance_X4_balance : GoodIn wsL_balance (wsV RL 59 RX4 yX4_balance wsX4_balance) := goodIn_app (goodIn_of _ (by decide +kernel)) ggL_balance_X4_balance
theorem dL_balance_0 : decode cL_balance 0 = .ok (.aload_n 2, 1) := by decide +kernel
theorem dL_balance_1 : decode cL_balance 1 = .ok (.iconst 0, 1) := by decide +kernel
theorem dL_balance_2 : decode cL_balance 2 = .ok (.aload_n 0, 1) := by decide +kernel
theorem dL_balance_3 : decode cL_balance 3 = .ok (.iload_n 1, 1) := by decide +kernel
theorem dL_balance_4 : decode cL_balance 4 = .ok (.invokevirtual 59, 3) := by decide +kernel
theorem dL_balance_7 : decode cL_balance 7 = .ok (.i2l, 1) := by decide +kernel
theorem dL_balance_8 : decode cL_balance 8 = .ok (.lastore, 1) := by decide +kernel
theorem dL_balance_9 : decode cL_balance 9 = .ok (.goto 6, 3) := by decide +kernel
theorem dL_balance_12 : decode cL_balance 12 = .ok (.astore_n 3, 1) := by decide +kernel
theorem dL_balance_13 : decode cL_balance 13 = .ok (.iconst 1, 1) := by decide +kernel
theorem dL_balance_14 : decode cL_balance 14 = .ok (.ireturn, 1) := by decide +kernel
theorem dL_balance_15 : decode cL_balance 15 = .ok (.iconst 0, 1) := by decide +kernel
theorem dL_balance_16 : decode cL_balance 16 = .ok (.ireturn, 1) := by decide +kernel
set_option maxRecDepth 20000 in
theorem ggL_balanceByEntries_X4_balanceByEntries : GoodIn wsL_balanceByEntries wsX4_balanceByEntries := goodIn_ca (goodIn_r _ [6, 7, 8, 9, 10, 5, 11, 12, 13, 14, 15, 16, 17, 18, 19, 20, 21, 22, 23, 24, 25, 26, 27, 28, 29, 30, 31, 32, 33, 34, 35, 36, 37, 38, 39, 40, 41, 42, 43, 44, 45, 46, 47, 48] (by decide +kernel) (by decide +kernel)) (goodIn_sub (fun _ h => List.mem_cons_of_mem _ (List.mem_append_right _ h)) (by decide +kernel))
set_option maxRecDepth 20000 in
theorem gL_balanceByEntries_X4_balanceByEntries : GoodIn wsL_balanceByEntries (wsV RL 62 RX4 yX4_balanceByEntries wsX4_balanceByEntries) := goodIn_app (goodIn_of _ (by decide +kernel)) ggL_balanceByEntries_X4_balanceByEntries
theorem dL_balanceByEntries_0 : decode cL_balanceByEntries 0 = .ok (.aload_n 2, 1) := by decide +kernel
theorem dL_balanceByEntries_1 : decode cL_balanceByEntries 1 = .ok (.iconst 0, 1) := by decide +kernel
theorem dL_balanceByEntries_2 : decode cL_balanceByEntries 2 = .ok (.aload_n 0, 1) := by decide +kernel
theorem dL_balanceByEntries_3 : decode cL_balanceByEntries 3 = .ok (.iload_n 1, 1) := by decide +kernel
theorem dL_balanceByEntries_4 : decode cL_balanceByEntries 4 = .ok (.invokevirtual 62, 3) := by decide +kernel
theorem dL_balanceByEntries_7 : decode cL_balanceByEntries 7 = .ok (.i2l, 1) := by decide +kernel
theorem dL_balanceByEntries_8 : decode cL_balanceByEntries 8 = .ok (.lastore, 1) := by decide +kernel
theorem dL_balanceByEntries_9 : decode cL_balanceByEntries 9 = .ok (.goto 6, 3) := by decide +kernel
theorem dL_balanceByEntries_12 : decode cL_balanceByEntries 12 = .ok (.astore_n 3, 1) := by decide +kernel
theorem dL_balanceByEntries_13 : decode cL_balanceByEntries 13 = .ok (.iconst 1, 1) := by decide +kernel
theorem dL_balanceByEntries_14 : decode cL_balanceByEntries 14 = .ok (.ireturn, 1) := by decide +kernel
theorem dL_balanceByEntries_15 : decode cL_balanceByEntries 15 = .ok (.iconst 0, 1) := by decide +kernel
theorem dL_balanceByEntries_16 : decode cL_balanceByEntries 16 = .ok (.ireturn, 1) := by decide +kernel
set_option maxRecDepth 20000 in
theorem ggL_reserve_X4_reserve : GoodIn wsL_reserve wsX4_reserve := goodIn_ca (goodIn_r _ [6, 7, 8, 9, 10, 5, 11, 12, 13, 14, 15, 16, 17, 18, 19, 20, 21, 22, 23, 24, 25, 26, 27, 28, 29, 30, 31, 32, 33, 34, 35, 36, 37, 38, 39, 40, 41, 42, 43, 44, 45, 46, 47, 48, 49, 50, 51] (by decide +kernel) (by decide +kernel)) (goodIn_sub (fun _ h => List.mem_cons_of_mem _ (List.mem_append_right _ h)) (by decide +kernel))
set_option maxRecDepth 20000 in
theorem gL_reserve_X4_reserve : GoodIn wsL_reserve (wsV RL 65 RX4 yX4_reserve wsX4_reserve) := goodIn_app (goodIn_of _ (by decide +kernel)) ggL_reserve_X4_reserve
theorem dL_reserve_0 : decode cL_reserve 0 = .ok (.aload_n 2, 1) := by decide +kernel
theorem dL_reserve_1 : decode cL_reserve 1 = .ok (.iconst 0, 1) := by decide +kernel
theorem dL_reserve_2 : decode cL_reserve 2 = .ok (.aload_n 0, 1) := by decide +kernel
theorem dL_reserve_3 : decode cL_reserve 3 = .ok (.iload_n 1, 1) := by decide +kernel
theorem dL_reserve_4 : decode cL_reserve 4 = .ok (.invokevirtual 65, 3) := by decide +kernel
theorem dL_reserve_7 : decode cL_reserve 7 = .ok (.i2l, 1) := by decide +kernel
theorem dL_reserve_8 : decode cL_reserve 8 = .ok (.lastore, 1) := by decide +kernel
theorem dL_reserve_9 : decode cL_reserve 9 = .ok (.goto 6, 3) := by decide +kernel
theorem dL_reserve_12 : decode cL_reserve 12 = .ok (.astore_n 3, 1) := by decide +kernel
theorem dL_reserve_13 : decode cL_reserve 13 = .ok (.iconst 1, 1) := by decide +kernel
theorem dL_reserve_14 : decode cL_reserve 14 = .ok (.ireturn, 1) := by decide +kernel
theorem dL_reserve_15 : decode cL_reserve 15 = .ok (.iconst 0, 1) := by decide +kernel
theorem dL_reserve_16 : decode cL_reserve 16 = .ok (.ireturn, 1) := by decide +kernel
set_option maxRecDepth 20000 in
theorem ggL_paidTo_X4_paidTo : GoodIn wsL_paidTo wsX4_paidTo := goodIn_ca (goodIn_r _ [6, 7, 8, 9, 10, 11, 5, 12, 13, 14, 15, 16, 17, 18, 19, 20, 21, 22, 23, 24, 25, 26, 27, 28, 29, 30, 31, 32, 33, 34, 35] (by decide +kernel) (by decide +kernel)) (goodIn_sub (fun _ h => List.mem_cons_of_mem _ (List.mem_append_right _ h)) (by decide +kernel))
set_option maxRecDepth 20000 in
theorem gL_paidTo_X4_paidTo : GoodIn wsL_paidTo (wsV RL 68 RX4 yX4_paidTo wsX4_paidTo) := goodIn_app (goodIn_of _ (by decide +kernel)) ggL_paidTo_X4_paidTo
theorem dL_paidTo_0 : decode cL_paidTo 0 = .ok (.aload_n 2, 1) := by decide +kernel
theorem dL_paidTo_1 : decode cL_paidTo 1 = .ok (.iconst 0, 1) := by decide +kernel
theorem dL_paidTo_2 : decode cL_paidTo 2 = .ok (.aload_n 0, 1) := by decide +kernel
theorem dL_paidTo_3 : decode cL_paidTo 3 = .ok (.iload_n 1, 1) := by decide +kernel
theorem dL_paidTo_4 : decode cL_paidTo 4 = .ok (.invokevirtual 68, 3) := by decide +kernel
theorem dL_paidTo_7 : decode cL_paidTo 7 = .ok (.i2l, 1) := by decide +kernel
theorem dL_paidTo_8 : decode cL_paidTo 8 = .ok (.lastore, 1) := by decide +kernel
theorem dL_paidTo_9 : decode cL_paidTo 9 = .ok (.goto 6, 3) := by decide +kernel
theorem dL_paidTo_12 : decode cL_paidTo 12 = .ok (.astore_n 3, 1) := by decide +kernel
theorem dL_paidTo_13 : decode cL_paidTo 13 = .ok (.iconst 1, 1) := by decide +kernel
theorem dL_paidTo_14 : decode cL_paidTo 14 = .ok (.ireturn, 1) := by decide +kernel
theorem dL_paidTo_15 : decode cL_paidTo 15 = .ok (.iconst 0, 1) := by decide +kernel
theorem dL_paidTo_16 : decode cL_paidTo 16 = .ok (.ireturn, 1) := by decide +kernel
set_option maxRecDepth 20000 in
theorem ggL_law_X4_init : GoodIn wsL_law wsX4_init := goodIn_r _ [9, 10, 11, 12, 13, 14, 15, 16, 17, 18, 19, 20, 21, 22, 23, 24, 25, 26, 27, 28, 29, 30, 31, 32, 33, 34, 35, 36, 37, 38, 39, 40, 41, 42, 43, 44, 45, 46, 47, 48, 49, 50, 51, 52, 53, 54, 55, 56, 57, 58, 59, 60, 61, 62, 63, 64, 65, 66, 2, 67, 68, 623, 624, 625, 626, 627, 628, 629, 630, 631, 581, 582, 583, 584, 585, 586, 587, 588, 589, 590, 591, 632, 633, 634, 635, 636, 637, 638, 639, 640, 641, 642, 643, 644, 645, 646, 647] (by decide +kernel) (by decide +kernel)
set_option maxRecDepth 20000 in
theorem gL_law_X4_init : GoodIn wsL_law (wsX4_init) := ggL_law_X4_init
set_option maxRecDepth 20000 in
theorem ggL_law_X5_init : GoodIn wsL_law wsX5_init := goodIn_r _ [71, 72, 11, 12, 34, 73, 74, 75, 76, 77, 78, 79, 80, 29, 81, 82, 83, 84, 85, 86, 87, 88, 89, 90, 91, 92, 93, 94, 95, 592, 593, 594, 595, 596, 597, 598, 599, 600, 601, 602, 603, 604, 605, 606, 607, 608, 609, 610, 611, 612, 613, 614, 615, 616, 617, 618, 619, 620, 621, 622] (by decide +kernel) (by decide +kernel)
set_option maxRecDepth 20000 in
theorem gL_law_X5_init : GoodIn wsL_law (wsX5_init) := ggL_law_X5_init
set_option maxRecDepth 20000 in
theorem ggL_law_L_addSeller : GoodIn wsL_law wsL_addSeller := goodIn_ca (goodIn_ca (goodIn_r _ [99, 100, 101, 102, 103, 104, 2, 105, 106, 107, 108, 109, 16, 110, 111, 112, 113, 15, 114, 115, 35, 38, 40, 581, 582, 583, 584, 585, 586, 587, 588, 589, 590, 591, 623, 624, 625, 626, 627, 628, 629, 630, 631] (by decide +kernel) (by decide +kernel)) (goodIn_sub (fun _ h => List.mem_append_left _ (List.mem_append_left _ (List.mem_append_right _ h))) (by decide +kernel))) (goodIn_sub (fun _ h => List.mem_append_left _ (List.mem_append_right _ h)) (by decide +kernel))
set_option maxRecDepth 20000 in
theorem gL_law_L_addSeller : GoodIn wsL_law (va_wsS RL 75 yL_addSeller wsL_addSeller) := goodIn_app (goodIn_of _ (by decide +kernel)) ggL_law_L_addSeller
set_option maxRecDepth 20000 in
theorem ggL_law_X5_addSeller : GoodIn wsL_law wsX5_addSeller := goodIn_r _ [119, 120, 73, 76, 78, 121, 122, 5, 123, 124, 125, 126, 127, 128, 592, 593, 594, 595, 596, 597, 598, 599, 600, 601, 602, 603, 604, 605, 606, 607, 608, 609, 610, 611, 612, 613, 614, 615, 616, 617, 618, 619, 620, 621, 622] (by decide +kernel) (by decide +kernel)
set_option maxRecDepth 20000 in
theorem gL_law_X5_addSeller : GoodIn wsL_law (wsV RL 80 RX5 yX5_addSeller wsX5_addSeller) := goodIn_app (goodIn_of _ (by decide +kernel)) ggL_law_X5_addSeller
set_option maxRecDepth 20000 in
theorem ggL_law_X5_thrown : GoodIn wsL_law wsX5_thrown := goodIn_r _ [132, 128, 592, 593, 594, 595, 596, 597, 598, 599, 600, 601, 602, 603, 604, 605, 606, 607, 608, 609, 610, 611, 612, 613, 614, 615, 616, 617, 618, 619, 620, 621, 622] (by decide +kernel) (by decide +kernel)
set_option maxRecDepth 20000 in
theorem gL_law_X5_thrown : GoodIn wsL_law (wsV RL 81 RX5 yX5_thrown wsX5_thrown) := goodIn_app (goodIn_of _ (by decide +kernel)) ggL_law_X5_thrown
set_option maxRecDepth 20000 in
theorem ggL_law_L_verify : GoodIn wsL_law wsL_verify := goodIn_ca (goodIn_ca (goodIn_r _ [135, 100, 136, 137, 138, 139, 2, 140, 16, 141, 142, 143, 144, 145, 106, 107, 110, 146, 147, 148, 149, 150, 581, 582, 583, 584, 585, 586, 587, 588, 589, 590, 591, 623, 624, 625, 626, 627, 628, 629, 630, 631] (by decide +kernel) (by decide +kernel)) (goodIn_sub (fun _ h => List.mem_append_left _ (List.mem_append_left _ (List.mem_append_right _ h))) (by decide +kernel))) (goodIn_sub (fun _ h => List.mem_append_right _ h) (by decide +kernel))
set_option maxRecDepth 20000 in
theorem gL_law_L_verify : GoodIn wsL_law (va_wsS RL 85 yL_verify wsL_verify) := goodIn_app (goodIn_of _ (by decide +kernel)) ggL_law_L_verify
set_option maxRecDepth 20000 in
theorem ggL_law_X5_verify : GoodIn wsL_law wsX5_verify := goodIn_r _ [154, 74, 155, 156, 157, 5, 158, 120, 121, 122, 123, 124, 125, 126, 127, 128, 592, 593, 594, 595, 596, 597, 598, 599, 600, 601, 602, 603, 604, 605, 606, 607, 608, 609, 610, 611, 612, 613, 614, 615, 616, 617, 618, 619, 620, 621, 622] (by decide +kernel) (by decide +kernel)
set_option maxRecDepth 20000 in
theorem gL_law_X5_verify : GoodIn wsL_law (wsV RL 88 RX5 yX5_verify wsX5_verify) := goodIn_app (goodIn_of _ (by decide +kernel)) ggL_law_X5_verify
set_option maxRecDepth 20000 in
theorem ggL_law_L_setPayouts : GoodIn wsL_law wsL_setPayouts := goodIn_ca (goodIn_ca (goodIn_r _ [161, 100, 136, 162, 163, 164, 2, 165, 166, 16, 167, 168, 142, 143, 144, 145, 106, 107, 110, 146, 147, 148, 149, 150, 581, 582, 583, 584, 585, 586, 587, 588, 589, 590, 591, 623, 624, 625, 626, 627, 628, 629, 630, 631] (by decide +kernel) (by decide +kernel)) (goodIn_sub (fun _ h => List.mem_append_left _ (List.mem_append_left _ (List.mem_append_right _ h))) (by decide +kernel))) (goodIn_sub (fun _ h => List.mem_append_right _ h) (by decide +kernel))
set_option maxRecDepth 20000 in
theorem gL_law_L_setPayouts : GoodIn wsL_law (va_wsS RL 89 yL_setPayouts wsL_setPayouts) := goodIn_app (goodIn_of _ (by decide +kernel)) ggL_law_L_setPayouts
set_option maxRecDepth 20000 in
theorem ggL_law_X5_setPayouts : GoodIn wsL_law wsX5_setPayouts := goodIn_r _ [172, 173, 75, 76, 155, 156, 157, 5, 158, 120, 121, 122, 123, 124, 125, 126, 127, 128, 592, 593, 594, 595, 596, 597, 598, 599, 600, 601, 602, 603, 604, 605, 606, 607, 608, 609, 610, 611, 612, 613, 614, 615, 616, 617, 618, 619, 620, 621, 622] (by decide +kernel) (by decide +kernel)
set_option maxRecDepth 20000 in
theorem gL_law_X5_setPayouts : GoodIn wsL_law (wsV RL 92 RX5 yX5_setPayouts wsX5_setPayouts) := goodIn_app (goodIn_of _ (by decide +kernel)) ggL_law_X5_setPayouts
set_option maxRecDepth 20000 in
theorem ggL_law_L_setReserve : GoodIn wsL_law wsL_setReserve := goodIn_ca (goodIn_ca (goodIn_r _ [176, 100, 136, 177, 178, 179, 2, 180, 16, 181, 182, 142, 143, 144, 145, 106, 107, 110, 146, 147, 148, 149, 150, 581, 582, 583, 584, 585, 586, 587, 588, 589, 590, 591, 623, 624, 625, 626, 627, 628, 629, 630, 631] (by decide +kernel) (by decide +kernel)) (goodIn_sub (fun _ h => List.mem_append_left _ (List.mem_append_left _ (List.mem_append_right _ h))) (by decide +kernel))) (goodIn_sub (fun _ h => List.mem_append_right _ h) (by decide +kernel))
set_option maxRecDepth 20000 in
theorem gL_law_L_setReserve : GoodIn wsL_law (va_wsS RL 93 yL_setReserve wsL_setReserve) := goodIn_app (goodIn_of _ (by decide +kernel)) ggL_law_L_setReserve
set_option maxRecDepth 20000 in
theorem ggL_law_X5_setReserve : GoodIn wsL_law wsX5_setReserve := goodIn_r _ [186, 77, 78, 155, 156, 157, 5, 158, 120, 121, 122, 123, 124, 125, 126, 127, 128, 592, 593, 594, 595, 596, 597, 598, 599, 600, 601, 602, 603, 604, 605, 606, 607, 608, 609, 610, 611, 612, 613, 614, 615, 616, 617, 618, 619, 620, 621, 622] (by decide +kernel) (by decide +kernel)
set_option maxRecDepth 20000 in
theorem gL_law_X5_setReserve : GoodIn wsL_law (wsV RL 95 RX5 yX5_setReserve wsX5_setReserve) := goodIn_app (goodIn_of _ (by decide +kernel)) ggL_law_X5_setReserve
set_option maxRecDepth 20000 in
theorem ggL_law_L_setShare : GoodIn wsL_law wsL_setShare := goodIn_ca (goodIn_ca (goodIn_r _ [189, 100, 136, 190, 191, 192, 2, 193, 30, 194, 195, 196, 106, 107, 146, 147, 148, 149, 150, 65, 66, 67, 68, 197, 198, 199, 200, 581, 582, 583, 584, 585, 586, 587, 588, 589, 590, 591] (by decide +kernel) (by decide +kernel)) (goodIn_sub (fun _ h => List.mem_append_left _ (List.mem_append_left _ (List.mem_append_right _ h))) (by decide +kernel))) (goodIn_sub (fun _ h => List.mem_append_right _ h) (by decide +kernel))
set_option maxRecDepth 20000 in
theorem gL_law_L_setShare : GoodIn wsL_law (va_wsS RL 96 yL_setShare wsL_setShare) := goodIn_app (goodIn_of _ (by decide +kernel)) ggL_law_L_setShare
set_option maxRecDepth 20000 in
theorem ggL_law_X5_setShare : GoodIn wsL_law wsX5_setShare := goodIn_r _ [204, 81, 205, 206, 207, 5, 208, 121, 122, 123, 124, 125, 126, 127, 128, 209, 210, 211, 212, 213, 214, 215, 216, 217, 218, 219, 220, 592, 593, 594, 595, 596, 597, 598, 599, 600, 601, 602, 603, 604, 605, 606, 607, 608, 609, 610, 611, 612, 613, 614, 615, 616, 617, 618, 619, 620, 621, 622] (by decide +kernel) (by decide +kernel)
set_option maxRecDepth 20000 in
theorem gL_law_X5_setShare : GoodIn wsL_law (wsV RL 98 RX5 yX5_setShare wsX5_setShare) := goodIn_app (goodIn_of _ (by decide +kernel)) ggL_law_X5_setShare
set_option maxRecDepth 20000 in
theorem ggL_law_L_setTax : GoodIn wsL_law wsL_setTax := goodIn_ca (goodIn_r _ [223, 136, 224, 225, 226, 2, 227, 228, 146, 147, 148, 149, 150, 581, 582, 583, 584, 585, 586, 587, 588, 589, 590, 591] (by decide +kernel) (by decide +kernel)) (goodIn_sub (fun _ h => List.mem_append_right _ h) (by decide +kernel))
set_option maxRecDepth 20000 in
theorem gL_law_L_setTax : GoodIn wsL_law (va_wsS RL 99 yL_setTax wsL_setTax) := goodIn_app (goodIn_of _ (by decide +kernel)) ggL_law_L_setTax
set_option maxRecDepth 20000 in
theorem ggL_law_X5_setTax : GoodIn wsL_law wsX5_setTax := goodIn_r _ [232, 233, 121, 122, 5, 123, 124, 125, 126, 127, 128, 592, 593, 594, 595, 596, 597, 598, 599, 600, 601, 602, 603, 604, 605, 606, 607, 608, 609, 610, 611, 612, 613, 614, 615, 616, 617, 618, 619, 620, 621, 622] (by decide +kernel) (by decide +kernel)
set_option maxRecDepth 20000 in
theorem gL_law_X5_setTax : GoodIn wsL_law (wsV RL 101 RX5 yX5_setTax wsX5_setTax) := goodIn_app (goodIn_of _ (by decide +kernel)) ggL_law_X5_setTax
set_option maxRecDepth 20000 in
theorem ggL_law_L_sell : GoodIn wsL_law wsL_sell := goodIn_ca (goodIn_ca (goodIn_ca (goodIn_r _ [236, 100, 136, 101, 237, 238, 239, 2, 240, 166, 142, 143, 144, 145, 106, 107, 16, 110, 194, 195, 196, 146, 147, 148, 149, 150, 241, 242, 243, 244, 108, 109, 20, 245, 246, 247, 248, 249, 30, 228, 250, 251, 252, 253, 181, 254, 255, 256, 257, 258, 259, 182, 260, 261, 262, 263, 264, 265, 266, 267, 268, 269, 270, 271, 19, 272, 273, 46, 49, 274, 275, 276, 277, 278, 28, 279, 280, 281, 27, 282, 283, 63, 64, 284, 285, 286, 287, 62, 581, 582, 583, 584, 585, 586, 587, 588, 589, 590, 591, 623, 624, 625, 626, 627, 628, 629, 630, 631, 632, 633, 634, 635, 636, 637, 638, 639, 644, 645, 646, 647] (by decide +kernel) (by decide +kernel)) (goodIn_sub (fun _ h => List.mem_append_left _ (List.mem_append_left _ (List.mem_append_right _ h))) (by decide +kernel))) (goodIn_sub (fun _ h => List.mem_append_right _ h) (by decide +kernel))) (goodIn_sub (fun _ h => List.mem_append_left _ (List.mem_append_right _ h)) (by decide +kernel))
set_option maxRecDepth 20000 in
theorem gL_law_L_sell : GoodIn wsL_law (va_wsS RL 102 yL_sell wsL_sell) := goodIn_app (goodIn_of _ (by decide +kernel)) ggL_law_L_sell
set_option maxRecDepth 20000 in
theorem ggL_law_X5_sell : GoodIn wsL_law wsX5_sell := goodIn_r _ [291, 173, 292, 155, 156, 157, 5, 158, 120, 121, 122, 123, 206, 207, 208, 124, 125, 126, 127, 128, 293, 294, 295, 296, 233, 81, 77, 297, 82, 83, 85, 86, 87, 89, 90, 298, 78, 79, 299, 300, 301, 302, 303, 304, 592, 593, 594, 595, 596, 597, 598, 599, 600, 601, 602, 603, 604, 605, 606, 607, 608, 609, 610, 611, 612, 613, 614, 615, 616, 617, 618, 619, 620, 621, 622] (by decide +kernel) (by decide +kernel)
set_option maxRecDepth 20000 in
theorem gL_law_X5_sell : GoodIn wsL_law (wsV RL 105 RX5 yX5_sell wsX5_sell) := goodIn_app (goodIn_of _ (by decide +kernel)) ggL_law_X5_sell
set_option maxRecDepth 20000 in
theorem ggL_law_L_order : GoodIn wsL_law wsL_order := goodIn_ca (goodIn_ca (goodIn_ca (goodIn_r _ [307, 100, 136, 101, 308, 309, 310, 2, 311, 149, 150, 108, 109, 166, 16, 110, 250, 251, 252, 253, 194, 195, 196, 106, 107, 146, 147, 148, 312, 313, 314, 315, 316, 317, 318, 241, 242, 243, 244, 20, 245, 319, 320, 321, 322, 246, 247, 248, 249, 30, 228, 181, 254, 255, 256, 257, 258, 259, 182, 260, 261, 262, 263, 264, 265, 266, 267, 268, 269, 270, 271, 19, 272, 273, 46, 49, 274, 275, 276, 277, 278, 28, 279, 280, 281, 27, 282, 283, 63, 64, 284, 285, 286, 287, 62, 581, 582, 583, 584, 585, 586, 587, 588, 589, 590, 591, 623, 624, 625, 626, 627, 628, 629, 630, 631, 632, 633, 634, 635, 636, 637, 638, 639, 644, 645, 646, 647] (by decide +kernel) (by decide +kernel)) (goodIn_sub (fun _ h => List.mem_append_right _ h) (by decide +kernel))) (goodIn_sub (fun _ h => List.mem_append_left _ (List.mem_append_right _ h)) (by decide +kernel))) (goodIn_sub (fun _ h => List.mem_append_left _ (List.mem_append_left _ (List.mem_append_right _ h))) (by decide +kernel))
set_option maxRecDepth 20000 in
theorem gL_law_L_order : GoodIn wsL_law (va_wsS RL 106 yL_order wsL_order) := goodIn_app (goodIn_of _ (by decide +kernel)) ggL_law_L_order
set_option maxRecDepth 20000 in
theorem ggL_law_X5_order : GoodIn wsL_law wsX5_order := goodIn_r _ [326, 173, 120, 292, 121, 122, 5, 123, 327, 328, 329, 206, 207, 208, 124, 125, 126, 127, 128, 293, 294, 295, 296, 233, 81, 77, 297, 82, 83, 85, 86, 87, 89, 90, 298, 78, 79, 299, 300, 301, 302, 303, 304, 592, 593, 594, 595, 596, 597, 598, 599, 600, 601, 602, 603, 604, 605, 606, 607, 608, 609, 610, 611, 612, 613, 614, 615, 616, 617, 618, 619, 620, 621, 622] (by decide +kernel) (by decide +kernel)
set_option maxRecDepth 20000 in
theorem gL_law_X5_order : GoodIn wsL_law (wsV RL 108 RX5 yX5_order wsX5_order) := goodIn_app (goodIn_of _ (by decide +kernel)) ggL_law_X5_order
set_option maxRecDepth 20000 in
theorem ggL_law_L_refund : GoodIn wsL_law wsL_refund := goodIn_ca (goodIn_ca (goodIn_ca (goodIn_r _ [332, 100, 136, 101, 333, 334, 335, 2, 336, 106, 107, 108, 109, 20, 245, 166, 337, 338, 255, 254, 256, 250, 251, 252, 253, 339, 261, 262, 16, 278, 146, 147, 148, 149, 150, 263, 264, 265, 266, 267, 268, 274, 275, 276, 277, 28, 279, 280, 281, 27, 282, 283, 63, 64, 284, 285, 286, 287, 62, 581, 582, 583, 584, 585, 586, 587, 588, 589, 590, 591, 632, 633, 634, 635, 636, 637, 638, 639, 623, 624, 625, 626, 627, 628, 629, 630, 631, 644, 645, 646, 647] (by decide +kernel) (by decide +kernel)) (goodIn_sub (fun _ h => List.mem_append_left _ (List.mem_append_left _ (List.mem_append_right _ h))) (by decide +kernel))) (goodIn_sub (fun _ h => List.mem_append_left _ (List.mem_append_right _ h)) (by decide +kernel))) (goodIn_sub (fun _ h => List.mem_append_right _ h) (by decide +kernel))
set_option maxRecDepth 20000 in
theorem gL_law_L_refund : GoodIn wsL_law (va_wsS RL 109 yL_refund wsL_refund) := goodIn_app (goodIn_of _ (by decide +kernel)) ggL_law_L_refund
set_option maxRecDepth 20000 in
theorem ggL_law_X5_refund : GoodIn wsL_law wsX5_refund := goodIn_r _ [343, 292, 173, 83, 84, 86, 85, 88, 87, 344, 301, 300, 79, 82, 121, 122, 5, 123, 124, 125, 126, 127, 128, 302, 303, 304, 592, 593, 594, 595, 596, 597, 598, 599, 600, 601, 602, 603, 604, 605, 606, 607, 608, 609, 610, 611, 612, 613, 614, 615, 616, 617, 618, 619, 620, 621, 622] (by decide +kernel) (by decide +kernel)
set_option maxRecDepth 20000 in
theorem gL_law_X5_refund : GoodIn wsL_law (wsV RL 112 RX5 yX5_refund wsX5_refund) := goodIn_app (goodIn_of _ (by decide +kernel)) ggL_law_X5_refund
set_option maxRecDepth 20000 in
theorem ggL_law_L_pass : GoodIn wsL_law wsL_pass := goodIn_ca (goodIn_ca (goodIn_r _ [347, 136, 101, 348, 349, 350, 2, 351, 108, 109, 259, 24, 352, 146, 147, 148, 149, 150, 353, 354, 355, 356, 16, 110, 167, 357, 358, 359, 360, 20, 245, 258, 257, 361, 362, 363, 364, 338, 274, 275, 276, 277, 278, 28, 279, 280, 281, 27, 282, 283, 63, 64, 284, 285, 286, 287, 62, 365, 366, 367, 368, 250, 251, 252, 253, 369, 370, 371, 372, 373, 374, 375, 376, 377, 378, 379, 380, 381, 382, 141, 168, 383, 384, 385, 386, 23, 387, 388, 57, 56, 389, 390, 391, 392, 58, 393, 394, 395, 396, 397, 398, 399, 400, 401, 402, 34, 403, 404, 405, 406, 407, 581, 582, 583, 584, 585, 586, 587, 588, 589, 590, 591, 640, 641, 642, 643, 623, 624, 625, 626, 627, 628, 629, 630, 631, 632, 633, 634, 635, 636, 637, 638, 639, 644, 645, 646, 647] (by decide +kernel) (by decide +kernel)) (goodIn_sub (fun _ h => List.mem_append_left _ (List.mem_append_right _ h)) (by decide +kernel))) (goodIn_sub (fun _ h => List.mem_append_right _ h) (by decide +kernel))
set_option maxRecDepth 20000 in
theorem gL_law_L_pass : GoodIn wsL_law (va_wsS RL 113 yL_pass wsL_pass) := goodIn_app (goodIn_of _ (by decide +kernel)) ggL_law_L_pass
set_option maxRecDepth 20000 in
theorem ggL_law_X5_pass : GoodIn wsL_law wsX5_pass := goodIn_r _ [411, 298, 412, 121, 122, 5, 123, 124, 125, 126, 127, 128, 413, 414, 415, 416, 120, 75, 417, 418, 419, 420, 292, 90, 79, 82, 89, 421, 422, 423, 424, 425, 426, 427, 428, 429, 430, 431, 73, 432, 433, 434, 435, 76, 74, 436, 80, 91, 92, 592, 593, 594, 595, 596, 597, 598, 599, 600, 601, 602, 603, 604, 605, 606, 607, 608, 609, 610, 611, 612, 613, 614, 615, 616, 617, 618, 619, 620, 621, 622] (by decide +kernel) (by decide +kernel)
set_option maxRecDepth 20000 in
theorem gL_law_X5_pass : GoodIn wsL_law (wsV RL 115 RX5 yX5_pass wsX5_pass) := goodIn_app (goodIn_of _ (by decide +kernel)) ggL_law_X5_pass
set_option maxRecDepth 20000 in
theorem ggL_law_L_fail : GoodIn wsL_law wsL_fail := goodIn_ca (goodIn_ca (goodIn_r _ [439, 100, 101, 440, 441, 442, 2, 443, 108, 109, 24, 444, 445, 446, 16, 378, 278, 447, 448, 449, 450, 106, 107, 352, 274, 275, 276, 277, 28, 279, 280, 281, 27, 282, 283, 63, 64, 284, 285, 286, 287, 62, 581, 582, 583, 584, 585, 586, 587, 588, 589, 590, 591, 640, 641, 642, 643, 623, 624, 625, 626, 627, 628, 629, 630, 631, 644, 645, 646, 647] (by decide +kernel) (by decide +kernel)) (goodIn_sub (fun _ h => List.mem_append_left _ (List.mem_append_right _ h)) (by decide +kernel))) (goodIn_sub (fun _ h => List.mem_append_left _ (List.mem_append_left _ (List.mem_append_right _ h))) (by decide +kernel))
set_option maxRecDepth 20000 in
theorem gL_law_L_fail : GoodIn wsL_law (va_wsS RL 116 yL_fail wsL_fail) := goodIn_app (goodIn_of _ (by decide +kernel)) ggL_law_L_fail
set_option maxRecDepth 20000 in
theorem ggL_law_X5_fail : GoodIn wsL_law wsX5_fail := goodIn_r _ [454, 94, 92, 79, 91, 80, 455, 456, 457, 5, 458, 412, 121, 122, 123, 124, 125, 126, 127, 128, 592, 593, 594, 595, 596, 597, 598, 599, 600, 601, 602, 603, 604, 605, 606, 607, 608, 609, 610, 611, 612, 613, 614, 615, 616, 617, 618, 619, 620, 621, 622] (by decide +kernel) (by decide +kernel)
set_option maxRecDepth 20000 in
theorem gL_law_X5_fail : GoodIn wsL_law (wsV RL 118 RX5 yX5_fail wsX5_fail) := goodIn_app (goodIn_of _ (by decide +kernel)) ggL_law_X5_fail
set_option maxRecDepth 20000 in
theorem ggL_law_X4_today : GoodIn wsL_law wsX4_today := goodIn_r _ [462, 259, 581, 582, 583, 584, 585, 586, 587, 588, 589, 590, 591] (by decide +kernel) (by decide +kernel)
set_option maxRecDepth 20000 in
theorem gL_law_X4_today : GoodIn wsL_law (wsV RL 119 RX4 yX4_today wsX4_today) := goodIn_app (goodIn_of _ (by decide +kernel)) ggL_law_X4_today
set_option maxRecDepth 20000 in
theorem ggL_law_X5_today : GoodIn wsL_law wsX5_today := goodIn_r _ [466, 128, 298, 592, 593, 594, 595, 596, 597, 598, 599, 600, 601, 602, 603, 604, 605, 606, 607, 608, 609, 610, 611, 612, 613, 614, 615, 616, 617, 618, 619, 620, 621, 622] (by decide +kernel) (by decide +kernel)
set_option maxRecDepth 20000 in
theorem gL_law_X5_today : GoodIn wsL_law (wsV RL 122 RX5 yX5_today wsX5_today) := goodIn_app (goodIn_of _ (by decide +kernel)) ggL_law_X5_today
set_option maxRecDepth 20000 in
theorem ggL_law_X4_payouts : GoodIn wsL_law wsX4_payouts := goodIn_r _ [470, 24, 352, 581, 582, 583, 584, 585, 586, 587, 588, 589, 590, 591, 640, 641, 642, 643] (by decide +kernel) (by decide +kernel)
set_option maxRecDepth 20000 in
theorem gL_law_X4_payouts : GoodIn wsL_law (wsV RL 123 RX4 yX4_payouts wsX4_payouts) := goodIn_app (goodIn_of _ (by decide +kernel)) ggL_law_X4_payouts
set_option maxRecDepth 20000 in
theorem ggL_law_X5_payouts : GoodIn wsL_law wsX5_payouts := goodIn_r _ [474, 128, 412, 592, 593, 594, 595, 596, 597, 598, 599, 600, 601, 602, 603, 604, 605, 606, 607, 608, 609, 610, 611, 612, 613, 614, 615, 616, 617, 618, 619, 620, 621, 622] (by decide +kernel) (by decide +kernel)
set_option maxRecDepth 20000 in
theorem gL_law_X5_payouts : GoodIn wsL_law (wsV RL 126 RX5 yX5_payouts wsX5_payouts) := goodIn_app (goodIn_of _ (by decide +kernel)) ggL_law_X5_payouts
set_option maxRecDepth 20000 in
theorem ggL_law_L_payout : GoodIn wsL_law wsL_payout := goodIn_ca (goodIn_r _ [477, 100, 478, 479, 480, 2, 481, 24, 446, 447, 448, 449, 450, 106, 107, 352, 581, 582, 583, 584, 585, 586, 587, 588, 589, 590, 591, 640, 641, 642, 643] (by decide +kernel) (by decide +kernel)) (goodIn_sub (fun _ h => List.mem_append_left _ (List.mem_append_left _ (List.mem_append_right _ h))) (by decide +kernel))
set_option maxRecDepth 20000 in
theorem gL_law_L_payout : GoodIn wsL_law (va_wsS RL 127 yL_payout wsL_payout) := goodIn_app (goodIn_of _ (by decide +kernel)) ggL_law_L_payout
set_option maxRecDepth 20000 in
theorem ggL_law_X5_payout : GoodIn wsL_law wsX5_payout := goodIn_r _ [485, 91, 455, 456, 457, 5, 458, 412, 121, 122, 123, 124, 125, 126, 127, 128, 592, 593, 594, 595, 596, 597, 598, 599, 600, 601, 602, 603, 604, 605, 606, 607, 608, 609, 610, 611, 612, 613, 614, 615, 616, 617, 618, 619, 620, 621, 622] (by decide +kernel) (by decide +kernel)
set_option maxRecDepth 20000 in
theorem gL_law_X5_payout : GoodIn wsL_law (wsV RL 129 RX5 yX5_payout wsX5_payout) := goodIn_app (goodIn_of _ (by decide +kernel)) ggL_law_X5_payout
set_option maxRecDepth 20000 in
theorem ggL_law_L_sellerOf : GoodIn wsL_law wsL_sellerOf := goodIn_ca (goodIn_r _ [488, 100, 489, 490, 491, 2, 492, 24, 445, 447, 448, 449, 450, 106, 107, 352, 581, 582, 583, 584, 585, 586, 587, 588, 589, 590, 591, 640, 641, 642, 643] (by decide +kernel) (by decide +kernel)) (goodIn_sub (fun _ h => List.mem_append_left _ (List.mem_append_left _ (List.mem_append_right _ h))) (by decide +kernel))
set_option maxRecDepth 20000 in
theorem gL_law_L_sellerOf : GoodIn wsL_law (va_wsS RL 130 yL_sellerOf wsL_sellerOf) := goodIn_app (goodIn_of _ (by decide +kernel)) ggL_law_L_sellerOf
set_option maxRecDepth 20000 in
theorem ggL_law_X5_sellerOf : GoodIn wsL_law wsX5_sellerOf := goodIn_r _ [496, 92, 455, 456, 457, 5, 458, 412, 121, 122, 123, 124, 125, 126, 127, 128, 592, 593, 594, 595, 596, 597, 598, 599, 600, 601, 602, 603, 604, 605, 606, 607, 608, 609, 610, 611, 612, 613, 614, 615, 616, 617, 618, 619, 620, 621, 622] (by decide +kernel) (by decide +kernel)
set_option maxRecDepth 20000 in
theorem gL_law_X5_sellerOf : GoodIn wsL_law (wsV RL 132 RX5 yX5_sellerOf wsX5_sellerOf) := goodIn_app (goodIn_of _ (by decide +kernel)) ggL_law_X5_sellerOf
set_option maxRecDepth 20000 in
theorem ggL_law_L_balance : GoodIn wsL_law wsL_balance := goodIn_ca (goodIn_r _ [499, 100, 500, 501, 502, 2, 503, 16, 278, 142, 143, 144, 145, 106, 107, 110, 581, 582, 583, 584, 585, 586, 587, 588, 589, 590, 591, 623, 624, 625, 626, 627, 628, 629, 630, 631] (by decide +kernel) (by decide +kernel)) (goodIn_sub (fun _ h => List.mem_append_left _ (List.mem_append_left _ (List.mem_append_right _ h))) (by decide +kernel))
set_option maxRecDepth 20000 in
theorem gL_law_L_balance : GoodIn wsL_law (va_wsS RL 133 yL_balance wsL_balance) := goodIn_app (goodIn_of _ (by decide +kernel)) ggL_law_L_balance
set_option maxRecDepth 20000 in
theorem ggL_law_X5_balance : GoodIn wsL_law wsX5_balance := goodIn_r _ [507, 79, 155, 156, 157, 5, 158, 120, 121, 122, 123, 124, 125, 126, 127, 128, 592, 593, 594, 595, 596, 597, 598, 599, 600, 601, 602, 603, 604, 605, 606, 607, 608, 609, 610, 611, 612, 613, 614, 615, 616, 617, 618, 619, 620, 621, 622] (by decide +kernel) (by decide +kernel)
set_option maxRecDepth 20000 in
theorem gL_law_X5_balance : GoodIn wsL_law (wsV RL 135 RX5 yX5_balance wsX5_balance) := goodIn_app (goodIn_of _ (by decide +kernel)) ggL_law_X5_balance
set_option maxRecDepth 20000 in
theorem ggL_law_L_balanceByEntries : GoodIn wsL_law wsL_balanceByEntries := goodIn_ca (goodIn_r _ [510, 100, 511, 512, 513, 2, 514, 28, 142, 143, 144, 145, 106, 107, 16, 110, 515, 516, 517, 27, 518, 62, 283, 63, 64, 581, 582, 583, 584, 585, 586, 587, 588, 589, 590, 591, 623, 624, 625, 626, 627, 628, 629, 630, 631, 644, 645, 646, 647] (by decide +kernel) (by decide +kernel)) (goodIn_sub (fun _ h => List.mem_append_left _ (List.mem_append_left _ (List.mem_append_right _ h))) (by decide +kernel))
set_option maxRecDepth 20000 in
theorem gL_law_L_balanceByEntries : GoodIn wsL_law (va_wsS RL 136 yL_balanceByEntries wsL_balanceByEntries) := goodIn_app (goodIn_of _ (by decide +kernel)) ggL_law_L_balanceByEntries
set_option maxRecDepth 20000 in
theorem ggL_law_X5_balanceByEntries : GoodIn wsL_law wsX5_balanceByEntries := goodIn_r _ [522, 79, 155, 156, 157, 5, 158, 120, 121, 122, 123, 124, 125, 126, 127, 128, 592, 593, 594, 595, 596, 597, 598, 599, 600, 601, 602, 603, 604, 605, 606, 607, 608, 609, 610, 611, 612, 613, 614, 615, 616, 617, 618, 619, 620, 621, 622] (by decide +kernel) (by decide +kernel)
set_option maxRecDepth 20000 in
theorem gL_law_X5_balanceByEntries : GoodIn wsL_law (wsV RL 138 RX5 yX5_balanceByEntries wsX5_balanceByEntries) := goodIn_app (goodIn_of _ (by decide +kernel)) ggL_law_X5_balanceByEntries
set_option maxRecDepth 20000 in
theorem ggL_law_L_reserve : GoodIn wsL_law wsL_reserve := goodIn_ca (goodIn_r _ [525, 100, 526, 527, 528, 2, 529, 20, 142, 143, 144, 145, 106, 107, 16, 110, 530, 531, 532, 19, 533, 273, 46, 51, 581, 582, 583, 584, 585, 586, 587, 588, 589, 590, 591, 623, 624, 625, 626, 627, 628, 629, 630, 631, 632, 633, 634, 635, 636, 637, 638, 639] (by decide +kernel) (by decide +kernel)) (goodIn_sub (fun _ h => List.mem_append_left _ (List.mem_append_left _ (List.mem_append_right _ h))) (by decide +kernel))
set_option maxRecDepth 20000 in
theorem gL_law_L_reserve : GoodIn wsL_law (va_wsS RL 139 yL_reserve wsL_reserve) := goodIn_app (goodIn_of _ (by decide +kernel)) ggL_law_L_reserve
set_option maxRecDepth 20000 in
theorem ggL_law_X5_reserve : GoodIn wsL_law wsX5_reserve := goodIn_r _ [537, 292, 82, 89, 155, 156, 157, 5, 158, 120, 121, 122, 123, 124, 125, 126, 127, 128, 592, 593, 594, 595, 596, 597, 598, 599, 600, 601, 602, 603, 604, 605, 606, 607, 608, 609, 610, 611, 612, 613, 614, 615, 616, 617, 618, 619, 620, 621, 622] (by decide +kernel) (by decide +kernel)
set_option maxRecDepth 20000 in
theorem gL_law_X5_reserve : GoodIn wsL_law (wsV RL 141 RX5 yX5_reserve wsX5_reserve) := goodIn_app (goodIn_of _ (by decide +kernel)) ggL_law_X5_reserve
set_option maxRecDepth 20000 in
theorem ggL_law_L_paidTo : GoodIn wsL_law wsL_paidTo := goodIn_ca (goodIn_r _ [540, 100, 541, 542, 543, 2, 544, 16, 378, 142, 143, 144, 145, 106, 107, 110, 581, 582, 583, 584, 585, 586, 587, 588, 589, 590, 591, 623, 624, 625, 626, 627, 628, 629, 630, 631] (by decide +kernel) (by decide +kernel)) (goodIn_sub (fun _ h => List.mem_append_left _ (List.mem_append_left _ (List.mem_append_right _ h))) (by decide +kernel))
set_option maxRecDepth 20000 in
theorem gL_law_L_paidTo : GoodIn wsL_law (va_wsS RL 142 yL_paidTo wsL_paidTo) := goodIn_app (goodIn_of _ (by decide +kernel)) ggL_law_L_paidTo
set_option maxRecDepth 20000 in
theorem ggL_law_X5_paidTo : GoodIn wsL_law wsX5_paidTo := goodIn_r _ [548, 80, 155, 156, 157, 5, 158, 120, 121, 122, 123, 124, 125, 126, 127, 128, 592, 593, 594, 595, 596, 597, 598, 599, 600, 601, 602, 603, 604, 605, 606, 607, 608, 609, 610, 611, 612, 613, 614, 615, 616, 617, 618, 619, 620, 621, 622] (by decide +kernel) (by decide +kernel)
set_option maxRecDepth 20000 in
theorem gL_law_X5_paidTo : GoodIn wsL_law (wsV RL 144 RX5 yX5_paidTo wsX5_paidTo) := goodIn_app (goodIn_of _ (by decide +kernel)) ggL_law_X5_paidTo
set_option maxRecDepth 20000 in
theorem ggL_law_X4_received : GoodIn wsL_law wsX4_received := goodIn_r _ [552, 260, 581, 582, 583, 584, 585, 586, 587, 588, 589, 590, 591] (by decide +kernel) (by decide +kernel)
set_option maxRecDepth 20000 in
theorem gL_law_X4_received : GoodIn wsL_law (wsV RL 145 RX4 yX4_received wsX4_received) := goodIn_app (goodIn_of _ (by decide +kernel)) ggL_law_X4_received
set_option maxRecDepth 20000 in
theorem ggL_law_X5_received : GoodIn wsL_law wsX5_received := goodIn_r _ [556, 128, 299, 592, 593, 594, 595, 596, 597, 598, 599, 600, 601, 602, 603, 604, 605, 606, 607, 608, 609, 610, 611, 612, 613, 614, 615, 616, 617, 618, 619, 620, 621, 622] (by decide +kernel) (by decide +kernel)
set_option maxRecDepth 20000 in
theorem gL_law_X5_received : GoodIn wsL_law (wsV RL 148 RX5 yX5_received wsX5_received) := goodIn_app (goodIn_of _ (by decide +kernel)) ggL_law_X5_received
set_option maxRecDepth 20000 in
theorem ggL_law_X4_refunded : GoodIn wsL_law wsX4_refunded := goodIn_r _ [560, 339, 581, 582, 583, 584, 585, 586, 587, 588, 589, 590, 591] (by decide +kernel) (by decide +kernel)
set_option maxRecDepth 20000 in
theorem gL_law_X4_refunded : GoodIn wsL_law (wsV RL 149 RX4 yX4_refunded wsX4_refunded) := goodIn_app (goodIn_of _ (by decide +kernel)) ggL_law_X4_refunded
set_option maxRecDepth 20000 in
theorem ggL_law_X5_refunded : GoodIn wsL_law wsX5_refunded := goodIn_r _ [564, 128, 344, 592, 593, 594, 595, 596, 597, 598, 599, 600, 601, 602, 603, 604, 605, 606, 607, 608, 609, 610, 611, 612, 613, 614, 615, 616, 617, 618, 619, 620, 621, 622] (by decide +kernel) (by decide +kernel)
set_option maxRecDepth 20000 in
theorem gL_law_X5_refunded : GoodIn wsL_law (wsV RL 152 RX5 yX5_refunded wsX5_refunded) := goodIn_app (goodIn_of _ (by decide +kernel)) ggL_law_X5_refunded
set_option maxRecDepth 20000 in
theorem ggL_law_X4_fees : GoodIn wsL_law wsX4_fees := goodIn_r _ [568, 262, 581, 582, 583, 584, 585, 586, 587, 588, 589, 590, 591] (by decide +kernel) (by decide +kernel)
set_option maxRecDepth 20000 in
theorem gL_law_X4_fees : GoodIn wsL_law (wsV RL 153 RX4 yX4_fees wsX4_fees) := goodIn_app (goodIn_of _ (by decide +kernel)) ggL_law_X4_fees
set_option maxRecDepth 20000 in
theorem ggL_law_X5_fees : GoodIn wsL_law wsX5_fees := goodIn_r _ [572, 128, 300, 592, 593, 594, 595, 596, 597, 598, 599, 600, 601, 602, 603, 604, 605, 606, 607, 608, 609, 610, 611, 612, 613, 614, 615, 616, 617, 618, 619, 620, 621, 622] (by decide +kernel) (by decide +kernel)
set_option maxRecDepth 20000 in
theorem gL_law_X5_fees : GoodIn wsL_law (wsV RL 156 RX5 yX5_fees wsX5_fees) := goodIn_app (goodIn_of _ (by decide +kernel)) ggL_law_X5_fees
set_option maxRecDepth 20000 in
theorem ggL_law_X4_taxes : GoodIn wsL_law wsX4_taxes := goodIn_r _ [576, 261, 581, 582, 583, 584, 585, 586, 587, 588, 589, 590, 591] (by decide +kernel) (by decide +kernel)
set_option maxRecDepth 20000 in
theorem gL_law_X4_taxes : GoodIn wsL_law (wsV RL 157 RX4 yX4_taxes wsX4_taxes) := goodIn_app (goodIn_of _ (by decide +kernel)) ggL_law_X4_taxes
set_option maxRecDepth 20000 in
theorem ggL_law_X5_taxes : GoodIn wsL_law wsX5_taxes := goodIn_r _ [580, 128, 301, 592, 593, 594, 595, 596, 597, 598, 599, 600, 601, 602, 603, 604, 605, 606, 607, 608, 609, 610, 611, 612, 613, 614, 615, 616, 617, 618, 619, 620, 621, 622] (by decide +kernel) (by decide +kernel)
set_option maxRecDepth 20000 in
theorem gL_law_X5_taxes : GoodIn wsL_law (wsV RL 160 RX5 yX5_taxes wsX5_taxes) := goodIn_app (goodIn_of _ (by decide +kernel)) ggL_law_X5_taxes
