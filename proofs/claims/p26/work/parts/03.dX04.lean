theorem dX0_init_0 : decode cX0_init 0 = .ok (.aload_n 0, 1) := by decide +kernel
theorem dX0_init_1 : decode cX0_init 1 = .ok (.invokespecial 3, 3) := by decide +kernel
theorem dX0_init_4 : decode cX0_init 4 = .ok (.aload_n 0, 1) := by decide +kernel
theorem dX0_init_5 : decode cX0_init 5 = .ok (.bipush 8, 2) := by decide +kernel
theorem dX0_init_7 : decode cX0_init 7 = .ok (.newarray .int, 2) := by decide +kernel
theorem dX0_init_9 : decode cX0_init 9 = .ok (.putfield 9, 3) := by decide +kernel
theorem dX0_init_12 : decode cX0_init 12 = .ok (.aload_n 0, 1) := by decide +kernel
theorem dX0_init_13 : decode cX0_init 13 = .ok (.sipush 256, 3) := by decide +kernel
theorem dX0_init_16 : decode cX0_init 16 = .ok (.newarray .int, 2) := by decide +kernel
theorem dX0_init_18 : decode cX0_init 18 = .ok (.putfield 15, 3) := by decide +kernel
theorem dX0_init_21 : decode cX0_init 21 = .ok (.aload_n 0, 1) := by decide +kernel
theorem dX0_init_22 : decode cX0_init 22 = .ok (.sipush 256, 3) := by decide +kernel
theorem dX0_init_25 : decode cX0_init 25 = .ok (.newarray .int, 2) := by decide +kernel
theorem dX0_init_27 : decode cX0_init 27 = .ok (.putfield 18, 3) := by decide +kernel
theorem dX0_init_30 : decode cX0_init 30 = .ok (.return_, 1) := by decide +kernel
set_option maxRecDepth 20000 in
theorem ggX0_enter_X0_carryForward : GoodIn wsX0_enter wsX0_carryForward := goodIn_r _ [8, 1, 9, 2, 3, 10, 11, 12, 13] (by decide +kernel) (by decide +kernel)
set_option maxRecDepth 20000 in
theorem gX0_enter_X0_carryForward : GoodIn wsX0_enter (wsV RX0 25 RX0 yX0_carryForward wsX0_carryForward) := goodIn_app (goodIn_of _ (by decide +kernel)) ggX0_enter_X0_carryForward
theorem dX0_enter_0 : decode cX0_enter 0 = .ok (.iload_n 2, 1) := by decide +kernel
theorem dX0_enter_1 : decode cX0_enter 1 = .ok (.ifCond .ne 4, 3) := by decide +kernel
theorem dX0_enter_4 : decode cX0_enter 4 = .ok (.return_, 1) := by decide +kernel
theorem dX0_enter_5 : decode cX0_enter 5 = .ok (.aload_n 0, 1) := by decide +kernel
theorem dX0_enter_6 : decode cX0_enter 6 = .ok (.getfield 21, 3) := by decide +kernel
theorem dX0_enter_9 : decode cX0_enter 9 = .ok (.sipush 256, 3) := by decide +kernel
theorem dX0_enter_12 : decode cX0_enter 12 = .ok (.if_icmp .lt 7, 3) := by decide +kernel
theorem dX0_enter_15 : decode cX0_enter 15 = .ok (.aload_n 0, 1) := by decide +kernel
theorem dX0_enter_16 : decode cX0_enter 16 = .ok (.invokevirtual 25, 3) := by decide +kernel
theorem dX0_enter_19 : decode cX0_enter 19 = .ok (.aload_n 0, 1) := by decide +kernel
theorem dX0_enter_20 : decode cX0_enter 20 = .ok (.getfield 15, 3) := by decide +kernel
theorem dX0_enter_23 : decode cX0_enter 23 = .ok (.aload_n 0, 1) := by decide +kernel
theorem dX0_enter_24 : decode cX0_enter 24 = .ok (.getfield 21, 3) := by decide +kernel
theorem dX0_enter_27 : decode cX0_enter 27 = .ok (.iload_n 1, 1) := by decide +kernel
theorem dX0_enter_28 : decode cX0_enter 28 = .ok (.iastore, 1) := by decide +kernel
theorem dX0_enter_29 : decode cX0_enter 29 = .ok (.aload_n 0, 1) := by decide +kernel
theorem dX0_enter_30 : decode cX0_enter 30 = .ok (.getfield 18, 3) := by decide +kernel
theorem dX0_enter_33 : decode cX0_enter 33 = .ok (.aload_n 0, 1) := by decide +kernel
theorem dX0_enter_34 : decode cX0_enter 34 = .ok (.getfield 21, 3) := by decide +kernel
theorem dX0_enter_37 : decode cX0_enter 37 = .ok (.iload_n 2, 1) := by decide +kernel
theorem dX0_enter_38 : decode cX0_enter 38 = .ok (.iastore, 1) := by decide +kernel
theorem dX0_enter_39 : decode cX0_enter 39 = .ok (.aload_n 0, 1) := by decide +kernel
theorem dX0_enter_40 : decode cX0_enter 40 = .ok (.dup, 1) := by decide +kernel
theorem dX0_enter_41 : decode cX0_enter 41 = .ok (.getfield 21, 3) := by decide +kernel
theorem dX0_enter_44 : decode cX0_enter 44 = .ok (.iconst 1, 1) := by decide +kernel
theorem dX0_enter_45 : decode cX0_enter 45 = .ok (.iadd, 1) := by decide +kernel
theorem dX0_enter_46 : decode cX0_enter 46 = .ok (.putfield 21, 3) := by decide +kernel
theorem dX0_enter_49 : decode cX0_enter 49 = .ok (.return_, 1) := by decide +kernel
theorem dX0_carryForward_0 : decode cX0_carryForward 0 = .ok (.iconst 0, 1) := by decide +kernel
theorem dX0_carryForward_1 : decode cX0_carryForward 1 = .ok (.istore_n 1, 1) := by decide +kernel
theorem dX0_carryForward_2 : decode cX0_carryForward 2 = .ok (.iload_n 1, 1) := by decide +kernel
theorem dX0_carryForward_3 : decode cX0_carryForward 3 = .ok (.aload_n 0, 1) := by decide +kernel
theorem dX0_carryForward_4 : decode cX0_carryForward 4 = .ok (.getfield 21, 3) := by decide +kernel
theorem dX0_carryForward_7 : decode cX0_carryForward 7 = .ok (.if_icmp .ge 29, 3) := by decide +kernel
theorem dX0_carryForward_10 : decode cX0_carryForward 10 = .ok (.aload_n 0, 1) := by decide +kernel
theorem dX0_carryForward_11 : decode cX0_carryForward 11 = .ok (.getfield 9, 3) := by decide +kernel
theorem dX0_carryForward_14 : decode cX0_carryForward 14 = .ok (.aload_n 0, 1) := by decide +kernel
theorem dX0_carryForward_15 : decode cX0_carryForward 15 = .ok (.getfield 15, 3) := by decide +kernel
theorem dX0_carryForward_18 : decode cX0_carryForward 18 = .ok (.iload_n 1, 1) := by decide +kernel
theorem dX0_carryForward_19 : decode cX0_carryForward 19 = .ok (.iaload, 1) := by decide +kernel
theorem dX0_carryForward_20 : decode cX0_carryForward 20 = .ok (.dup2, 1) := by decide +kernel
theorem dX0_carryForward_21 : decode cX0_carryForward 21 = .ok (.iaload, 1) := by decide +kernel
theorem dX0_carryForward_22 : decode cX0_carryForward 22 = .ok (.aload_n 0, 1) := by decide +kernel
theorem dX0_carryForward_23 : decode cX0_carryForward 23 = .ok (.getfield 18, 3) := by decide +kernel
theorem dX0_carryForward_26 : decode cX0_carryForward 26 = .ok (.iload_n 1, 1) := by decide +kernel
theorem dX0_carryForward_27 : decode cX0_carryForward 27 = .ok (.iaload, 1) := by decide +kernel
theorem dX0_carryForward_28 : decode cX0_carryForward 28 = .ok (.iadd, 1) := by decide +kernel
theorem dX0_carryForward_29 : decode cX0_carryForward 29 = .ok (.iastore, 1) := by decide +kernel
theorem dX0_carryForward_30 : decode cX0_carryForward 30 = .ok (.iinc 1 1, 3) := by decide +kernel
theorem dX0_carryForward_33 : decode cX0_carryForward 33 = .ok (.goto (-31), 3) := by decide +kernel
theorem dX0_carryForward_36 : decode cX0_carryForward 36 = .ok (.aload_n 0, 1) := by decide +kernel
theorem dX0_carryForward_37 : decode cX0_carryForward 37 = .ok (.iconst 0, 1) := by decide +kernel
theorem dX0_carryForward_38 : decode cX0_carryForward 38 = .ok (.putfield 21, 3) := by decide +kernel
theorem dX0_carryForward_41 : decode cX0_carryForward 41 = .ok (.return_, 1) := by decide +kernel
theorem dX0_sumOf_0 : decode cX0_sumOf 0 = .ok (.aload_n 0, 1) := by decide +kernel
theorem dX0_sumOf_1 : decode cX0_sumOf 1 = .ok (.getfield 9, 3) := by decide +kernel
theorem dX0_sumOf_4 : decode cX0_sumOf 4 = .ok (.iload_n 1, 1) := by decide +kernel
theorem dX0_sumOf_5 : decode cX0_sumOf 5 = .ok (.iaload, 1) := by decide +kernel
theorem dX0_sumOf_6 : decode cX0_sumOf 6 = .ok (.istore_n 2, 1) := by decide +kernel
theorem dX0_sumOf_7 : decode cX0_sumOf 7 = .ok (.iconst 0, 1) := by decide +kernel
theorem dX0_sumOf_8 : decode cX0_sumOf 8 = .ok (.istore_n 3, 1) := by decide +kernel
theorem dX0_sumOf_9 : decode cX0_sumOf 9 = .ok (.iload_n 3, 1) := by decide +kernel
theorem dX0_sumOf_10 : decode cX0_sumOf 10 = .ok (.aload_n 0, 1) := by decide +kernel
theorem dX0_sumOf_11 : decode cX0_sumOf 11 = .ok (.getfield 21, 3) := by decide +kernel
theorem dX0_sumOf_14 : decode cX0_sumOf 14 = .ok (.if_icmp .ge 28, 3) := by decide +kernel
theorem dX0_sumOf_17 : decode cX0_sumOf 17 = .ok (.aload_n 0, 1) := by decide +kernel
theorem dX0_sumOf_18 : decode cX0_sumOf 18 = .ok (.getfield 15, 3) := by decide +kernel
theorem dX0_sumOf_21 : decode cX0_sumOf 21 = .ok (.iload_n 3, 1) := by decide +kernel
theorem dX0_sumOf_22 : decode cX0_sumOf 22 = .ok (.iaload, 1) := by decide +kernel
theorem dX0_sumOf_23 : decode cX0_sumOf 23 = .ok (.iload_n 1, 1) := by decide +kernel
theorem dX0_sumOf_24 : decode cX0_sumOf 24 = .ok (.if_icmp .ne 12, 3) := by decide +kernel
theorem dX0_sumOf_27 : decode cX0_sumOf 27 = .ok (.iload_n 2, 1) := by decide +kernel
theorem dX0_sumOf_28 : decode cX0_sumOf 28 = .ok (.aload_n 0, 1) := by decide +kernel
theorem dX0_sumOf_29 : decode cX0_sumOf 29 = .ok (.getfield 18, 3) := by decide +kernel
theorem dX0_sumOf_32 : decode cX0_sumOf 32 = .ok (.iload_n 3, 1) := by decide +kernel
theorem dX0_sumOf_33 : decode cX0_sumOf 33 = .ok (.iaload, 1) := by decide +kernel
theorem dX0_sumOf_34 : decode cX0_sumOf 34 = .ok (.iadd, 1) := by decide +kernel
theorem dX0_sumOf_35 : decode cX0_sumOf 35 = .ok (.istore_n 2, 1) := by decide +kernel
theorem dX0_sumOf_36 : decode cX0_sumOf 36 = .ok (.iinc 3 1, 3) := by decide +kernel
theorem dX0_sumOf_39 : decode cX0_sumOf 39 = .ok (.goto (-30), 3) := by decide +kernel
theorem dX0_sumOf_42 : decode cX0_sumOf 42 = .ok (.iload_n 2, 1) := by decide +kernel
theorem dX0_sumOf_43 : decode cX0_sumOf 43 = .ok (.ireturn, 1) := by decide +kernel
theorem dX1_init_0 : decode cX1_init 0 = .ok (.aload_n 0, 1) := by decide +kernel
theorem dX1_init_1 : decode cX1_init 1 = .ok (.invokespecial 1, 3) := by decide +kernel
theorem dX1_init_4 : decode cX1_init 4 = .ok (.aload_n 0, 1) := by decide +kernel
theorem dX1_init_5 : decode cX1_init 5 = .ok (.bipush 32, 2) := by decide +kernel
theorem dX1_init_7 : decode cX1_init 7 = .ok (.newarray .int, 2) := by decide +kernel
theorem dX1_init_9 : decode cX1_init 9 = .ok (.putfield 7, 3) := by decide +kernel
theorem dX1_init_12 : decode cX1_init 12 = .ok (.aload_n 0, 1) := by decide +kernel
theorem dX1_init_13 : decode cX1_init 13 = .ok (.bipush 32, 2) := by decide +kernel
theorem dX1_init_15 : decode cX1_init 15 = .ok (.newarray .int, 2) := by decide +kernel
theorem dX1_init_17 : decode cX1_init 17 = .ok (.putfield 13, 3) := by decide +kernel
theorem dX1_init_20 : decode cX1_init 20 = .ok (.aload_n 0, 1) := by decide +kernel
theorem dX1_init_21 : decode cX1_init 21 = .ok (.bipush 32, 2) := by decide +kernel
theorem dX1_init_23 : decode cX1_init 23 = .ok (.newarray .int, 2) := by decide +kernel
theorem dX1_init_25 : decode cX1_init 25 = .ok (.putfield 16, 3) := by decide +kernel
theorem dX1_init_28 : decode cX1_init 28 = .ok (.return_, 1) := by decide +kernel
set_option maxRecDepth 20000 in
theorem ggX1_enter_X1_grow : GoodIn wsX1_enter wsX1_grow := goodIn_r _ [8, 2, 3, 9, 10, 11, 12, 13, 14, 15, 16, 17, 18, 19, 20, 21, 22, 23, 24, 25, 26, 27, 28, 29, 30, 31, 32] (by decide +kernel) (by decide +kernel)
set_option maxRecDepth 20000 in
theorem gX1_enter_X1_grow : GoodIn wsX1_enter (wsV RX1 23 RX1 yX1_grow wsX1_grow) := goodIn_app (goodIn_of _ (by decide +kernel)) ggX1_enter_X1_grow
theorem dX1_enter_0 : decode cX1_enter 0 = .ok (.aload_n 0, 1) := by decide +kernel
theorem dX1_enter_1 : decode cX1_enter 1 = .ok (.getfield 19, 3) := by decide +kernel
theorem dX1_enter_4 : decode cX1_enter 4 = .ok (.sipush 1024, 3) := by decide +kernel
theorem dX1_enter_7 : decode cX1_enter 7 = .ok (.if_icmp .lt 5, 3) := by decide +kernel
theorem dX1_enter_10 : decode cX1_enter 10 = .ok (.iconst 0, 1) := by decide +kernel
theorem dX1_enter_11 : decode cX1_enter 11 = .ok (.ireturn, 1) := by decide +kernel
theorem dX1_enter_12 : decode cX1_enter 12 = .ok (.aload_n 0, 1) := by decide +kernel
theorem dX1_enter_13 : decode cX1_enter 13 = .ok (.getfield 19, 3) := by decide +kernel
theorem dX1_enter_16 : decode cX1_enter 16 = .ok (.aload_n 0, 1) := by decide +kernel
theorem dX1_enter_17 : decode cX1_enter 17 = .ok (.getfield 13, 3) := by decide +kernel
theorem dX1_enter_20 : decode cX1_enter 20 = .ok (.arraylength, 1) := by decide +kernel
theorem dX1_enter_21 : decode cX1_enter 21 = .ok (.if_icmp .lt 7, 3) := by decide +kernel
theorem dX1_enter_24 : decode cX1_enter 24 = .ok (.aload_n 0, 1) := by decide +kernel
theorem dX1_enter_25 : decode cX1_enter 25 = .ok (.invokevirtual 23, 3) := by decide +kernel
theorem dX1_enter_28 : decode cX1_enter 28 = .ok (.aload_n 0, 1) := by decide +kernel
theorem dX1_enter_29 : decode cX1_enter 29 = .ok (.getfield 7, 3) := by decide +kernel
theorem dX1_enter_32 : decode cX1_enter 32 = .ok (.aload_n 0, 1) := by decide +kernel
theorem dX1_enter_33 : decode cX1_enter 33 = .ok (.getfield 19, 3) := by decide +kernel
theorem dX1_enter_36 : decode cX1_enter 36 = .ok (.iload_n 1, 1) := by decide +kernel
theorem dX1_enter_37 : decode cX1_enter 37 = .ok (.iastore, 1) := by decide +kernel
theorem dX1_enter_38 : decode cX1_enter 38 = .ok (.aload_n 0, 1) := by decide +kernel
theorem dX1_enter_39 : decode cX1_enter 39 = .ok (.getfield 13, 3) := by decide +kernel
theorem dX1_enter_42 : decode cX1_enter 42 = .ok (.aload_n 0, 1) := by decide +kernel
theorem dX1_enter_43 : decode cX1_enter 43 = .ok (.getfield 19, 3) := by decide +kernel
theorem dX1_enter_46 : decode cX1_enter 46 = .ok (.iload_n 2, 1) := by decide +kernel
theorem dX1_enter_47 : decode cX1_enter 47 = .ok (.iastore, 1) := by decide +kernel
theorem dX1_enter_48 : decode cX1_enter 48 = .ok (.aload_n 0, 1) := by decide +kernel
theorem dX1_enter_49 : decode cX1_enter 49 = .ok (.dup, 1) := by decide +kernel
theorem dX1_enter_50 : decode cX1_enter 50 = .ok (.getfield 19, 3) := by decide +kernel
theorem dX1_enter_53 : decode cX1_enter 53 = .ok (.iconst 1, 1) := by decide +kernel
theorem dX1_enter_54 : decode cX1_enter 54 = .ok (.iadd, 1) := by decide +kernel
theorem dX1_enter_55 : decode cX1_enter 55 = .ok (.putfield 19, 3) := by decide +kernel
theorem dX1_enter_58 : decode cX1_enter 58 = .ok (.iconst 1, 1) := by decide +kernel
theorem dX1_enter_59 : decode cX1_enter 59 = .ok (.ireturn, 1) := by decide +kernel
set_option maxRecDepth 20000 in
theorem ggX1_grow_J7_copyOf_59c91 : GoodIn wsX1_grow wsJ7_copyOf_59c91 := goodIn_r _ [7, 8, 9, 10, 11, 12, 13, 14, 15, 16, 17, 18, 19, 20, 21, 22] (by decide +kernel) (by decide +kernel)
set_option maxRecDepth 20000 in
theorem gX1_grow_J7_copyOf_59c91 : GoodIn wsX1_grow (va_wsS RX1 26 yJ7_copyOf_59c91 wsJ7_copyOf_59c91) := goodIn_app (goodIn_of _ (by decide +kernel)) ggX1_grow_J7_copyOf_59c91
theorem dX1_grow_0 : decode cX1_grow 0 = .ok (.aload_n 0, 1) := by decide +kernel
theorem dX1_grow_1 : decode cX1_grow 1 = .ok (.getfield 13, 3) := by decide +kernel
theorem dX1_grow_4 : decode cX1_grow 4 = .ok (.arraylength, 1) := by decide +kernel
theorem dX1_grow_5 : decode cX1_grow 5 = .ok (.iconst 2, 1) := by decide +kernel
theorem dX1_grow_6 : decode cX1_grow 6 = .ok (.imul, 1) := by decide +kernel
theorem dX1_grow_7 : decode cX1_grow 7 = .ok (.istore_n 1, 1) := by decide +kernel
theorem dX1_grow_8 : decode cX1_grow 8 = .ok (.aload_n 0, 1) := by decide +kernel
theorem dX1_grow_9 : decode cX1_grow 9 = .ok (.aload_n 0, 1) := by decide +kernel
theorem dX1_grow_10 : decode cX1_grow 10 = .ok (.getfield 7, 3) := by decide +kernel
theorem dX1_grow_13 : decode cX1_grow 13 = .ok (.iload_n 1, 1) := by decide +kernel
theorem dX1_grow_14 : decode cX1_grow 14 = .ok (.invokestatic 26, 3) := by decide +kernel
theorem dX1_grow_17 : decode cX1_grow 17 = .ok (.putfield 7, 3) := by decide +kernel
theorem dX1_grow_20 : decode cX1_grow 20 = .ok (.aload_n 0, 1) := by decide +kernel
theorem dX1_grow_21 : decode cX1_grow 21 = .ok (.aload_n 0, 1) := by decide +kernel
theorem dX1_grow_22 : decode cX1_grow 22 = .ok (.getfield 13, 3) := by decide +kernel
theorem dX1_grow_25 : decode cX1_grow 25 = .ok (.iload_n 1, 1) := by decide +kernel
theorem dX1_grow_26 : decode cX1_grow 26 = .ok (.invokestatic 26, 3) := by decide +kernel
theorem dX1_grow_29 : decode cX1_grow 29 = .ok (.putfield 13, 3) := by decide +kernel
theorem dX1_grow_32 : decode cX1_grow 32 = .ok (.aload_n 0, 1) := by decide +kernel
theorem dX1_grow_33 : decode cX1_grow 33 = .ok (.aload_n 0, 1) := by decide +kernel
theorem dX1_grow_34 : decode cX1_grow 34 = .ok (.getfield 16, 3) := by decide +kernel
theorem dX1_grow_37 : decode cX1_grow 37 = .ok (.iload_n 1, 1) := by decide +kernel
theorem dX1_grow_38 : decode cX1_grow 38 = .ok (.invokestatic 26, 3) := by decide +kernel
theorem dX1_grow_41 : decode cX1_grow 41 = .ok (.putfield 16, 3) := by decide +kernel
theorem dX1_grow_44 : decode cX1_grow 44 = .ok (.return_, 1) := by decide +kernel
theorem dX2_init_0 : decode cX2_init 0 = .ok (.aload_n 0, 1) := by decide +kernel
theorem dX2_init_1 : decode cX2_init 1 = .ok (.invokespecial 3, 3) := by decide +kernel
theorem dX2_init_4 : decode cX2_init 4 = .ok (.aload_n 0, 1) := by decide +kernel
theorem dX2_init_5 : decode cX2_init 5 = .ok (.bipush 100, 2) := by decide +kernel
theorem dX2_init_7 : decode cX2_init 7 = .ok (.newarray .int, 2) := by decide +kernel
theorem dX2_init_9 : decode cX2_init 9 = .ok (.putfield 9, 3) := by decide +kernel
theorem dX2_init_12 : decode cX2_init 12 = .ok (.aload_n 0, 1) := by decide +kernel
theorem dX2_init_13 : decode cX2_init 13 = .ok (.bipush 100, 2) := by decide +kernel
theorem dX2_init_15 : decode cX2_init 15 = .ok (.newarray .float, 2) := by decide +kernel
theorem dX2_init_17 : decode cX2_init 17 = .ok (.putfield 15, 3) := by decide +kernel
theorem dX2_init_20 : decode cX2_init 20 = .ok (.aload_n 0, 1) := by decide +kernel
theorem dX2_init_21 : decode cX2_init 21 = .ok (.bipush 100, 2) := by decide +kernel
theorem dX2_init_23 : decode cX2_init 23 = .ok (.newarray .int, 2) := by decide +kernel
theorem dX2_init_25 : decode cX2_init 25 = .ok (.putfield 19, 3) := by decide +kernel
theorem dX2_init_28 : decode cX2_init 28 = .ok (.aload_n 0, 1) := by decide +kernel
theorem dX2_init_29 : decode cX2_init 29 = .ok (.bipush 100, 2) := by decide +kernel
theorem dX2_init_31 : decode cX2_init 31 = .ok (.newarray .int, 2) := by decide +kernel
theorem dX2_init_33 : decode cX2_init 33 = .ok (.putfield 22, 3) := by decide +kernel
theorem dX2_init_36 : decode cX2_init 36 = .ok (.aload_n 0, 1) := by decide +kernel
theorem dX2_init_37 : decode cX2_init 37 = .ok (.bipush 100, 2) := by decide +kernel
theorem dX2_init_39 : decode cX2_init 39 = .ok (.newarray .int, 2) := by decide +kernel
theorem dX2_init_41 : decode cX2_init 41 = .ok (.putfield 25, 3) := by decide +kernel
theorem dX2_init_44 : decode cX2_init 44 = .ok (.aload_n 0, 1) := by decide +kernel
theorem dX2_init_45 : decode cX2_init 45 = .ok (.bipush 100, 2) := by decide +kernel
theorem dX2_init_47 : decode cX2_init 47 = .ok (.newarray .int, 2) := by decide +kernel
theorem dX2_init_49 : decode cX2_init 49 = .ok (.putfield 28, 3) := by decide +kernel
theorem dX2_init_52 : decode cX2_init 52 = .ok (.aload_n 0, 1) := by decide +kernel
theorem dX2_init_53 : decode cX2_init 53 = .ok (.bipush 100, 2) := by decide +kernel
theorem dX2_init_55 : decode cX2_init 55 = .ok (.newarray .int, 2) := by decide +kernel
theorem dX2_init_57 : decode cX2_init 57 = .ok (.putfield 31, 3) := by decide +kernel
theorem dX2_init_60 : decode cX2_init 60 = .ok (.return_, 1) := by decide +kernel
theorem dX2_enter_0 : decode cX2_enter 0 = .ok (.aload_n 0, 1) := by decide +kernel
theorem dX2_enter_1 : decode cX2_enter 1 = .ok (.getfield 34, 3) := by decide +kernel
theorem dX2_enter_4 : decode cX2_enter 4 = .ok (.istore_n 3, 1) := by decide +kernel
theorem dX2_enter_5 : decode cX2_enter 5 = .ok (.aload_n 0, 1) := by decide +kernel
theorem dX2_enter_6 : decode cX2_enter 6 = .ok (.getfield 9, 3) := by decide +kernel
theorem dX2_enter_9 : decode cX2_enter 9 = .ok (.iload_n 3, 1) := by decide +kernel
theorem dX2_enter_10 : decode cX2_enter 10 = .ok (.iload_n 1, 1) := by decide +kernel
theorem dX2_enter_11 : decode cX2_enter 11 = .ok (.iastore, 1) := by decide +kernel
theorem dX2_enter_12 : decode cX2_enter 12 = .ok (.aload_n 0, 1) := by decide +kernel
theorem dX2_enter_13 : decode cX2_enter 13 = .ok (.getfield 22, 3) := by decide +kernel
theorem dX2_enter_16 : decode cX2_enter 16 = .ok (.iload_n 3, 1) := by decide +kernel
theorem dX2_enter_17 : decode cX2_enter 17 = .ok (.iload_n 2, 1) := by decide +kernel
theorem dX2_enter_18 : decode cX2_enter 18 = .ok (.iastore, 1) := by decide +kernel
theorem dX2_enter_19 : decode cX2_enter 19 = .ok (.aload_n 0, 1) := by decide +kernel
theorem dX2_enter_20 : decode cX2_enter 20 = .ok (.dup, 1) := by decide +kernel
theorem dX2_enter_21 : decode cX2_enter 21 = .ok (.getfield 34, 3) := by decide +kernel
theorem dX2_enter_24 : decode cX2_enter 24 = .ok (.iconst 1, 1) := by decide +kernel
theorem dX2_enter_25 : decode cX2_enter 25 = .ok (.iadd, 1) := by decide +kernel
theorem dX2_enter_26 : decode cX2_enter 26 = .ok (.putfield 34, 3) := by decide +kernel
theorem dX2_enter_29 : decode cX2_enter 29 = .ok (.iload_n 3, 1) := by decide +kernel
theorem dX2_enter_30 : decode cX2_enter 30 = .ok (.ireturn, 1) := by decide +kernel
theorem dX2_heldFor_0 : decode cX2_heldFor 0 = .ok (.iconst 0, 1) := by decide +kernel
theorem dX2_heldFor_1 : decode cX2_heldFor 1 = .ok (.istore_n 2, 1) := by decide +kernel
theorem dX2_heldFor_2 : decode cX2_heldFor 2 = .ok (.iconst 0, 1) := by decide +kernel
theorem dX2_heldFor_3 : decode cX2_heldFor 3 = .ok (.istore_n 3, 1) := by decide +kernel
theorem dX2_heldFor_4 : decode cX2_heldFor 4 = .ok (.iload_n 3, 1) := by decide +kernel
theorem dX2_heldFor_5 : decode cX2_heldFor 5 = .ok (.aload_n 0, 1) := by decide +kernel
theorem dX2_heldFor_6 : decode cX2_heldFor 6 = .ok (.getfield 34, 3) := by decide +kernel
theorem dX2_heldFor_9 : decode cX2_heldFor 9 = .ok (.if_icmp .ge 28, 3) := by decide +kernel
theorem dX2_heldFor_12 : decode cX2_heldFor 12 = .ok (.aload_n 0, 1) := by decide +kernel
theorem dX2_heldFor_13 : decode cX2_heldFor 13 = .ok (.getfield 9, 3) := by decide +kernel
theorem dX2_heldFor_16 : decode cX2_heldFor 16 = .ok (.iload_n 3, 1) := by decide +kernel
theorem dX2_heldFor_17 : decode cX2_heldFor 17 = .ok (.iaload, 1) := by decide +kernel
theorem dX2_heldFor_18 : decode cX2_heldFor 18 = .ok (.iload_n 1, 1) := by decide +kernel
theorem dX2_heldFor_19 : decode cX2_heldFor 19 = .ok (.if_icmp .ne 12, 3) := by decide +kernel
theorem dX2_heldFor_22 : decode cX2_heldFor 22 = .ok (.iload_n 2, 1) := by decide +kernel
theorem dX2_heldFor_23 : decode cX2_heldFor 23 = .ok (.aload_n 0, 1) := by decide +kernel
theorem dX2_heldFor_24 : decode cX2_heldFor 24 = .ok (.getfield 28, 3) := by decide +kernel
theorem dX2_heldFor_27 : decode cX2_heldFor 27 = .ok (.iload_n 3, 1) := by decide +kernel
theorem dX2_heldFor_28 : decode cX2_heldFor 28 = .ok (.iaload, 1) := by decide +kernel
theorem dX2_heldFor_29 : decode cX2_heldFor 29 = .ok (.iadd, 1) := by decide +kernel
theorem dX2_heldFor_30 : decode cX2_heldFor 30 = .ok (.istore_n 2, 1) := by decide +kernel
theorem dX2_heldFor_31 : decode cX2_heldFor 31 = .ok (.iinc 3 1, 3) := by decide +kernel
theorem dX2_heldFor_34 : decode cX2_heldFor 34 = .ok (.goto (-30), 3) := by decide +kernel
theorem dX2_heldFor_37 : decode cX2_heldFor 37 = .ok (.iload_n 2, 1) := by decide +kernel
theorem dX2_heldFor_38 : decode cX2_heldFor 38 = .ok (.ireturn, 1) := by decide +kernel
theorem dX3_init_0 : decode cX3_init 0 = .ok (.aload_n 0, 1) := by decide +kernel
theorem dX3_init_1 : decode cX3_init 1 = .ok (.invokespecial 3, 3) := by decide +kernel
theorem dX3_init_4 : decode cX3_init 4 = .ok (.aload_n 0, 1) := by decide +kernel
theorem dX3_init_5 : decode cX3_init 5 = .ok (.bipush 8, 2) := by decide +kernel
theorem dX3_init_7 : decode cX3_init 7 = .ok (.newarray .int, 2) := by decide +kernel
theorem dX3_init_9 : decode cX3_init 9 = .ok (.putfield 9, 3) := by decide +kernel
theorem dX3_init_12 : decode cX3_init 12 = .ok (.aload_n 0, 1) := by decide +kernel
theorem dX3_init_13 : decode cX3_init 13 = .ok (.bipush 8, 2) := by decide +kernel
theorem dX3_init_15 : decode cX3_init 15 = .ok (.newarray .int, 2) := by decide +kernel
theorem dX3_init_17 : decode cX3_init 17 = .ok (.putfield 15, 3) := by decide +kernel
theorem dX3_init_20 : decode cX3_init 20 = .ok (.aload_n 0, 1) := by decide +kernel
theorem dX3_init_21 : decode cX3_init 21 = .ok (.bipush 8, 2) := by decide +kernel
theorem dX3_init_23 : decode cX3_init 23 = .ok (.newarray .int, 2) := by decide +kernel
theorem dX3_init_25 : decode cX3_init 25 = .ok (.putfield 18, 3) := by decide +kernel
theorem dX3_init_28 : decode cX3_init 28 = .ok (.aload_n 0, 1) := by decide +kernel
theorem dX3_init_29 : decode cX3_init 29 = .ok (.bipush 8, 2) := by decide +kernel
theorem dX3_init_31 : decode cX3_init 31 = .ok (.newarray .int, 2) := by decide +kernel
theorem dX3_init_33 : decode cX3_init 33 = .ok (.putfield 21, 3) := by decide +kernel
theorem dX3_init_36 : decode cX3_init 36 = .ok (.aload_n 0, 1) := by decide +kernel
theorem dX3_init_37 : decode cX3_init 37 = .ok (.bipush 8, 2) := by decide +kernel
theorem dX3_init_39 : decode cX3_init 39 = .ok (.newarray .int, 2) := by decide +kernel
theorem dX3_init_41 : decode cX3_init 41 = .ok (.putfield 24, 3) := by decide +kernel
theorem dX3_init_44 : decode cX3_init 44 = .ok (.aload_n 0, 1) := by decide +kernel
theorem dX3_init_45 : decode cX3_init 45 = .ok (.bipush 8, 2) := by decide +kernel
theorem dX3_init_47 : decode cX3_init 47 = .ok (.newarray .int, 2) := by decide +kernel
theorem dX3_init_49 : decode cX3_init 49 = .ok (.putfield 27, 3) := by decide +kernel
theorem dX3_init_52 : decode cX3_init 52 = .ok (.aload_n 0, 1) := by decide +kernel
theorem dX3_init_53 : decode cX3_init 53 = .ok (.bipush 8, 2) := by decide +kernel
theorem dX3_init_55 : decode cX3_init 55 = .ok (.newarray .int, 2) := by decide +kernel
theorem dX3_init_57 : decode cX3_init 57 = .ok (.putfield 30, 3) := by decide +kernel
theorem dX3_init_60 : decode cX3_init 60 = .ok (.aload_n 0, 1) := by decide +kernel
theorem dX3_init_61 : decode cX3_init 61 = .ok (.bipush 8, 2) := by decide +kernel
theorem dX3_init_63 : decode cX3_init 63 = .ok (.newarray .int, 2) := by decide +kernel
theorem dX3_init_65 : decode cX3_init 65 = .ok (.putfield 33, 3) := by decide +kernel
theorem dX3_init_68 : decode cX3_init 68 = .ok (.return_, 1) := by decide +kernel
theorem dX3_enter_0 : decode cX3_enter 0 = .ok (.aload_n 0, 1) := by decide +kernel
theorem dX3_enter_1 : decode cX3_enter 1 = .ok (.getfield 36, 3) := by decide +kernel
theorem dX3_enter_4 : decode cX3_enter 4 = .ok (.istore_n 2, 1) := by decide +kernel
theorem dX3_enter_5 : decode cX3_enter 5 = .ok (.aload_n 0, 1) := by decide +kernel
theorem dX3_enter_6 : decode cX3_enter 6 = .ok (.getfield 9, 3) := by decide +kernel
theorem dX3_enter_9 : decode cX3_enter 9 = .ok (.iload_n 2, 1) := by decide +kernel
theorem dX3_enter_10 : decode cX3_enter 10 = .ok (.iload_n 1, 1) := by decide +kernel
theorem dX3_enter_11 : decode cX3_enter 11 = .ok (.iastore, 1) := by decide +kernel
theorem dX3_enter_12 : decode cX3_enter 12 = .ok (.aload_n 0, 1) := by decide +kernel
theorem dX3_enter_13 : decode cX3_enter 13 = .ok (.getfield 21, 3) := by decide +kernel
theorem dX3_enter_16 : decode cX3_enter 16 = .ok (.iload_n 2, 1) := by decide +kernel
theorem dX3_enter_17 : decode cX3_enter 17 = .ok (.iconst 1, 1) := by decide +kernel
theorem dX3_enter_18 : decode cX3_enter 18 = .ok (.iastore, 1) := by decide +kernel
theorem dX3_enter_19 : decode cX3_enter 19 = .ok (.aload_n 0, 1) := by decide +kernel
theorem dX3_enter_20 : decode cX3_enter 20 = .ok (.getfield 27, 3) := by decide +kernel
theorem dX3_enter_23 : decode cX3_enter 23 = .ok (.iload_n 2, 1) := by decide +kernel
theorem dX3_enter_24 : decode cX3_enter 24 = .ok (.bipush 30, 2) := by decide +kernel
theorem dX3_enter_26 : decode cX3_enter 26 = .ok (.iastore, 1) := by decide +kernel
theorem dX3_enter_27 : decode cX3_enter 27 = .ok (.aload_n 0, 1) := by decide +kernel
theorem dX3_enter_28 : decode cX3_enter 28 = .ok (.dup, 1) := by decide +kernel
theorem dX3_enter_29 : decode cX3_enter 29 = .ok (.getfield 36, 3) := by decide +kernel
theorem dX3_enter_32 : decode cX3_enter 32 = .ok (.iconst 1, 1) := by decide +kernel
theorem dX3_enter_33 : decode cX3_enter 33 = .ok (.iadd, 1) := by decide +kernel
theorem dX3_enter_34 : decode cX3_enter 34 = .ok (.putfield 36, 3) := by decide +kernel
theorem dX3_enter_37 : decode cX3_enter 37 = .ok (.iload_n 2, 1) := by decide +kernel
theorem dX3_enter_38 : decode cX3_enter 38 = .ok (.ireturn, 1) := by decide +kernel
set_option maxRecDepth 20000 in
theorem ggX4_init_X3_init : GoodIn wsX4_init wsX3_init := goodIn_r _ [23, 24, 2, 3, 25, 26, 27, 28, 29, 30, 31, 32, 33, 61, 62, 63, 64, 65, 66, 67, 68, 69] (by decide +kernel) (by decide +kernel)
set_option maxRecDepth 20000 in
theorem gX4_init_X3_init_n9 : GoodIn wsX4_init (wsX3_init) := ggX4_init_X3_init
set_option maxRecDepth 20000 in
theorem ggX4_init_X2_init : GoodIn wsX4_init wsX2_init := goodIn_r _ [35, 36, 2, 3, 25, 37, 20, 38, 39, 40, 41, 42, 43, 81, 82, 83, 84, 85, 86, 87, 88] (by decide +kernel) (by decide +kernel)
set_option maxRecDepth 20000 in
theorem gX4_init_X2_init_n18 : GoodIn wsX4_init (wsX2_init) := ggX4_init_X2_init
set_option maxRecDepth 20000 in
theorem ggX4_init_X1_init : GoodIn wsX4_init wsX1_init := goodIn_r _ [45, 46, 2, 3, 25, 47, 48, 49, 89, 90, 91, 92] (by decide +kernel) (by decide +kernel)
set_option maxRecDepth 20000 in
theorem gX4_init_X1_init_n25 : GoodIn wsX4_init (wsX1_init) := ggX4_init_X1_init
set_option maxRecDepth 20000 in
theorem ggX4_init_X0_init : GoodIn wsX4_init wsX0_init := goodIn_r _ [51, 52, 2, 3, 25, 53, 54, 55, 93, 94, 95, 96] (by decide +kernel) (by decide +kernel)
set_option maxRecDepth 20000 in
theorem gX4_init_X0_init_n32 : GoodIn wsX4_init (wsX0_init) := ggX4_init_X0_init
set_option maxRecDepth 20000 in
theorem ggX4_init_X4_shareOf : GoodIn wsX4_init wsX4_shareOf := goodIn_r _ [59, 60] (by decide +kernel) (by decide +kernel)
set_option maxRecDepth 20000 in
theorem gX4_init_X4_shareOf : GoodIn wsX4_init (va_wsS RX4 41 yX4_shareOf wsX4_shareOf) := goodIn_app (goodIn_of _ (by decide +kernel)) ggX4_init_X4_shareOf
theorem dX4_init_0 : decode cX4_init 0 = .ok (.aload_n 0, 1) := by decide +kernel
theorem dX4_init_1 : decode cX4_init 1 = .ok (.invokespecial 1, 3) := by decide +kernel
theorem dX4_init_4 : decode cX4_init 4 = .ok (.aload_n 0, 1) := by decide +kernel
theorem dX4_init_5 : decode cX4_init 5 = .ok (.new 7, 3) := by decide +kernel
theorem dX4_init_8 : decode cX4_init 8 = .ok (.dup, 1) := by decide +kernel
theorem dX4_init_9 : decode cX4_init 9 = .ok (.invokespecial 9, 3) := by decide +kernel
theorem dX4_init_12 : decode cX4_init 12 = .ok (.putfield 10, 3) := by decide +kernel
theorem dX4_init_15 : decode cX4_init 15 = .ok (.aload_n 0, 1) := by decide +kernel
theorem dX4_init_16 : decode cX4_init 16 = .ok (.new 16, 3) := by decide +kernel
theorem dX4_init_19 : decode cX4_init 19 = .ok (.dup, 1) := by decide +kernel
theorem dX4_init_20 : decode cX4_init 20 = .ok (.invokespecial 18, 3) := by decide +kernel
theorem dX4_init_23 : decode cX4_init 23 = .ok (.putfield 19, 3) := by decide +kernel
theorem dX4_init_26 : decode cX4_init 26 = .ok (.aload_n 0, 1) := by decide +kernel
theorem dX4_init_27 : decode cX4_init 27 = .ok (.new 23, 3) := by decide +kernel
theorem dX4_init_30 : decode cX4_init 30 = .ok (.dup, 1) := by decide +kernel
theorem dX4_init_31 : decode cX4_init 31 = .ok (.invokespecial 25, 3) := by decide +kernel
theorem dX4_init_34 : decode cX4_init 34 = .ok (.putfield 26, 3) := by decide +kernel
theorem dX4_init_37 : decode cX4_init 37 = .ok (.aload_n 0, 1) := by decide +kernel
theorem dX4_init_38 : decode cX4_init 38 = .ok (.new 30, 3) := by decide +kernel
theorem dX4_init_41 : decode cX4_init 41 = .ok (.dup, 1) := by decide +kernel
theorem dX4_init_42 : decode cX4_init 42 = .ok (.invokespecial 32, 3) := by decide +kernel
theorem dX4_init_45 : decode cX4_init 45 = .ok (.putfield 33, 3) := by decide +kernel
theorem dX4_init_48 : decode cX4_init 48 = .ok (.aload_n 0, 1) := by decide +kernel
theorem dX4_init_49 : decode cX4_init 49 = .ok (.iconst 4, 1) := by decide +kernel
theorem dX4_init_50 : decode cX4_init 50 = .ok (.newarray .float, 2) := by decide +kernel
theorem dX4_init_52 : decode cX4_init 52 = .ok (.putfield 37, 3) := by decide +kernel
theorem dX4_init_55 : decode cX4_init 55 = .ok (.iconst 0, 1) := by decide +kernel
theorem dX4_init_56 : decode cX4_init 56 = .ok (.istore_n 1, 1) := by decide +kernel
theorem dX4_init_57 : decode cX4_init 57 = .ok (.iload_n 1, 1) := by decide +kernel
theorem dX4_init_58 : decode cX4_init 58 = .ok (.iconst 4, 1) := by decide +kernel
theorem dX4_init_59 : decode cX4_init 59 = .ok (.if_icmp .ge 20, 3) := by decide +kernel
theorem dX4_init_62 : decode cX4_init 62 = .ok (.aload_n 0, 1) := by decide +kernel
theorem dX4_init_63 : decode cX4_init 63 = .ok (.getfield 37, 3) := by decide +kernel
theorem dX4_init_66 : decode cX4_init 66 = .ok (.iload_n 1, 1) := by decide +kernel
theorem dX4_init_67 : decode cX4_init 67 = .ok (.bipush 100, 2) := by decide +kernel
theorem dX4_init_69 : decode cX4_init 69 = .ok (.invokestatic 41, 3) := by decide +kernel
theorem dX4_init_72 : decode cX4_init 72 = .ok (.fastore, 1) := by decide +kernel
theorem dX4_init_73 : decode cX4_init 73 = .ok (.iinc 1 1, 3) := by decide +kernel
theorem dX4_init_76 : decode cX4_init 76 = .ok (.goto (-19), 3) := by decide +kernel
theorem dX4_init_79 : decode cX4_init 79 = .ok (.return_, 1) := by decide +kernel
set_option maxRecDepth 20000 in
theorem ggX4_addSeller_X3_enter : GoodIn wsX4_addSeller wsX3_enter := goodIn_r _ [11, 12, 13, 14, 15, 27, 28, 29, 30, 31, 32, 33, 34, 35] (by decide +kernel) (by decide +kernel)
set_option maxRecDepth 20000 in
theorem gX4_addSeller_X3_enter : GoodIn wsX4_addSeller (wsV RX4 61 RX3 yX3_enter wsX3_enter) := goodIn_app (goodIn_of _ (by decide +kernel)) ggX4_addSeller_X3_enter
theorem dX4_addSeller_0 : decode cX4_addSeller 0 = .ok (.iload_n 1, 1) := by decide +kernel
theorem dX4_addSeller_1 : decode cX4_addSeller 1 = .ok (.ifCond .lt 8, 3) := by decide +kernel
theorem dX4_addSeller_4 : decode cX4_addSeller 4 = .ok (.iload_n 1, 1) := by decide +kernel
theorem dX4_addSeller_5 : decode cX4_addSeller 5 = .ok (.iconst 4, 1) := by decide +kernel
theorem dX4_addSeller_6 : decode cX4_addSeller 6 = .ok (.if_icmp .lt 13, 3) := by decide +kernel
theorem dX4_addSeller_9 : decode cX4_addSeller 9 = .ok (.new 45, 3) := by decide +kernel
theorem dX4_addSeller_12 : decode cX4_addSeller 12 = .ok (.dup, 1) := by decide +kernel
theorem dX4_addSeller_13 : decode cX4_addSeller 13 = .ok (.ldc 47, 2) := by decide +kernel
theorem dX4_addSeller_15 : decode cX4_addSeller 15 = .ok (.invokespecial 49, 3) := by decide +kernel
theorem dX4_addSeller_18 : decode cX4_addSeller 18 = .ok (.athrow, 1) := by decide +kernel
theorem dX4_addSeller_19 : decode cX4_addSeller 19 = .ok (.aload_n 0, 1) := by decide +kernel
theorem dX4_addSeller_20 : decode cX4_addSeller 20 = .ok (.getfield 10, 3) := by decide +kernel
theorem dX4_addSeller_23 : decode cX4_addSeller 23 = .ok (.getfield 52, 3) := by decide +kernel
theorem dX4_addSeller_26 : decode cX4_addSeller 26 = .ok (.bipush 8, 2) := by decide +kernel
theorem dX4_addSeller_28 : decode cX4_addSeller 28 = .ok (.if_icmp .lt 13, 3) := by decide +kernel
theorem dX4_addSeller_31 : decode cX4_addSeller 31 = .ok (.new 56, 3) := by decide +kernel
theorem dX4_addSeller_34 : decode cX4_addSeller 34 = .ok (.dup, 1) := by decide +kernel
theorem dX4_addSeller_35 : decode cX4_addSeller 35 = .ok (.ldc 58, 2) := by decide +kernel
theorem dX4_addSeller_37 : decode cX4_addSeller 37 = .ok (.invokespecial 60, 3) := by decide +kernel
theorem dX4_addSeller_40 : decode cX4_addSeller 40 = .ok (.athrow, 1) := by decide +kernel
theorem dX4_addSeller_41 : decode cX4_addSeller 41 = .ok (.aload_n 0, 1) := by decide +kernel
theorem dX4_addSeller_42 : decode cX4_addSeller 42 = .ok (.getfield 10, 3) := by decide +kernel
theorem dX4_addSeller_45 : decode cX4_addSeller 45 = .ok (.iload_n 1, 1) := by decide +kernel
theorem dX4_addSeller_46 : decode cX4_addSeller 46 = .ok (.invokevirtual 61, 3) := by decide +kernel
theorem dX4_addSeller_49 : decode cX4_addSeller 49 = .ok (.ireturn, 1) := by decide +kernel
set_option maxRecDepth 20000 in
theorem ggX4_verify_X4_requireSeller : GoodIn wsX4_verify wsX4_requireSeller := goodIn_ca (goodIn_r _ [7, 8, 9, 1, 10, 16, 17, 18, 19, 20, 21, 22, 23, 24, 25, 26, 27, 28, 29, 30, 31, 32, 33, 34, 35] (by decide +kernel) (by decide +kernel)) (goodIn_sub (fun _ h => List.mem_cons_of_mem _ (List.mem_append_left _ (List.mem_append_right _ h))) (by decide +kernel))
set_option maxRecDepth 20000 in
theorem gX4_verify_X4_requireSeller : GoodIn wsX4_verify (wsV RX4 65 RX4 yX4_requireSeller wsX4_requireSeller) := goodIn_app (goodIn_of _ (by decide +kernel)) ggX4_verify_X4_requireSeller
set_option maxRecDepth 20000 in
theorem ggX4_verify_X4_requireBetween : GoodIn wsX4_verify wsX4_requireBetween := goodIn_ca (goodIn_r _ [13, 14, 15] (by decide +kernel) (by decide +kernel)) (goodIn_sub (fun _ h => List.mem_cons_of_mem _ (List.mem_append_right _ h)) (by decide +kernel))
set_option maxRecDepth 20000 in
theorem gX4_verify_X4_requireBetween : GoodIn wsX4_verify (va_wsS RX4 69 yX4_requireBetween wsX4_requireBetween) := goodIn_app (goodIn_of _ (by decide +kernel)) ggX4_verify_X4_requireBetween
theorem dX4_verify_0 : decode cX4_verify 0 = .ok (.aload_n 0, 1) := by decide +kernel
theorem dX4_verify_1 : decode cX4_verify 1 = .ok (.iload_n 1, 1) := by decide +kernel
theorem dX4_verify_2 : decode cX4_verify 2 = .ok (.invokevirtual 65, 3) := by decide +kernel
theorem dX4_verify_5 : decode cX4_verify 5 = .ok (.iload_n 2, 1) := by decide +kernel
theorem dX4_verify_6 : decode cX4_verify 6 = .ok (.iconst 0, 1) := by decide +kernel
theorem dX4_verify_7 : decode cX4_verify 7 = .ok (.iconst 2, 1) := by decide +kernel
theorem dX4_verify_8 : decode cX4_verify 8 = .ok (.invokestatic 69, 3) := by decide +kernel
theorem dX4_verify_11 : decode cX4_verify 11 = .ok (.aload_n 0, 1) := by decide +kernel
theorem dX4_verify_12 : decode cX4_verify 12 = .ok (.getfield 10, 3) := by decide +kernel
theorem dX4_verify_15 : decode cX4_verify 15 = .ok (.getfield 73, 3) := by decide +kernel
theorem dX4_verify_18 : decode cX4_verify 18 = .ok (.iload_n 1, 1) := by decide +kernel
theorem dX4_verify_19 : decode cX4_verify 19 = .ok (.iaload, 1) := by decide +kernel
theorem dX4_verify_20 : decode cX4_verify 20 = .ok (.istore_n 3, 1) := by decide +kernel
theorem dX4_verify_21 : decode cX4_verify 21 = .ok (.aload_n 0, 1) := by decide +kernel
theorem dX4_verify_22 : decode cX4_verify 22 = .ok (.getfield 10, 3) := by decide +kernel
theorem dX4_verify_25 : decode cX4_verify 25 = .ok (.getfield 73, 3) := by decide +kernel
theorem dX4_verify_28 : decode cX4_verify 28 = .ok (.iload_n 1, 1) := by decide +kernel
theorem dX4_verify_29 : decode cX4_verify 29 = .ok (.iload_n 2, 1) := by decide +kernel
theorem dX4_verify_30 : decode cX4_verify 30 = .ok (.iastore, 1) := by decide +kernel
theorem dX4_verify_31 : decode cX4_verify 31 = .ok (.iload_n 3, 1) := by decide +kernel
theorem dX4_verify_32 : decode cX4_verify 32 = .ok (.ireturn, 1) := by decide +kernel
set_option maxRecDepth 20000 in
theorem ggX4_setPayouts_X4_requireSeller : GoodIn wsX4_setPayouts wsX4_requireSeller := goodIn_ca (goodIn_r _ [9, 10, 11, 2, 12, 18, 19, 20, 21, 22, 23, 24, 25, 26, 27, 28, 29, 30, 31, 32, 33, 34, 35, 36, 37] (by decide +kernel) (by decide +kernel)) (goodIn_sub (fun _ h => List.mem_cons_of_mem _ (List.mem_append_left _ (List.mem_append_right _ h))) (by decide +kernel))
set_option maxRecDepth 20000 in
theorem gX4_setPayouts_X4_requireSeller : GoodIn wsX4_setPayouts (wsV RX4 65 RX4 yX4_requireSeller wsX4_requireSeller) := goodIn_app (goodIn_of _ (by decide +kernel)) ggX4_setPayouts_X4_requireSeller
set_option maxRecDepth 20000 in
theorem ggX4_setPayouts_X4_requireBetween : GoodIn wsX4_setPayouts wsX4_requireBetween := goodIn_ca (goodIn_r _ [15, 16, 17] (by decide +kernel) (by decide +kernel)) (goodIn_sub (fun _ h => List.mem_cons_of_mem _ (List.mem_append_right _ h)) (by decide +kernel))
set_option maxRecDepth 20000 in
theorem gX4_setPayouts_X4_requireBetween : GoodIn wsX4_setPayouts (va_wsS RX4 69 yX4_requireBetween wsX4_requireBetween) := goodIn_app (goodIn_of _ (by decide +kernel)) ggX4_setPayouts_X4_requireBetween
theorem dX4_setPayouts_0 : decode cX4_setPayouts 0 = .ok (.aload_n 0, 1) := by decide +kernel
theorem dX4_setPayouts_1 : decode cX4_setPayouts 1 = .ok (.iload_n 1, 1) := by decide +kernel
theorem dX4_setPayouts_2 : decode cX4_setPayouts 2 = .ok (.invokevirtual 65, 3) := by decide +kernel
theorem dX4_setPayouts_5 : decode cX4_setPayouts 5 = .ok (.iload_n 2, 1) := by decide +kernel
theorem dX4_setPayouts_6 : decode cX4_setPayouts 6 = .ok (.iconst 0, 1) := by decide +kernel
theorem dX4_setPayouts_7 : decode cX4_setPayouts 7 = .ok (.bipush 6, 2) := by decide +kernel
theorem dX4_setPayouts_9 : decode cX4_setPayouts 9 = .ok (.invokestatic 69, 3) := by decide +kernel
theorem dX4_setPayouts_12 : decode cX4_setPayouts 12 = .ok (.iload_n 3, 1) := by decide +kernel
theorem dX4_setPayouts_13 : decode cX4_setPayouts 13 = .ok (.iconst 1, 1) := by decide +kernel
theorem dX4_setPayouts_14 : decode cX4_setPayouts 14 = .ok (.ldc 77, 2) := by decide +kernel
theorem dX4_setPayouts_16 : decode cX4_setPayouts 16 = .ok (.invokestatic 69, 3) := by decide +kernel
theorem dX4_setPayouts_19 : decode cX4_setPayouts 19 = .ok (.aload_n 0, 1) := by decide +kernel
theorem dX4_setPayouts_20 : decode cX4_setPayouts 20 = .ok (.getfield 10, 3) := by decide +kernel
theorem dX4_setPayouts_23 : decode cX4_setPayouts 23 = .ok (.getfield 78, 3) := by decide +kernel
theorem dX4_setPayouts_26 : decode cX4_setPayouts 26 = .ok (.iload_n 1, 1) := by decide +kernel
theorem dX4_setPayouts_27 : decode cX4_setPayouts 27 = .ok (.iload_n 2, 1) := by decide +kernel
theorem dX4_setPayouts_28 : decode cX4_setPayouts 28 = .ok (.iastore, 1) := by decide +kernel
theorem dX4_setPayouts_29 : decode cX4_setPayouts 29 = .ok (.aload_n 0, 1) := by decide +kernel
theorem dX4_setPayouts_30 : decode cX4_setPayouts 30 = .ok (.getfield 10, 3) := by decide +kernel
theorem dX4_setPayouts_33 : decode cX4_setPayouts 33 = .ok (.getfield 81, 3) := by decide +kernel
theorem dX4_setPayouts_36 : decode cX4_setPayouts 36 = .ok (.iload_n 1, 1) := by decide +kernel
theorem dX4_setPayouts_37 : decode cX4_setPayouts 37 = .ok (.iload_n 3, 1) := by decide +kernel
theorem dX4_setPayouts_38 : decode cX4_setPayouts 38 = .ok (.iastore, 1) := by decide +kernel
theorem dX4_setPayouts_39 : decode cX4_setPayouts 39 = .ok (.return_, 1) := by decide +kernel
set_option maxRecDepth 20000 in
theorem ggX4_setReserve_X4_requireSeller : GoodIn wsX4_setReserve wsX4_requireSeller := goodIn_ca (goodIn_r _ [8, 9, 10, 1, 11, 17, 18, 19, 20, 21, 22, 23, 24, 25, 26, 27, 28, 29, 30, 31, 32, 33, 34, 35, 36] (by decide +kernel) (by decide +kernel)) (goodIn_sub (fun _ h => List.mem_cons_of_mem _ (List.mem_append_left _ (List.mem_append_right _ h))) (by decide +kernel))
set_option maxRecDepth 20000 in
theorem gX4_setReserve_X4_requireSeller : GoodIn wsX4_setReserve (wsV RX4 65 RX4 yX4_requireSeller wsX4_requireSeller) := goodIn_app (goodIn_of _ (by decide +kernel)) ggX4_setReserve_X4_requireSeller
set_option maxRecDepth 20000 in
theorem ggX4_setReserve_X4_requireBetween : GoodIn wsX4_setReserve wsX4_requireBetween := goodIn_ca (goodIn_r _ [14, 15, 16] (by decide +kernel) (by decide +kernel)) (goodIn_sub (fun _ h => List.mem_cons_of_mem _ (List.mem_append_right _ h)) (by decide +kernel))
set_option maxRecDepth 20000 in
theorem gX4_setReserve_X4_requireBetween : GoodIn wsX4_setReserve (va_wsS RX4 69 yX4_requireBetween wsX4_requireBetween) := goodIn_app (goodIn_of _ (by decide +kernel)) ggX4_setReserve_X4_requireBetween
theorem dX4_setReserve_0 : decode cX4_setReserve 0 = .ok (.aload_n 0, 1) := by decide +kernel
theorem dX4_setReserve_1 : decode cX4_setReserve 1 = .ok (.iload_n 1, 1) := by decide +kernel
theorem dX4_setReserve_2 : decode cX4_setReserve 2 = .ok (.invokevirtual 65, 3) := by decide +kernel
theorem dX4_setReserve_5 : decode cX4_setReserve 5 = .ok (.iload_n 2, 1) := by decide +kernel
theorem dX4_setReserve_6 : decode cX4_setReserve 6 = .ok (.iconst 0, 1) := by decide +kernel
theorem dX4_setReserve_7 : decode cX4_setReserve 7 = .ok (.sipush 1000, 3) := by decide +kernel
theorem dX4_setReserve_10 : decode cX4_setReserve 10 = .ok (.invokestatic 69, 3) := by decide +kernel
theorem dX4_setReserve_13 : decode cX4_setReserve 13 = .ok (.iload_n 3, 1) := by decide +kernel
theorem dX4_setReserve_14 : decode cX4_setReserve 14 = .ok (.iconst 1, 1) := by decide +kernel
theorem dX4_setReserve_15 : decode cX4_setReserve 15 = .ok (.sipush 180, 3) := by decide +kernel
theorem dX4_setReserve_18 : decode cX4_setReserve 18 = .ok (.invokestatic 69, 3) := by decide +kernel
theorem dX4_setReserve_21 : decode cX4_setReserve 21 = .ok (.aload_n 0, 1) := by decide +kernel
theorem dX4_setReserve_22 : decode cX4_setReserve 22 = .ok (.getfield 10, 3) := by decide +kernel
theorem dX4_setReserve_25 : decode cX4_setReserve 25 = .ok (.getfield 84, 3) := by decide +kernel
theorem dX4_setReserve_28 : decode cX4_setReserve 28 = .ok (.iload_n 1, 1) := by decide +kernel
theorem dX4_setReserve_29 : decode cX4_setReserve 29 = .ok (.iload_n 2, 1) := by decide +kernel
theorem dX4_setReserve_30 : decode cX4_setReserve 30 = .ok (.iastore, 1) := by decide +kernel
theorem dX4_setReserve_31 : decode cX4_setReserve 31 = .ok (.aload_n 0, 1) := by decide +kernel
theorem dX4_setReserve_32 : decode cX4_setReserve 32 = .ok (.getfield 10, 3) := by decide +kernel
theorem dX4_setReserve_35 : decode cX4_setReserve 35 = .ok (.getfield 87, 3) := by decide +kernel
theorem dX4_setReserve_38 : decode cX4_setReserve 38 = .ok (.iload_n 1, 1) := by decide +kernel
theorem dX4_setReserve_39 : decode cX4_setReserve 39 = .ok (.iload_n 3, 1) := by decide +kernel
theorem dX4_setReserve_40 : decode cX4_setReserve 40 = .ok (.iastore, 1) := by decide +kernel
theorem dX4_setReserve_41 : decode cX4_setReserve 41 = .ok (.return_, 1) := by decide +kernel
set_option maxRecDepth 20000 in
theorem ggX4_setShare_X4_requireKind : GoodIn wsX4_setShare wsX4_requireKind := goodIn_ca (goodIn_r _ [5, 6, 7] (by decide +kernel) (by decide +kernel)) (goodIn_sub (fun _ h => List.mem_cons_of_mem _ (List.mem_append_left _ (List.mem_append_right _ h))) (by decide +kernel))
set_option maxRecDepth 20000 in
theorem gX4_setShare_X4_requireKind : GoodIn wsX4_setShare (va_wsS RX4 90 yX4_requireKind wsX4_requireKind) := goodIn_app (goodIn_of _ (by decide +kernel)) ggX4_setShare_X4_requireKind
set_option maxRecDepth 20000 in
theorem ggX4_setShare_X4_requireBetween : GoodIn wsX4_setShare wsX4_requireBetween := goodIn_ca (goodIn_r _ [10, 11, 12] (by decide +kernel) (by decide +kernel)) (goodIn_sub (fun _ h => List.mem_cons_of_mem _ (List.mem_append_right _ h)) (by decide +kernel))
set_option maxRecDepth 20000 in
theorem gX4_setShare_X4_requireBetween : GoodIn wsX4_setShare (va_wsS RX4 69 yX4_requireBetween wsX4_requireBetween) := goodIn_app (goodIn_of _ (by decide +kernel)) ggX4_setShare_X4_requireBetween
set_option maxRecDepth 20000 in
theorem ggX4_setShare_X4_shareOf : GoodIn wsX4_setShare wsX4_shareOf := goodIn_r _ [15, 16] (by decide +kernel) (by decide +kernel)
set_option maxRecDepth 20000 in
theorem gX4_setShare_X4_shareOf : GoodIn wsX4_setShare (va_wsS RX4 41 yX4_shareOf wsX4_shareOf) := goodIn_app (goodIn_of _ (by decide +kernel)) ggX4_setShare_X4_shareOf
set_option maxRecDepth 20000 in
theorem ggX4_setShare_X4_bitsOf : GoodIn wsX4_setShare wsX4_bitsOf := goodIn_r _ [19, 20] (by decide +kernel) (by decide +kernel)
set_option maxRecDepth 20000 in
theorem gX4_setShare_X4_bitsOf : GoodIn wsX4_setShare (va_wsS RX4 93 yX4_bitsOf wsX4_bitsOf) := goodIn_app (goodIn_of _ (by decide +kernel)) ggX4_setShare_X4_bitsOf
theorem dX4_setShare_0 : decode cX4_setShare 0 = .ok (.iload_n 1, 1) := by decide +kernel
theorem dX4_setShare_1 : decode cX4_setShare 1 = .ok (.invokestatic 90, 3) := by decide +kernel
theorem dX4_setShare_4 : decode cX4_setShare 4 = .ok (.iload_n 2, 1) := by decide +kernel
theorem dX4_setShare_5 : decode cX4_setShare 5 = .ok (.iconst 0, 1) := by decide +kernel
theorem dX4_setShare_6 : decode cX4_setShare 6 = .ok (.sipush 999, 3) := by decide +kernel
theorem dX4_setShare_9 : decode cX4_setShare 9 = .ok (.invokestatic 69, 3) := by decide +kernel
theorem dX4_setShare_12 : decode cX4_setShare 12 = .ok (.iload_n 2, 1) := by decide +kernel
theorem dX4_setShare_13 : decode cX4_setShare 13 = .ok (.invokestatic 41, 3) := by decide +kernel
theorem dX4_setShare_16 : decode cX4_setShare 16 = .ok (.fstore_n 3, 1) := by decide +kernel
theorem dX4_setShare_17 : decode cX4_setShare 17 = .ok (.aload_n 0, 1) := by decide +kernel
theorem dX4_setShare_18 : decode cX4_setShare 18 = .ok (.getfield 37, 3) := by decide +kernel
theorem dX4_setShare_21 : decode cX4_setShare 21 = .ok (.iload_n 1, 1) := by decide +kernel
theorem dX4_setShare_22 : decode cX4_setShare 22 = .ok (.fload_n 3, 1) := by decide +kernel
theorem dX4_setShare_23 : decode cX4_setShare 23 = .ok (.fastore, 1) := by decide +kernel
theorem dX4_setShare_24 : decode cX4_setShare 24 = .ok (.fload_n 3, 1) := by decide +kernel
theorem dX4_setShare_25 : decode cX4_setShare 25 = .ok (.invokestatic 93, 3) := by decide +kernel
theorem dX4_setShare_28 : decode cX4_setShare 28 = .ok (.ireturn, 1) := by decide +kernel
set_option maxRecDepth 20000 in
theorem ggX4_setTax_X4_requireBetween : GoodIn wsX4_setTax wsX4_requireBetween := goodIn_ca (goodIn_r _ [5, 6, 7] (by decide +kernel) (by decide +kernel)) (goodIn_sub (fun _ h => List.mem_cons_of_mem _ (List.mem_append_right _ h)) (by decide +kernel))
set_option maxRecDepth 20000 in
theorem gX4_setTax_X4_requireBetween : GoodIn wsX4_setTax (va_wsS RX4 69 yX4_requireBetween wsX4_requireBetween) := goodIn_app (goodIn_of _ (by decide +kernel)) ggX4_setTax_X4_requireBetween
theorem dX4_setTax_0 : decode cX4_setTax 0 = .ok (.iload_n 1, 1) := by decide +kernel
theorem dX4_setTax_1 : decode cX4_setTax 1 = .ok (.iconst 0, 1) := by decide +kernel
theorem dX4_setTax_2 : decode cX4_setTax 2 = .ok (.sipush 500, 3) := by decide +kernel
theorem dX4_setTax_5 : decode cX4_setTax 5 = .ok (.invokestatic 69, 3) := by decide +kernel
theorem dX4_setTax_8 : decode cX4_setTax 8 = .ok (.aload_n 0, 1) := by decide +kernel
theorem dX4_setTax_9 : decode cX4_setTax 9 = .ok (.getfield 97, 3) := by decide +kernel
theorem dX4_setTax_12 : decode cX4_setTax 12 = .ok (.istore_n 2, 1) := by decide +kernel
theorem dX4_setTax_13 : decode cX4_setTax 13 = .ok (.aload_n 0, 1) := by decide +kernel
theorem dX4_setTax_14 : decode cX4_setTax 14 = .ok (.iload_n 1, 1) := by decide +kernel
theorem dX4_setTax_15 : decode cX4_setTax 15 = .ok (.putfield 97, 3) := by decide +kernel
theorem dX4_setTax_18 : decode cX4_setTax 18 = .ok (.iload_n 2, 1) := by decide +kernel
theorem dX4_setTax_19 : decode cX4_setTax 19 = .ok (.ireturn, 1) := by decide +kernel
set_option maxRecDepth 20000 in
theorem ggX4_sell_X4_requireSeller : GoodIn wsX4_sell wsX4_requireSeller := goodIn_ca (goodIn_r _ [6, 7, 8, 9, 10, 81, 82, 83, 84, 85, 86, 87, 88, 89, 90, 91, 92, 93, 94, 95, 96, 97, 98, 99, 100] (by decide +kernel) (by decide +kernel)) (goodIn_sub (fun _ h => List.mem_cons_of_mem _ (List.mem_append_left _ (List.mem_append_left _ (List.mem_append_right _ h)))) (by decide +kernel))
set_option maxRecDepth 20000 in
theorem gX4_sell_X4_requireSeller : GoodIn wsX4_sell (wsV RX4 65 RX4 yX4_requireSeller wsX4_requireSeller) := goodIn_app (goodIn_of _ (by decide +kernel)) ggX4_sell_X4_requireSeller
set_option maxRecDepth 20000 in
theorem ggX4_sell_X4_requireKind : GoodIn wsX4_sell wsX4_requireKind := goodIn_ca (goodIn_r _ [13, 7, 8] (by decide +kernel) (by decide +kernel)) (goodIn_sub (fun _ h => List.mem_cons_of_mem _ (List.mem_append_left _ (List.mem_append_left _ (List.mem_append_right _ h)))) (by decide +kernel))
set_option maxRecDepth 20000 in
theorem gX4_sell_X4_requireKind : GoodIn wsX4_sell (va_wsS RX4 90 yX4_requireKind wsX4_requireKind) := goodIn_app (goodIn_of _ (by decide +kernel)) ggX4_sell_X4_requireKind
set_option maxRecDepth 20000 in
theorem ggX4_sell_X4_requireBetween : GoodIn wsX4_sell wsX4_requireBetween := goodIn_ca (goodIn_r _ [16, 17, 18] (by decide +kernel) (by decide +kernel)) (goodIn_sub (fun _ h => List.mem_cons_of_mem _ (List.mem_append_left _ (List.mem_append_right _ h))) (by decide +kernel))
set_option maxRecDepth 20000 in
theorem gX4_sell_X4_requireBetween : GoodIn wsX4_sell (va_wsS RX4 69 yX4_requireBetween wsX4_requireBetween) := goodIn_app (goodIn_of _ (by decide +kernel)) ggX4_sell_X4_requireBetween
set_option maxRecDepth 20000 in
theorem ggX4_sell_X4_requireRoomForSales : GoodIn wsX4_sell wsX4_requireRoomForSales := goodIn_ca (goodIn_r _ [22, 23, 24, 25, 26, 81, 82, 83, 84, 85, 86, 87, 88, 89, 90, 91, 101, 102, 103, 104, 105, 106, 107, 108] (by decide +kernel) (by decide +kernel)) (goodIn_sub (fun _ h => List.mem_cons_of_mem _ (List.mem_append_right _ h)) (by decide +kernel))
set_option maxRecDepth 20000 in
theorem gX4_sell_X4_requireRoomForSales : GoodIn wsX4_sell (wsV RX4 100 RX4 yX4_requireRoomForSales wsX4_requireRoomForSales) := goodIn_app (goodIn_of _ (by decide +kernel)) ggX4_sell_X4_requireRoomForSales
set_option maxRecDepth 20000 in
theorem ggX4_sell_X4_settle : GoodIn wsX4_sell wsX4_settle := goodIn_r _ [30, 31, 32, 33, 34, 35, 36, 9, 37, 25, 38, 39, 40, 41, 42, 43, 44, 45, 46, 47, 48, 49, 5, 50, 51, 52, 53, 54, 55, 56, 57, 58, 59, 60, 61, 62, 63, 64, 65, 66, 67, 68, 69, 70, 71, 72, 73, 74, 75, 76, 77, 78, 79, 80, 81, 82, 83, 84, 85, 86, 87, 88, 89, 90, 91, 92, 93, 94, 95, 96, 97, 98, 99, 100, 101, 102, 103, 104, 105, 106, 107, 108, 109, 110, 111, 112] (by decide +kernel) (by decide +kernel)
set_option maxRecDepth 20000 in
theorem gX4_sell_X4_settle : GoodIn wsX4_sell (wsV RX4 103 RX4 yX4_settle wsX4_settle) := goodIn_app (goodIn_of _ (by decide +kernel)) ggX4_sell_X4_settle
theorem dX4_sell_0 : decode cX4_sell 0 = .ok (.aload_n 0, 1) := by decide +kernel
theorem dX4_sell_1 : decode cX4_sell 1 = .ok (.iload_n 1, 1) := by decide +kernel
theorem dX4_sell_2 : decode cX4_sell 2 = .ok (.invokevirtual 65, 3) := by decide +kernel
theorem dX4_sell_5 : decode cX4_sell 5 = .ok (.iload_n 2, 1) := by decide +kernel
theorem dX4_sell_6 : decode cX4_sell 6 = .ok (.invokestatic 90, 3) := by decide +kernel
theorem dX4_sell_9 : decode cX4_sell 9 = .ok (.iload_n 3, 1) := by decide +kernel
theorem dX4_sell_10 : decode cX4_sell 10 = .ok (.iconst 1, 1) := by decide +kernel
theorem dX4_sell_11 : decode cX4_sell 11 = .ok (.ldc 77, 2) := by decide +kernel
theorem dX4_sell_13 : decode cX4_sell 13 = .ok (.invokestatic 69, 3) := by decide +kernel
theorem dX4_sell_16 : decode cX4_sell 16 = .ok (.aload_n 0, 1) := by decide +kernel
theorem dX4_sell_17 : decode cX4_sell 17 = .ok (.iconst 1, 1) := by decide +kernel
theorem dX4_sell_18 : decode cX4_sell 18 = .ok (.invokevirtual 100, 3) := by decide +kernel
theorem dX4_sell_21 : decode cX4_sell 21 = .ok (.aload_n 0, 1) := by decide +kernel
theorem dX4_sell_22 : decode cX4_sell 22 = .ok (.iload_n 1, 1) := by decide +kernel
theorem dX4_sell_23 : decode cX4_sell 23 = .ok (.iload_n 2, 1) := by decide +kernel
theorem dX4_sell_24 : decode cX4_sell 24 = .ok (.iload_n 3, 1) := by decide +kernel
theorem dX4_sell_25 : decode cX4_sell 25 = .ok (.invokevirtual 103, 3) := by decide +kernel
theorem dX4_sell_28 : decode cX4_sell 28 = .ok (.ireturn, 1) := by decide +kernel
set_option maxRecDepth 20000 in
theorem ggX4_order_X4_requireKind : GoodIn wsX4_order wsX4_requireKind := goodIn_ca (goodIn_r _ [15, 16, 17] (by decide +kernel) (by decide +kernel)) (goodIn_sub (fun _ h => List.mem_cons_of_mem _ (List.mem_append_right _ h)) (by decide +kernel))
set_option maxRecDepth 20000 in
theorem gX4_order_X4_requireKind : GoodIn wsX4_order (va_wsS RX4 90 yX4_requireKind wsX4_requireKind) := goodIn_app (goodIn_of _ (by decide +kernel)) ggX4_order_X4_requireKind
set_option maxRecDepth 20000 in
theorem ggX4_order_X4_requireBetween : GoodIn wsX4_order wsX4_requireBetween := goodIn_ca (goodIn_r _ [20, 1, 2] (by decide +kernel) (by decide +kernel)) (goodIn_sub (fun _ h => List.mem_cons_of_mem _ (List.mem_append_left _ (List.mem_append_left _ (List.mem_append_right _ h)))) (by decide +kernel))
set_option maxRecDepth 20000 in
theorem gX4_order_X4_requireBetween : GoodIn wsX4_order (va_wsS RX4 69 yX4_requireBetween wsX4_requireBetween) := goodIn_app (goodIn_of _ (by decide +kernel)) ggX4_order_X4_requireBetween
set_option maxRecDepth 20000 in
theorem ggX4_order_J6_bitCount_0f7a4 : GoodIn wsX4_order wsJ6_bitCount_0f7a4 := goodIn_r _ [24, 25, 26, 27] (by decide +kernel) (by decide +kernel)
set_option maxRecDepth 20000 in
theorem gX4_order_J6_bitCount_0f7a4 : GoodIn wsX4_order (va_wsS RX4 107 yJ6_bitCount_0f7a4 wsJ6_bitCount_0f7a4) := goodIn_app (goodIn_of _ (by decide +kernel)) ggX4_order_J6_bitCount_0f7a4
set_option maxRecDepth 20000 in
theorem ggX4_order_X4_requireRoomForSales : GoodIn wsX4_order wsX4_requireRoomForSales := goodIn_ca (goodIn_r _ [31, 3, 4, 32, 33, 88, 89, 90, 91, 92, 93, 94, 95, 96, 97, 98, 108, 109, 110, 111, 112, 113, 114, 115] (by decide +kernel) (by decide +kernel)) (goodIn_sub (fun _ h => List.mem_cons_of_mem _ (List.mem_append_left _ (List.mem_append_right _ h))) (by decide +kernel))
set_option maxRecDepth 20000 in
theorem gX4_order_X4_requireRoomForSales : GoodIn wsX4_order (wsV RX4 100 RX4 yX4_requireRoomForSales wsX4_requireRoomForSales) := goodIn_app (goodIn_of _ (by decide +kernel)) ggX4_order_X4_requireRoomForSales
set_option maxRecDepth 20000 in
theorem ggX4_order_X4_settleParts : GoodIn wsX4_order wsX4_settleParts := goodIn_r _ [37, 6, 7, 38, 39, 40, 14, 41, 42, 43, 8, 9, 10, 11, 44, 32, 45, 46, 47, 48, 49, 50, 51, 52, 53, 54, 55, 56, 57, 58, 59, 60, 61, 62, 63, 64, 65, 66, 67, 68, 69, 70, 71, 72, 73, 74, 75, 76, 77, 78, 79, 80, 81, 82, 83, 84, 85, 86, 87, 88, 89, 90, 91, 92, 93, 94, 95, 96, 97, 98, 99, 100, 101, 102, 103, 104, 105, 106, 107, 108, 109, 110, 111, 112, 113, 114, 115, 116, 117, 118, 119] (by decide +kernel) (by decide +kernel)
set_option maxRecDepth 20000 in
theorem gX4_order_X4_settleParts : GoodIn wsX4_order (wsV RX4 125 RX4 yX4_settleParts wsX4_settleParts) := goodIn_app (goodIn_of _ (by decide +kernel)) ggX4_order_X4_settleParts
theorem dX4_order_0 : decode cX4_order 0 = .ok (.iload_n 2, 1) := by decide +kernel
theorem dX4_order_1 : decode cX4_order 1 = .ok (.invokestatic 90, 3) := by decide +kernel
theorem dX4_order_4 : decode cX4_order 4 = .ok (.iload_n 1, 1) := by decide +kernel
theorem dX4_order_5 : decode cX4_order 5 = .ok (.iconst 0, 1) := by decide +kernel
theorem dX4_order_6 : decode cX4_order 6 = .ok (.sipush 255, 3) := by decide +kernel
theorem dX4_order_9 : decode cX4_order 9 = .ok (.invokestatic 69, 3) := by decide +kernel
theorem dX4_order_12 : decode cX4_order 12 = .ok (.iload_n 3, 1) := by decide +kernel
theorem dX4_order_13 : decode cX4_order 13 = .ok (.iconst 1, 1) := by decide +kernel
theorem dX4_order_14 : decode cX4_order 14 = .ok (.ldc 77, 2) := by decide +kernel
theorem dX4_order_16 : decode cX4_order 16 = .ok (.invokestatic 69, 3) := by decide +kernel
theorem dX4_order_19 : decode cX4_order 19 = .ok (.iload_n 1, 1) := by decide +kernel
theorem dX4_order_20 : decode cX4_order 20 = .ok (.invokestatic 107, 3) := by decide +kernel
theorem dX4_order_23 : decode cX4_order 23 = .ok (.istore 4, 2) := by decide +kernel
theorem dX4_order_25 : decode cX4_order 25 = .ok (.iload 4, 2) := by decide +kernel
theorem dX4_order_27 : decode cX4_order 27 = .ok (.iconst 1, 1) := by decide +kernel
theorem dX4_order_28 : decode cX4_order 28 = .ok (.if_icmp .ge 13, 3) := by decide +kernel
theorem dX4_order_31 : decode cX4_order 31 = .ok (.new 112, 3) := by decide +kernel
theorem dX4_order_34 : decode cX4_order 34 = .ok (.dup, 1) := by decide +kernel
theorem dX4_order_35 : decode cX4_order 35 = .ok (.ldc 114, 2) := by decide +kernel
theorem dX4_order_37 : decode cX4_order 37 = .ok (.invokespecial 116, 3) := by decide +kernel
theorem dX4_order_40 : decode cX4_order 40 = .ok (.athrow, 1) := by decide +kernel
theorem dX4_order_41 : decode cX4_order 41 = .ok (.iload_n 1, 1) := by decide +kernel
theorem dX4_order_42 : decode cX4_order 42 = .ok (.aload_n 0, 1) := by decide +kernel
theorem dX4_order_43 : decode cX4_order 43 = .ok (.getfield 10, 3) := by decide +kernel
theorem dX4_order_46 : decode cX4_order 46 = .ok (.getfield 52, 3) := by decide +kernel
theorem dX4_order_49 : decode cX4_order 49 = .ok (.ishr, 1) := by decide +kernel
theorem dX4_order_50 : decode cX4_order 50 = .ok (.ifCond .eq 13, 3) := by decide +kernel
theorem dX4_order_53 : decode cX4_order 53 = .ok (.new 56, 3) := by decide +kernel
theorem dX4_order_56 : decode cX4_order 56 = .ok (.dup, 1) := by decide +kernel
theorem dX4_order_57 : decode cX4_order 57 = .ok (.ldc 117, 2) := by decide +kernel
theorem dX4_order_59 : decode cX4_order 59 = .ok (.invokespecial 60, 3) := by decide +kernel
theorem dX4_order_62 : decode cX4_order 62 = .ok (.athrow, 1) := by decide +kernel
theorem dX4_order_63 : decode cX4_order 63 = .ok (.iload 4, 2) := by decide +kernel
theorem dX4_order_65 : decode cX4_order 65 = .ok (.iload_n 3, 1) := by decide +kernel
theorem dX4_order_66 : decode cX4_order 66 = .ok (.invokestatic 119, 3) := by decide +kernel
theorem dX4_order_69 : decode cX4_order 69 = .ok (.istore 5, 2) := by decide +kernel
theorem dX4_order_71 : decode cX4_order 71 = .ok (.aload_n 0, 1) := by decide +kernel
theorem dX4_order_72 : decode cX4_order 72 = .ok (.iload 5, 2) := by decide +kernel
theorem dX4_order_74 : decode cX4_order 74 = .ok (.invokevirtual 100, 3) := by decide +kernel
theorem dX4_order_77 : decode cX4_order 77 = .ok (.aload_n 0, 1) := by decide +kernel
theorem dX4_order_78 : decode cX4_order 78 = .ok (.iload_n 1, 1) := by decide +kernel
theorem dX4_order_79 : decode cX4_order 79 = .ok (.iload_n 2, 1) := by decide +kernel
theorem dX4_order_80 : decode cX4_order 80 = .ok (.iload_n 3, 1) := by decide +kernel
theorem dX4_order_81 : decode cX4_order 81 = .ok (.iload 4, 2) := by decide +kernel
theorem dX4_order_83 : decode cX4_order 83 = .ok (.idiv, 1) := by decide +kernel
theorem dX4_order_84 : decode cX4_order 84 = .ok (.iload_n 3, 1) := by decide +kernel
theorem dX4_order_85 : decode cX4_order 85 = .ok (.iload 4, 2) := by decide +kernel
theorem dX4_order_87 : decode cX4_order 87 = .ok (.irem, 1) := by decide +kernel
theorem dX4_order_88 : decode cX4_order 88 = .ok (.invokevirtual 125, 3) := by decide +kernel
theorem dX4_order_91 : decode cX4_order 91 = .ok (.iload 5, 2) := by decide +kernel
theorem dX4_order_93 : decode cX4_order 93 = .ok (.ireturn, 1) := by decide +kernel
set_option maxRecDepth 20000 in
theorem ggX4_refund_X4_requireBetween : GoodIn wsX4_refund wsX4_requireBetween := goodIn_ca (goodIn_r _ [25, 26, 27] (by decide +kernel) (by decide +kernel)) (goodIn_sub (fun _ h => List.mem_cons_of_mem _ (List.mem_append_right _ h)) (by decide +kernel))
set_option maxRecDepth 20000 in
theorem gX4_refund_X4_requireBetween : GoodIn wsX4_refund (va_wsS RX4 69 yX4_requireBetween wsX4_requireBetween) := goodIn_app (goodIn_of _ (by decide +kernel)) ggX4_refund_X4_requireBetween
set_option maxRecDepth 20000 in
theorem ggX4_refund_X4_partOf : GoodIn wsX4_refund wsX4_partOf := goodIn_r _ [30] (by decide +kernel) (by decide +kernel)
set_option maxRecDepth 20000 in
theorem gX4_refund_X4_partOf : GoodIn wsX4_refund (va_wsS RX4 142 yX4_partOf wsX4_partOf) := goodIn_app (goodIn_of _ (by decide +kernel)) ggX4_refund_X4_partOf
set_option maxRecDepth 20000 in
theorem ggX4_refund_X4_feeOn : GoodIn wsX4_refund wsX4_feeOn := goodIn_r _ [33] (by decide +kernel) (by decide +kernel)
set_option maxRecDepth 20000 in
theorem gX4_refund_X4_feeOn : GoodIn wsX4_refund (va_wsS RX4 148 yX4_feeOn wsX4_feeOn) := goodIn_app (goodIn_of _ (by decide +kernel)) ggX4_refund_X4_feeOn
set_option maxRecDepth 20000 in
theorem ggX4_refund_X4_post : GoodIn wsX4_refund wsX4_post := goodIn_r _ [37, 20, 21, 38, 39, 40, 41, 42, 43, 44, 45, 46, 47, 48, 49, 50, 51, 52, 53, 54, 55, 56, 57, 58, 59, 60, 61, 62, 71, 72, 73, 74, 75, 76, 77, 78, 79, 80, 81, 82, 83] (by decide +kernel) (by decide +kernel)
set_option maxRecDepth 20000 in
theorem gX4_refund_X4_post : GoodIn wsX4_refund (wsV RX4 164 RX4 yX4_post wsX4_post) := goodIn_app (goodIn_of _ (by decide +kernel)) ggX4_refund_X4_post
theorem dX4_refund_0 : decode cX4_refund 0 = .ok (.iload_n 1, 1) := by decide +kernel
theorem dX4_refund_1 : decode cX4_refund 1 = .ok (.ifCond .lt 14, 3) := by decide +kernel
theorem dX4_refund_4 : decode cX4_refund 4 = .ok (.iload_n 1, 1) := by decide +kernel
theorem dX4_refund_5 : decode cX4_refund 5 = .ok (.aload_n 0, 1) := by decide +kernel
theorem dX4_refund_6 : decode cX4_refund 6 = .ok (.getfield 19, 3) := by decide +kernel
theorem dX4_refund_9 : decode cX4_refund 9 = .ok (.getfield 129, 3) := by decide +kernel
theorem dX4_refund_12 : decode cX4_refund 12 = .ok (.if_icmp .lt 13, 3) := by decide +kernel
theorem dX4_refund_15 : decode cX4_refund 15 = .ok (.new 45, 3) := by decide +kernel
theorem dX4_refund_18 : decode cX4_refund 18 = .ok (.dup, 1) := by decide +kernel
theorem dX4_refund_19 : decode cX4_refund 19 = .ok (.ldc 130, 2) := by decide +kernel
theorem dX4_refund_21 : decode cX4_refund 21 = .ok (.invokespecial 49, 3) := by decide +kernel
theorem dX4_refund_24 : decode cX4_refund 24 = .ok (.athrow, 1) := by decide +kernel
theorem dX4_refund_25 : decode cX4_refund 25 = .ok (.iload_n 2, 1) := by decide +kernel
theorem dX4_refund_26 : decode cX4_refund 26 = .ok (.iconst 1, 1) := by decide +kernel
theorem dX4_refund_27 : decode cX4_refund 27 = .ok (.ldc 77, 2) := by decide +kernel
theorem dX4_refund_29 : decode cX4_refund 29 = .ok (.invokestatic 69, 3) := by decide +kernel
theorem dX4_refund_32 : decode cX4_refund 32 = .ok (.iload_n 2, 1) := by decide +kernel
theorem dX4_refund_33 : decode cX4_refund 33 = .ok (.aload_n 0, 1) := by decide +kernel
theorem dX4_refund_34 : decode cX4_refund 34 = .ok (.getfield 19, 3) := by decide +kernel
theorem dX4_refund_37 : decode cX4_refund 37 = .ok (.getfield 132, 3) := by decide +kernel
theorem dX4_refund_40 : decode cX4_refund 40 = .ok (.iload_n 1, 1) := by decide +kernel
theorem dX4_refund_41 : decode cX4_refund 41 = .ok (.iaload, 1) := by decide +kernel
theorem dX4_refund_42 : decode cX4_refund 42 = .ok (.if_icmp .le 13, 3) := by decide +kernel
theorem dX4_refund_45 : decode cX4_refund 45 = .ok (.new 56, 3) := by decide +kernel
theorem dX4_refund_48 : decode cX4_refund 48 = .ok (.dup, 1) := by decide +kernel
theorem dX4_refund_49 : decode cX4_refund 49 = .ok (.ldc 135, 2) := by decide +kernel
theorem dX4_refund_51 : decode cX4_refund 51 = .ok (.invokespecial 60, 3) := by decide +kernel
theorem dX4_refund_54 : decode cX4_refund 54 = .ok (.athrow, 1) := by decide +kernel
theorem dX4_refund_55 : decode cX4_refund 55 = .ok (.aload_n 0, 1) := by decide +kernel
theorem dX4_refund_56 : decode cX4_refund 56 = .ok (.getfield 19, 3) := by decide +kernel
theorem dX4_refund_59 : decode cX4_refund 59 = .ok (.getfield 137, 3) := by decide +kernel
theorem dX4_refund_62 : decode cX4_refund 62 = .ok (.iload_n 1, 1) := by decide +kernel
theorem dX4_refund_63 : decode cX4_refund 63 = .ok (.iaload, 1) := by decide +kernel
theorem dX4_refund_64 : decode cX4_refund 64 = .ok (.istore 4, 2) := by decide +kernel
theorem dX4_refund_66 : decode cX4_refund 66 = .ok (.iload_n 2, 1) := by decide +kernel
theorem dX4_refund_67 : decode cX4_refund 67 = .ok (.aload_n 0, 1) := by decide +kernel
theorem dX4_refund_68 : decode cX4_refund 68 = .ok (.getfield 19, 3) := by decide +kernel
theorem dX4_refund_71 : decode cX4_refund 71 = .ok (.getfield 140, 3) := by decide +kernel
theorem dX4_refund_74 : decode cX4_refund 74 = .ok (.iload_n 1, 1) := by decide +kernel
theorem dX4_refund_75 : decode cX4_refund 75 = .ok (.iaload, 1) := by decide +kernel
theorem dX4_refund_76 : decode cX4_refund 76 = .ok (.invokestatic 142, 3) := by decide +kernel
theorem dX4_refund_79 : decode cX4_refund 79 = .ok (.istore 5, 2) := by decide +kernel
theorem dX4_refund_81 : decode cX4_refund 81 = .ok (.iload_n 3, 1) := by decide +kernel
theorem dX4_refund_82 : decode cX4_refund 82 = .ok (.ifCond .eq 31, 3) := by decide +kernel
theorem dX4_refund_85 : decode cX4_refund 85 = .ok (.iload_n 2, 1) := by decide +kernel
theorem dX4_refund_86 : decode cX4_refund 86 = .ok (.aload_n 0, 1) := by decide +kernel
theorem dX4_refund_87 : decode cX4_refund 87 = .ok (.getfield 19, 3) := by decide +kernel
theorem dX4_refund_90 : decode cX4_refund 90 = .ok (.getfield 145, 3) := by decide +kernel
theorem dX4_refund_93 : decode cX4_refund 93 = .ok (.iload_n 1, 1) := by decide +kernel
theorem dX4_refund_94 : decode cX4_refund 94 = .ok (.faload, 1) := by decide +kernel
theorem dX4_refund_95 : decode cX4_refund 95 = .ok (.invokestatic 148, 3) := by decide +kernel
theorem dX4_refund_98 : decode cX4_refund 98 = .ok (.aload_n 0, 1) := by decide +kernel
theorem dX4_refund_99 : decode cX4_refund 99 = .ok (.getfield 19, 3) := by decide +kernel
theorem dX4_refund_102 : decode cX4_refund 102 = .ok (.getfield 152, 3) := by decide +kernel
theorem dX4_refund_105 : decode cX4_refund 105 = .ok (.iload_n 1, 1) := by decide +kernel
theorem dX4_refund_106 : decode cX4_refund 106 = .ok (.iaload, 1) := by decide +kernel
theorem dX4_refund_107 : decode cX4_refund 107 = .ok (.invokestatic 119, 3) := by decide +kernel
theorem dX4_refund_110 : decode cX4_refund 110 = .ok (.goto 4, 3) := by decide +kernel
theorem dX4_refund_113 : decode cX4_refund 113 = .ok (.iconst 0, 1) := by decide +kernel
theorem dX4_refund_114 : decode cX4_refund 114 = .ok (.istore 6, 2) := by decide +kernel
theorem dX4_refund_116 : decode cX4_refund 116 = .ok (.aload_n 0, 1) := by decide +kernel
theorem dX4_refund_117 : decode cX4_refund 117 = .ok (.getfield 19, 3) := by decide +kernel
theorem dX4_refund_120 : decode cX4_refund 120 = .ok (.getfield 132, 3) := by decide +kernel
theorem dX4_refund_123 : decode cX4_refund 123 = .ok (.iload_n 1, 1) := by decide +kernel
theorem dX4_refund_124 : decode cX4_refund 124 = .ok (.dup2, 1) := by decide +kernel
theorem dX4_refund_125 : decode cX4_refund 125 = .ok (.iaload, 1) := by decide +kernel
theorem dX4_refund_126 : decode cX4_refund 126 = .ok (.iload_n 2, 1) := by decide +kernel
theorem dX4_refund_127 : decode cX4_refund 127 = .ok (.isub, 1) := by decide +kernel
theorem dX4_refund_128 : decode cX4_refund 128 = .ok (.iastore, 1) := by decide +kernel
theorem dX4_refund_129 : decode cX4_refund 129 = .ok (.aload_n 0, 1) := by decide +kernel
theorem dX4_refund_130 : decode cX4_refund 130 = .ok (.getfield 19, 3) := by decide +kernel
theorem dX4_refund_133 : decode cX4_refund 133 = .ok (.getfield 152, 3) := by decide +kernel
theorem dX4_refund_136 : decode cX4_refund 136 = .ok (.iload_n 1, 1) := by decide +kernel
theorem dX4_refund_137 : decode cX4_refund 137 = .ok (.dup2, 1) := by decide +kernel
theorem dX4_refund_138 : decode cX4_refund 138 = .ok (.iaload, 1) := by decide +kernel
theorem dX4_refund_139 : decode cX4_refund 139 = .ok (.iload 6, 2) := by decide +kernel
theorem dX4_refund_141 : decode cX4_refund 141 = .ok (.isub, 1) := by decide +kernel
theorem dX4_refund_142 : decode cX4_refund 142 = .ok (.iastore, 1) := by decide +kernel
theorem dX4_refund_143 : decode cX4_refund 143 = .ok (.aload_n 0, 1) := by decide +kernel
theorem dX4_refund_144 : decode cX4_refund 144 = .ok (.dup, 1) := by decide +kernel
theorem dX4_refund_145 : decode cX4_refund 145 = .ok (.getfield 155, 3) := by decide +kernel
theorem dX4_refund_148 : decode cX4_refund 148 = .ok (.iload_n 2, 1) := by decide +kernel
theorem dX4_refund_149 : decode cX4_refund 149 = .ok (.iadd, 1) := by decide +kernel
theorem dX4_refund_150 : decode cX4_refund 150 = .ok (.putfield 155, 3) := by decide +kernel
theorem dX4_refund_153 : decode cX4_refund 153 = .ok (.aload_n 0, 1) := by decide +kernel
theorem dX4_refund_154 : decode cX4_refund 154 = .ok (.dup, 1) := by decide +kernel
theorem dX4_refund_155 : decode cX4_refund 155 = .ok (.getfield 158, 3) := by decide +kernel
theorem dX4_refund_158 : decode cX4_refund 158 = .ok (.iload 5, 2) := by decide +kernel
theorem dX4_refund_160 : decode cX4_refund 160 = .ok (.isub, 1) := by decide +kernel
theorem dX4_refund_161 : decode cX4_refund 161 = .ok (.putfield 158, 3) := by decide +kernel
theorem dX4_refund_164 : decode cX4_refund 164 = .ok (.aload_n 0, 1) := by decide +kernel
theorem dX4_refund_165 : decode cX4_refund 165 = .ok (.dup, 1) := by decide +kernel
theorem dX4_refund_166 : decode cX4_refund 166 = .ok (.getfield 161, 3) := by decide +kernel
theorem dX4_refund_169 : decode cX4_refund 169 = .ok (.iload 6, 2) := by decide +kernel
theorem dX4_refund_171 : decode cX4_refund 171 = .ok (.isub, 1) := by decide +kernel
theorem dX4_refund_172 : decode cX4_refund 172 = .ok (.putfield 161, 3) := by decide +kernel
theorem dX4_refund_175 : decode cX4_refund 175 = .ok (.aload_n 0, 1) := by decide +kernel
theorem dX4_refund_176 : decode cX4_refund 176 = .ok (.iload 4, 2) := by decide +kernel
theorem dX4_refund_178 : decode cX4_refund 178 = .ok (.iload 5, 2) := by decide +kernel
theorem dX4_refund_180 : decode cX4_refund 180 = .ok (.iload 6, 2) := by decide +kernel
theorem dX4_refund_182 : decode cX4_refund 182 = .ok (.iadd, 1) := by decide +kernel
theorem dX4_refund_183 : decode cX4_refund 183 = .ok (.iload_n 2, 1) := by decide +kernel
theorem dX4_refund_184 : decode cX4_refund 184 = .ok (.isub, 1) := by decide +kernel
theorem dX4_refund_185 : decode cX4_refund 185 = .ok (.invokevirtual 164, 3) := by decide +kernel
theorem dX4_refund_188 : decode cX4_refund 188 = .ok (.aload_n 0, 1) := by decide +kernel
theorem dX4_refund_189 : decode cX4_refund 189 = .ok (.getfield 10, 3) := by decide +kernel
theorem dX4_refund_192 : decode cX4_refund 192 = .ok (.getfield 168, 3) := by decide +kernel
theorem dX4_refund_195 : decode cX4_refund 195 = .ok (.iload 4, 2) := by decide +kernel
theorem dX4_refund_197 : decode cX4_refund 197 = .ok (.iaload, 1) := by decide +kernel
theorem dX4_refund_198 : decode cX4_refund 198 = .ok (.ireturn, 1) := by decide +kernel
set_option maxRecDepth 20000 in
theorem ggX4_pass_X4_requireBetween : GoodIn wsX4_pass wsX4_requireBetween := goodIn_ca (goodIn_r _ [9, 10, 11] (by decide +kernel) (by decide +kernel)) (goodIn_sub (fun _ h => List.mem_cons_of_mem _ (List.mem_append_right _ h)) (by decide +kernel))
set_option maxRecDepth 20000 in
theorem gX4_pass_X4_requireBetween : GoodIn wsX4_pass (va_wsS RX4 69 yX4_requireBetween wsX4_requireBetween) := goodIn_app (goodIn_of _ (by decide +kernel)) ggX4_pass_X4_requireBetween
set_option maxRecDepth 20000 in
theorem ggX4_pass_X4_endDay : GoodIn wsX4_pass wsX4_endDay := goodIn_r _ [15, 16, 17, 18, 3, 19, 20, 21, 8, 22, 23, 24, 25, 26, 27, 28, 29, 30, 31, 32, 33, 34, 35, 36, 37, 38, 39, 40, 41, 42, 43, 44, 45, 46, 47, 48, 49, 50, 51, 52, 53, 54, 55, 56, 57, 58, 59, 60, 61, 62, 63, 64, 65, 66, 67, 4, 68, 69, 70, 71, 72, 73, 74, 75, 76, 77, 78, 79, 80, 81, 82, 83, 84, 85, 86, 87, 88, 89, 90, 91, 92, 93, 94, 95, 96, 97, 98, 99, 100, 101, 102, 103, 104, 105, 106, 107, 108, 109, 110, 111, 112, 113, 114, 115, 120, 121, 122, 123, 124, 125, 126, 127, 128, 129, 130, 131, 132, 133, 134, 135, 136, 137, 138, 139, 140, 116, 117, 118, 119] (by decide +kernel) (by decide +kernel)
set_option maxRecDepth 20000 in
theorem gX4_pass_X4_endDay : GoodIn wsX4_pass (wsV RX4 177 RX4 yX4_endDay wsX4_endDay) := goodIn_app (goodIn_of _ (by decide +kernel)) ggX4_pass_X4_endDay
theorem dX4_pass_0 : decode cX4_pass 0 = .ok (.iload_n 1, 1) := by decide +kernel
theorem dX4_pass_1 : decode cX4_pass 1 = .ok (.iconst 1, 1) := by decide +kernel
theorem dX4_pass_2 : decode cX4_pass 2 = .ok (.bipush 100, 2) := by decide +kernel
theorem dX4_pass_4 : decode cX4_pass 4 = .ok (.invokestatic 69, 3) := by decide +kernel
theorem dX4_pass_7 : decode cX4_pass 7 = .ok (.aload_n 0, 1) := by decide +kernel
theorem dX4_pass_8 : decode cX4_pass 8 = .ok (.getfield 171, 3) := by decide +kernel
theorem dX4_pass_11 : decode cX4_pass 11 = .ok (.iload_n 1, 1) := by decide +kernel
theorem dX4_pass_12 : decode cX4_pass 12 = .ok (.iadd, 1) := by decide +kernel
theorem dX4_pass_13 : decode cX4_pass 13 = .ok (.sipush 5000, 3) := by decide +kernel
theorem dX4_pass_16 : decode cX4_pass 16 = .ok (.if_icmp .le 13, 3) := by decide +kernel
theorem dX4_pass_19 : decode cX4_pass 19 = .ok (.new 56, 3) := by decide +kernel
theorem dX4_pass_22 : decode cX4_pass 22 = .ok (.dup, 1) := by decide +kernel
theorem dX4_pass_23 : decode cX4_pass 23 = .ok (.ldc 174, 2) := by decide +kernel
theorem dX4_pass_25 : decode cX4_pass 25 = .ok (.invokespecial 60, 3) := by decide +kernel
theorem dX4_pass_28 : decode cX4_pass 28 = .ok (.athrow, 1) := by decide +kernel
theorem dX4_pass_29 : decode cX4_pass 29 = .ok (.aload_n 0, 1) := by decide +kernel
theorem dX4_pass_30 : decode cX4_pass 30 = .ok (.getfield 26, 3) := by decide +kernel
theorem dX4_pass_33 : decode cX4_pass 33 = .ok (.getfield 176, 3) := by decide +kernel
theorem dX4_pass_36 : decode cX4_pass 36 = .ok (.istore_n 2, 1) := by decide +kernel
theorem dX4_pass_37 : decode cX4_pass 37 = .ok (.iconst 0, 1) := by decide +kernel
theorem dX4_pass_38 : decode cX4_pass 38 = .ok (.istore_n 3, 1) := by decide +kernel
theorem dX4_pass_39 : decode cX4_pass 39 = .ok (.iload_n 3, 1) := by decide +kernel
theorem dX4_pass_40 : decode cX4_pass 40 = .ok (.iload_n 1, 1) := by decide +kernel
theorem dX4_pass_41 : decode cX4_pass 41 = .ok (.if_icmp .ge 13, 3) := by decide +kernel
theorem dX4_pass_44 : decode cX4_pass 44 = .ok (.aload_n 0, 1) := by decide +kernel
theorem dX4_pass_45 : decode cX4_pass 45 = .ok (.invokevirtual 177, 3) := by decide +kernel
theorem dX4_pass_48 : decode cX4_pass 48 = .ok (.iinc 3 1, 3) := by decide +kernel
theorem dX4_pass_51 : decode cX4_pass 51 = .ok (.goto (-12), 3) := by decide +kernel
theorem dX4_pass_54 : decode cX4_pass 54 = .ok (.aload_n 0, 1) := by decide +kernel
theorem dX4_pass_55 : decode cX4_pass 55 = .ok (.getfield 26, 3) := by decide +kernel
theorem dX4_pass_58 : decode cX4_pass 58 = .ok (.getfield 176, 3) := by decide +kernel
theorem dX4_pass_61 : decode cX4_pass 61 = .ok (.iload_n 2, 1) := by decide +kernel
theorem dX4_pass_62 : decode cX4_pass 62 = .ok (.isub, 1) := by decide +kernel
theorem dX4_pass_63 : decode cX4_pass 63 = .ok (.ireturn, 1) := by decide +kernel
set_option maxRecDepth 20000 in
theorem ggX4_fail_X4_requirePayout : GoodIn wsX4_fail wsX4_requirePayout := goodIn_ca (goodIn_r _ [14, 15, 16, 3, 17, 36, 37, 38, 39, 40, 41, 42, 43, 44, 45, 46, 47, 48, 49, 50] (by decide +kernel) (by decide +kernel)) (goodIn_sub (fun _ h => List.mem_cons_of_mem _ (List.mem_append_right _ h)) (by decide +kernel))
set_option maxRecDepth 20000 in
theorem gX4_fail_X4_requirePayout : GoodIn wsX4_fail (wsV RX4 180 RX4 yX4_requirePayout wsX4_requirePayout) := goodIn_app (goodIn_of _ (by decide +kernel)) ggX4_fail_X4_requirePayout
set_option maxRecDepth 20000 in
theorem ggX4_fail_X4_post : GoodIn wsX4_fail wsX4_post := goodIn_r _ [21, 7, 9, 22, 23, 24, 25, 26, 27, 28, 29, 30, 31, 32, 33, 34, 35, 36, 37, 38, 39, 40, 41, 42, 43, 44, 45, 46, 51, 52, 53, 54, 55, 56, 57, 58, 59, 60, 61, 62, 63] (by decide +kernel) (by decide +kernel)
set_option maxRecDepth 20000 in
theorem gX4_fail_X4_post : GoodIn wsX4_fail (wsV RX4 164 RX4 yX4_post wsX4_post) := goodIn_app (goodIn_of _ (by decide +kernel)) ggX4_fail_X4_post
theorem dX4_fail_0 : decode cX4_fail 0 = .ok (.aload_n 0, 1) := by decide +kernel
theorem dX4_fail_1 : decode cX4_fail 1 = .ok (.iload_n 1, 1) := by decide +kernel
theorem dX4_fail_2 : decode cX4_fail 2 = .ok (.invokevirtual 180, 3) := by decide +kernel
theorem dX4_fail_5 : decode cX4_fail 5 = .ok (.aload_n 0, 1) := by decide +kernel
theorem dX4_fail_6 : decode cX4_fail 6 = .ok (.getfield 26, 3) := by decide +kernel
theorem dX4_fail_9 : decode cX4_fail 9 = .ok (.getfield 183, 3) := by decide +kernel
theorem dX4_fail_12 : decode cX4_fail 12 = .ok (.iload_n 1, 1) := by decide +kernel
theorem dX4_fail_13 : decode cX4_fail 13 = .ok (.iaload, 1) := by decide +kernel
theorem dX4_fail_14 : decode cX4_fail 14 = .ok (.ifCond .eq 13, 3) := by decide +kernel
theorem dX4_fail_17 : decode cX4_fail 17 = .ok (.new 56, 3) := by decide +kernel
theorem dX4_fail_20 : decode cX4_fail 20 = .ok (.dup, 1) := by decide +kernel
theorem dX4_fail_21 : decode cX4_fail 21 = .ok (.ldc 186, 2) := by decide +kernel
theorem dX4_fail_23 : decode cX4_fail 23 = .ok (.invokespecial 60, 3) := by decide +kernel
theorem dX4_fail_26 : decode cX4_fail 26 = .ok (.athrow, 1) := by decide +kernel
theorem dX4_fail_27 : decode cX4_fail 27 = .ok (.aload_n 0, 1) := by decide +kernel
theorem dX4_fail_28 : decode cX4_fail 28 = .ok (.getfield 26, 3) := by decide +kernel
theorem dX4_fail_31 : decode cX4_fail 31 = .ok (.getfield 188, 3) := by decide +kernel
theorem dX4_fail_34 : decode cX4_fail 34 = .ok (.iload_n 1, 1) := by decide +kernel
theorem dX4_fail_35 : decode cX4_fail 35 = .ok (.iaload, 1) := by decide +kernel
theorem dX4_fail_36 : decode cX4_fail 36 = .ok (.istore_n 2, 1) := by decide +kernel
theorem dX4_fail_37 : decode cX4_fail 37 = .ok (.aload_n 0, 1) := by decide +kernel
theorem dX4_fail_38 : decode cX4_fail 38 = .ok (.getfield 26, 3) := by decide +kernel
theorem dX4_fail_41 : decode cX4_fail 41 = .ok (.getfield 189, 3) := by decide +kernel
theorem dX4_fail_44 : decode cX4_fail 44 = .ok (.iload_n 1, 1) := by decide +kernel
theorem dX4_fail_45 : decode cX4_fail 45 = .ok (.iaload, 1) := by decide +kernel
theorem dX4_fail_46 : decode cX4_fail 46 = .ok (.istore_n 3, 1) := by decide +kernel
theorem dX4_fail_47 : decode cX4_fail 47 = .ok (.aload_n 0, 1) := by decide +kernel
theorem dX4_fail_48 : decode cX4_fail 48 = .ok (.getfield 26, 3) := by decide +kernel
theorem dX4_fail_51 : decode cX4_fail 51 = .ok (.getfield 183, 3) := by decide +kernel
theorem dX4_fail_54 : decode cX4_fail 54 = .ok (.iload_n 1, 1) := by decide +kernel
theorem dX4_fail_55 : decode cX4_fail 55 = .ok (.iconst 1, 1) := by decide +kernel
theorem dX4_fail_56 : decode cX4_fail 56 = .ok (.iastore, 1) := by decide +kernel
theorem dX4_fail_57 : decode cX4_fail 57 = .ok (.aload_n 0, 1) := by decide +kernel
theorem dX4_fail_58 : decode cX4_fail 58 = .ok (.getfield 10, 3) := by decide +kernel
theorem dX4_fail_61 : decode cX4_fail 61 = .ok (.getfield 192, 3) := by decide +kernel
theorem dX4_fail_64 : decode cX4_fail 64 = .ok (.iload_n 2, 1) := by decide +kernel
theorem dX4_fail_65 : decode cX4_fail 65 = .ok (.dup2, 1) := by decide +kernel
theorem dX4_fail_66 : decode cX4_fail 66 = .ok (.iaload, 1) := by decide +kernel
theorem dX4_fail_67 : decode cX4_fail 67 = .ok (.iload_n 3, 1) := by decide +kernel
theorem dX4_fail_68 : decode cX4_fail 68 = .ok (.isub, 1) := by decide +kernel
theorem dX4_fail_69 : decode cX4_fail 69 = .ok (.iastore, 1) := by decide +kernel
theorem dX4_fail_70 : decode cX4_fail 70 = .ok (.aload_n 0, 1) := by decide +kernel
theorem dX4_fail_71 : decode cX4_fail 71 = .ok (.iload_n 2, 1) := by decide +kernel
theorem dX4_fail_72 : decode cX4_fail 72 = .ok (.iload_n 3, 1) := by decide +kernel
theorem dX4_fail_73 : decode cX4_fail 73 = .ok (.invokevirtual 164, 3) := by decide +kernel
theorem dX4_fail_76 : decode cX4_fail 76 = .ok (.aload_n 0, 1) := by decide +kernel
theorem dX4_fail_77 : decode cX4_fail 77 = .ok (.getfield 10, 3) := by decide +kernel
theorem dX4_fail_80 : decode cX4_fail 80 = .ok (.getfield 168, 3) := by decide +kernel
theorem dX4_fail_83 : decode cX4_fail 83 = .ok (.iload_n 2, 1) := by decide +kernel
theorem dX4_fail_84 : decode cX4_fail 84 = .ok (.iaload, 1) := by decide +kernel
theorem dX4_fail_85 : decode cX4_fail 85 = .ok (.ireturn, 1) := by decide +kernel
theorem dX4_today_0 : decode cX4_today 0 = .ok (.aload_n 0, 1) := by decide +kernel
theorem dX4_today_1 : decode cX4_today 1 = .ok (.getfield 171, 3) := by decide +kernel
theorem dX4_today_4 : decode cX4_today 4 = .ok (.ireturn, 1) := by decide +kernel
theorem dX4_payouts_0 : decode cX4_payouts 0 = .ok (.aload_n 0, 1) := by decide +kernel
theorem dX4_payouts_1 : decode cX4_payouts 1 = .ok (.getfield 26, 3) := by decide +kernel
theorem dX4_payouts_4 : decode cX4_payouts 4 = .ok (.getfield 176, 3) := by decide +kernel
theorem dX4_payouts_7 : decode cX4_payouts 7 = .ok (.ireturn, 1) := by decide +kernel
set_option maxRecDepth 20000 in
theorem ggX4_payout_X4_requirePayout : GoodIn wsX4_payout wsX4_requirePayout := goodIn_ca (goodIn_r _ [7, 8, 9, 1, 10, 11, 12, 13, 14, 15, 16, 17, 18, 19, 20, 21, 22, 23, 24, 25] (by decide +kernel) (by decide +kernel)) (goodIn_sub (fun _ h => List.mem_cons_of_mem _ (List.mem_append_right _ h)) (by decide +kernel))
set_option maxRecDepth 20000 in
theorem gX4_payout_X4_requirePayout : GoodIn wsX4_payout (wsV RX4 180 RX4 yX4_requirePayout wsX4_requirePayout) := goodIn_app (goodIn_of _ (by decide +kernel)) ggX4_payout_X4_requirePayout
theorem dX4_payout_0 : decode cX4_payout 0 = .ok (.aload_n 0, 1) := by decide +kernel
theorem dX4_payout_1 : decode cX4_payout 1 = .ok (.iload_n 1, 1) := by decide +kernel
theorem dX4_payout_2 : decode cX4_payout 2 = .ok (.invokevirtual 180, 3) := by decide +kernel
theorem dX4_payout_5 : decode cX4_payout 5 = .ok (.aload_n 0, 1) := by decide +kernel
theorem dX4_payout_6 : decode cX4_payout 6 = .ok (.getfield 26, 3) := by decide +kernel
theorem dX4_payout_9 : decode cX4_payout 9 = .ok (.getfield 189, 3) := by decide +kernel
theorem dX4_payout_12 : decode cX4_payout 12 = .ok (.iload_n 1, 1) := by decide +kernel
theorem dX4_payout_13 : decode cX4_payout 13 = .ok (.iaload, 1) := by decide +kernel
theorem dX4_payout_14 : decode cX4_payout 14 = .ok (.ireturn, 1) := by decide +kernel
set_option maxRecDepth 20000 in
theorem ggX4_sellerOf_X4_requirePayout : GoodIn wsX4_sellerOf wsX4_requirePayout := goodIn_ca (goodIn_r _ [7, 8, 9, 1, 10, 11, 12, 13, 14, 15, 16, 17, 18, 19, 20, 21, 22, 23, 24, 25] (by decide +kernel) (by decide +kernel)) (goodIn_sub (fun _ h => List.mem_cons_of_mem _ (List.mem_append_right _ h)) (by decide +kernel))
set_option maxRecDepth 20000 in
theorem gX4_sellerOf_X4_requirePayout : GoodIn wsX4_sellerOf (wsV RX4 180 RX4 yX4_requirePayout wsX4_requirePayout) := goodIn_app (goodIn_of _ (by decide +kernel)) ggX4_sellerOf_X4_requirePayout
theorem dX4_sellerOf_0 : decode cX4_sellerOf 0 = .ok (.aload_n 0, 1) := by decide +kernel
theorem dX4_sellerOf_1 : decode cX4_sellerOf 1 = .ok (.iload_n 1, 1) := by decide +kernel
theorem dX4_sellerOf_2 : decode cX4_sellerOf 2 = .ok (.invokevirtual 180, 3) := by decide +kernel
theorem dX4_sellerOf_5 : decode cX4_sellerOf 5 = .ok (.aload_n 0, 1) := by decide +kernel
theorem dX4_sellerOf_6 : decode cX4_sellerOf 6 = .ok (.getfield 26, 3) := by decide +kernel
theorem dX4_sellerOf_9 : decode cX4_sellerOf 9 = .ok (.getfield 188, 3) := by decide +kernel
theorem dX4_sellerOf_12 : decode cX4_sellerOf 12 = .ok (.iload_n 1, 1) := by decide +kernel
theorem dX4_sellerOf_13 : decode cX4_sellerOf 13 = .ok (.iaload, 1) := by decide +kernel
theorem dX4_sellerOf_14 : decode cX4_sellerOf 14 = .ok (.ireturn, 1) := by decide +kernel
set_option maxRecDepth 20000 in
theorem ggX4_balance_X4_requireSeller : GoodIn wsX4_balance wsX4_requireSeller := goodIn_ca (goodIn_r _ [7, 8, 9, 1, 10, 11, 12, 13, 14, 15, 16, 17, 18, 19, 20, 21, 22, 23, 24, 25, 26, 27, 28, 29, 30] (by decide +kernel) (by decide +kernel)) (goodIn_sub (fun _ h => List.mem_cons_of_mem _ (List.mem_append_right _ h)) (by decide +kernel))
set_option maxRecDepth 20000 in
theorem gX4_balance_X4_requireSeller : GoodIn wsX4_balance (wsV RX4 65 RX4 yX4_requireSeller wsX4_requireSeller) := goodIn_app (goodIn_of _ (by decide +kernel)) ggX4_balance_X4_requireSeller
theorem dX4_balance_0 : decode cX4_balance 0 = .ok (.aload_n 0, 1) := by decide +kernel
theorem dX4_balance_1 : decode cX4_balance 1 = .ok (.iload_n 1, 1) := by decide +kernel
theorem dX4_balance_2 : decode cX4_balance 2 = .ok (.invokevirtual 65, 3) := by decide +kernel
theorem dX4_balance_5 : decode cX4_balance 5 = .ok (.aload_n 0, 1) := by decide +kernel
theorem dX4_balance_6 : decode cX4_balance 6 = .ok (.getfield 10, 3) := by decide +kernel
theorem dX4_balance_9 : decode cX4_balance 9 = .ok (.getfield 168, 3) := by decide +kernel
theorem dX4_balance_12 : decode cX4_balance 12 = .ok (.iload_n 1, 1) := by decide +kernel
theorem dX4_balance_13 : decode cX4_balance 13 = .ok (.iaload, 1) := by decide +kernel
theorem dX4_balance_14 : decode cX4_balance 14 = .ok (.ireturn, 1) := by decide +kernel
set_option maxRecDepth 20000 in
theorem ggX4_balanceByEntries_X4_requireSeller : GoodIn wsX4_balanceByEntries wsX4_requireSeller := goodIn_ca (goodIn_r _ [6, 7, 8, 9, 10, 20, 21, 22, 23, 24, 25, 26, 27, 28, 29, 30, 31, 32, 33, 34, 35, 36, 37, 38, 39] (by decide +kernel) (by decide +kernel)) (goodIn_sub (fun _ h => List.mem_cons_of_mem _ (List.mem_append_right _ h)) (by decide +kernel))
set_option maxRecDepth 20000 in
theorem gX4_balanceByEntries_X4_requireSeller : GoodIn wsX4_balanceByEntries (wsV RX4 65 RX4 yX4_requireSeller wsX4_requireSeller) := goodIn_app (goodIn_of _ (by decide +kernel)) ggX4_balanceByEntries_X4_requireSeller
set_option maxRecDepth 20000 in
theorem ggX4_balanceByEntries_X0_sumOf : GoodIn wsX4_balanceByEntries wsX0_sumOf := goodIn_r _ [15, 16, 17, 18, 19, 40, 41, 42, 43] (by decide +kernel) (by decide +kernel)
set_option maxRecDepth 20000 in
theorem gX4_balanceByEntries_X0_sumOf : GoodIn wsX4_balanceByEntries (wsV RX4 195 RX0 yX0_sumOf wsX0_sumOf) := goodIn_app (goodIn_of _ (by decide +kernel)) ggX4_balanceByEntries_X0_sumOf
theorem dX4_balanceByEntries_0 : decode cX4_balanceByEntries 0 = .ok (.aload_n 0, 1) := by decide +kernel
theorem dX4_balanceByEntries_1 : decode cX4_balanceByEntries 1 = .ok (.iload_n 1, 1) := by decide +kernel
theorem dX4_balanceByEntries_2 : decode cX4_balanceByEntries 2 = .ok (.invokevirtual 65, 3) := by decide +kernel
theorem dX4_balanceByEntries_5 : decode cX4_balanceByEntries 5 = .ok (.aload_n 0, 1) := by decide +kernel
theorem dX4_balanceByEntries_6 : decode cX4_balanceByEntries 6 = .ok (.getfield 33, 3) := by decide +kernel
theorem dX4_balanceByEntries_9 : decode cX4_balanceByEntries 9 = .ok (.iload_n 1, 1) := by decide +kernel
theorem dX4_balanceByEntries_10 : decode cX4_balanceByEntries 10 = .ok (.invokevirtual 195, 3) := by decide +kernel
theorem dX4_balanceByEntries_13 : decode cX4_balanceByEntries 13 = .ok (.ireturn, 1) := by decide +kernel
set_option maxRecDepth 20000 in
theorem ggX4_reserve_X4_requireSeller : GoodIn wsX4_reserve wsX4_requireSeller := goodIn_ca (goodIn_r _ [6, 7, 8, 9, 10, 19, 20, 21, 22, 23, 24, 25, 26, 27, 28, 29, 30, 31, 32, 33, 34, 35, 36, 37, 38] (by decide +kernel) (by decide +kernel)) (goodIn_sub (fun _ h => List.mem_cons_of_mem _ (List.mem_append_right _ h)) (by decide +kernel))
set_option maxRecDepth 20000 in
theorem gX4_reserve_X4_requireSeller : GoodIn wsX4_reserve (wsV RX4 65 RX4 yX4_requireSeller wsX4_requireSeller) := goodIn_app (goodIn_of _ (by decide +kernel)) ggX4_reserve_X4_requireSeller
set_option maxRecDepth 20000 in
theorem ggX4_reserve_X2_heldFor : GoodIn wsX4_reserve wsX2_heldFor := goodIn_r _ [15, 16, 17, 18, 39, 40, 41, 42, 43, 44, 45, 46] (by decide +kernel) (by decide +kernel)
set_option maxRecDepth 20000 in
theorem gX4_reserve_X2_heldFor : GoodIn wsX4_reserve (wsV RX4 198 RX2 yX2_heldFor wsX2_heldFor) := goodIn_app (goodIn_of _ (by decide +kernel)) ggX4_reserve_X2_heldFor
theorem dX4_reserve_0 : decode cX4_reserve 0 = .ok (.aload_n 0, 1) := by decide +kernel
theorem dX4_reserve_1 : decode cX4_reserve 1 = .ok (.iload_n 1, 1) := by decide +kernel
theorem dX4_reserve_2 : decode cX4_reserve 2 = .ok (.invokevirtual 65, 3) := by decide +kernel
theorem dX4_reserve_5 : decode cX4_reserve 5 = .ok (.aload_n 0, 1) := by decide +kernel
theorem dX4_reserve_6 : decode cX4_reserve 6 = .ok (.getfield 19, 3) := by decide +kernel
theorem dX4_reserve_9 : decode cX4_reserve 9 = .ok (.iload_n 1, 1) := by decide +kernel
theorem dX4_reserve_10 : decode cX4_reserve 10 = .ok (.invokevirtual 198, 3) := by decide +kernel
theorem dX4_reserve_13 : decode cX4_reserve 13 = .ok (.ireturn, 1) := by decide +kernel
set_option maxRecDepth 20000 in
theorem ggX4_paidTo_X4_requireSeller : GoodIn wsX4_paidTo wsX4_requireSeller := goodIn_ca (goodIn_r _ [7, 8, 9, 1, 10, 11, 12, 13, 14, 15, 16, 17, 18, 19, 20, 21, 22, 23, 24, 25, 26, 27, 28, 29, 30] (by decide +kernel) (by decide +kernel)) (goodIn_sub (fun _ h => List.mem_cons_of_mem _ (List.mem_append_right _ h)) (by decide +kernel))
set_option maxRecDepth 20000 in
theorem gX4_paidTo_X4_requireSeller : GoodIn wsX4_paidTo (wsV RX4 65 RX4 yX4_requireSeller wsX4_requireSeller) := goodIn_app (goodIn_of _ (by decide +kernel)) ggX4_paidTo_X4_requireSeller
theorem dX4_paidTo_0 : decode cX4_paidTo 0 = .ok (.aload_n 0, 1) := by decide +kernel
theorem dX4_paidTo_1 : decode cX4_paidTo 1 = .ok (.iload_n 1, 1) := by decide +kernel
theorem dX4_paidTo_2 : decode cX4_paidTo 2 = .ok (.invokevirtual 65, 3) := by decide +kernel
theorem dX4_paidTo_5 : decode cX4_paidTo 5 = .ok (.aload_n 0, 1) := by decide +kernel
theorem dX4_paidTo_6 : decode cX4_paidTo 6 = .ok (.getfield 10, 3) := by decide +kernel
theorem dX4_paidTo_9 : decode cX4_paidTo 9 = .ok (.getfield 192, 3) := by decide +kernel
theorem dX4_paidTo_12 : decode cX4_paidTo 12 = .ok (.iload_n 1, 1) := by decide +kernel
theorem dX4_paidTo_13 : decode cX4_paidTo 13 = .ok (.iaload, 1) := by decide +kernel
theorem dX4_paidTo_14 : decode cX4_paidTo 14 = .ok (.ireturn, 1) := by decide +kernel
theorem dX4_received_0 : decode cX4_received 0 = .ok (.aload_n 0, 1) := by decide +kernel
theorem dX4_received_1 : decode cX4_received 1 = .ok (.getfield 201, 3) := by decide +kernel
theorem dX4_received_4 : decode cX4_received 4 = .ok (.ireturn, 1) := by decide +kernel
theorem dX4_refunded_0 : decode cX4_refunded 0 = .ok (.aload_n 0, 1) := by decide +kernel
theorem dX4_refunded_1 : decode cX4_refunded 1 = .ok (.getfield 155, 3) := by decide +kernel
theorem dX4_refunded_4 : decode cX4_refunded 4 = .ok (.ireturn, 1) := by decide +kernel
theorem dX4_fees_0 : decode cX4_fees 0 = .ok (.aload_n 0, 1) := by decide +kernel
theorem dX4_fees_1 : decode cX4_fees 1 = .ok (.getfield 161, 3) := by decide +kernel
theorem dX4_fees_4 : decode cX4_fees 4 = .ok (.ireturn, 1) := by decide +kernel
theorem dX4_taxes_0 : decode cX4_taxes 0 = .ok (.aload_n 0, 1) := by decide +kernel
theorem dX4_taxes_1 : decode cX4_taxes 1 = .ok (.getfield 158, 3) := by decide +kernel
theorem dX4_taxes_4 : decode cX4_taxes 4 = .ok (.ireturn, 1) := by decide +kernel
theorem dX4_requireSeller_0 : decode cX4_requireSeller 0 = .ok (.iload_n 1, 1) := by decide +kernel
theorem dX4_requireSeller_1 : decode cX4_requireSeller 1 = .ok (.ifCond .lt 14, 3) := by decide +kernel
theorem dX4_requireSeller_4 : decode cX4_requireSeller 4 = .ok (.iload_n 1, 1) := by decide +kernel
theorem dX4_requireSeller_5 : decode cX4_requireSeller 5 = .ok (.aload_n 0, 1) := by decide +kernel
theorem dX4_requireSeller_6 : decode cX4_requireSeller 6 = .ok (.getfield 10, 3) := by decide +kernel
theorem dX4_requireSeller_9 : decode cX4_requireSeller 9 = .ok (.getfield 52, 3) := by decide +kernel
theorem dX4_requireSeller_12 : decode cX4_requireSeller 12 = .ok (.if_icmp .lt 13, 3) := by decide +kernel
theorem dX4_requireSeller_15 : decode cX4_requireSeller 15 = .ok (.new 45, 3) := by decide +kernel
theorem dX4_requireSeller_18 : decode cX4_requireSeller 18 = .ok (.dup, 1) := by decide +kernel
theorem dX4_requireSeller_19 : decode cX4_requireSeller 19 = .ok (.ldc 204, 2) := by decide +kernel
theorem dX4_requireSeller_21 : decode cX4_requireSeller 21 = .ok (.invokespecial 49, 3) := by decide +kernel
theorem dX4_requireSeller_24 : decode cX4_requireSeller 24 = .ok (.athrow, 1) := by decide +kernel
theorem dX4_requireSeller_25 : decode cX4_requireSeller 25 = .ok (.return_, 1) := by decide +kernel
theorem dX4_requireKind_0 : decode cX4_requireKind 0 = .ok (.iload_n 0, 1) := by decide +kernel
theorem dX4_requireKind_1 : decode cX4_requireKind 1 = .ok (.ifCond .lt 8, 3) := by decide +kernel
theorem dX4_requireKind_4 : decode cX4_requireKind 4 = .ok (.iload_n 0, 1) := by decide +kernel
theorem dX4_requireKind_5 : decode cX4_requireKind 5 = .ok (.iconst 4, 1) := by decide +kernel
theorem dX4_requireKind_6 : decode cX4_requireKind 6 = .ok (.if_icmp .lt 13, 3) := by decide +kernel
theorem dX4_requireKind_9 : decode cX4_requireKind 9 = .ok (.new 45, 3) := by decide +kernel
theorem dX4_requireKind_12 : decode cX4_requireKind 12 = .ok (.dup, 1) := by decide +kernel
theorem dX4_requireKind_13 : decode cX4_requireKind 13 = .ok (.ldc 206, 2) := by decide +kernel
theorem dX4_requireKind_15 : decode cX4_requireKind 15 = .ok (.invokespecial 49, 3) := by decide +kernel
theorem dX4_requireKind_18 : decode cX4_requireKind 18 = .ok (.athrow, 1) := by decide +kernel
theorem dX4_requireKind_19 : decode cX4_requireKind 19 = .ok (.return_, 1) := by decide +kernel
theorem dX4_requirePayout_0 : decode cX4_requirePayout 0 = .ok (.iload_n 1, 1) := by decide +kernel
theorem dX4_requirePayout_1 : decode cX4_requirePayout 1 = .ok (.ifCond .lt 14, 3) := by decide +kernel
theorem dX4_requirePayout_4 : decode cX4_requirePayout 4 = .ok (.iload_n 1, 1) := by decide +kernel
theorem dX4_requirePayout_5 : decode cX4_requirePayout 5 = .ok (.aload_n 0, 1) := by decide +kernel
theorem dX4_requirePayout_6 : decode cX4_requirePayout 6 = .ok (.getfield 26, 3) := by decide +kernel
theorem dX4_requirePayout_9 : decode cX4_requirePayout 9 = .ok (.getfield 176, 3) := by decide +kernel
theorem dX4_requirePayout_12 : decode cX4_requirePayout 12 = .ok (.if_icmp .lt 13, 3) := by decide +kernel
theorem dX4_requirePayout_15 : decode cX4_requirePayout 15 = .ok (.new 45, 3) := by decide +kernel
theorem dX4_requirePayout_18 : decode cX4_requirePayout 18 = .ok (.dup, 1) := by decide +kernel
theorem dX4_requirePayout_19 : decode cX4_requirePayout 19 = .ok (.ldc 208, 2) := by decide +kernel
theorem dX4_requirePayout_21 : decode cX4_requirePayout 21 = .ok (.invokespecial 49, 3) := by decide +kernel
theorem dX4_requirePayout_24 : decode cX4_requirePayout 24 = .ok (.athrow, 1) := by decide +kernel
theorem dX4_requirePayout_25 : decode cX4_requirePayout 25 = .ok (.return_, 1) := by decide +kernel
theorem dX4_requireBetween_0 : decode cX4_requireBetween 0 = .ok (.iload_n 0, 1) := by decide +kernel
theorem dX4_requireBetween_1 : decode cX4_requireBetween 1 = .ok (.iload_n 1, 1) := by decide +kernel
theorem dX4_requireBetween_2 : decode cX4_requireBetween 2 = .ok (.if_icmp .lt 8, 3) := by decide +kernel
theorem dX4_requireBetween_5 : decode cX4_requireBetween 5 = .ok (.iload_n 0, 1) := by decide +kernel
theorem dX4_requireBetween_6 : decode cX4_requireBetween 6 = .ok (.iload_n 2, 1) := by decide +kernel
theorem dX4_requireBetween_7 : decode cX4_requireBetween 7 = .ok (.if_icmp .le 13, 3) := by decide +kernel
theorem dX4_requireBetween_10 : decode cX4_requireBetween 10 = .ok (.new 112, 3) := by decide +kernel
theorem dX4_requireBetween_13 : decode cX4_requireBetween 13 = .ok (.dup, 1) := by decide +kernel
theorem dX4_requireBetween_14 : decode cX4_requireBetween 14 = .ok (.ldc 210, 2) := by decide +kernel
theorem dX4_requireBetween_16 : decode cX4_requireBetween 16 = .ok (.invokespecial 116, 3) := by decide +kernel
theorem dX4_requireBetween_19 : decode cX4_requireBetween 19 = .ok (.athrow, 1) := by decide +kernel
theorem dX4_requireBetween_20 : decode cX4_requireBetween 20 = .ok (.return_, 1) := by decide +kernel
theorem dX4_requireRoomForSales_0 : decode cX4_requireRoomForSales 0 = .ok (.aload_n 0, 1) := by decide +kernel
theorem dX4_requireRoomForSales_1 : decode cX4_requireRoomForSales 1 = .ok (.getfield 19, 3) := by decide +kernel
theorem dX4_requireRoomForSales_4 : decode cX4_requireRoomForSales 4 = .ok (.getfield 129, 3) := by decide +kernel
theorem dX4_requireRoomForSales_7 : decode cX4_requireRoomForSales 7 = .ok (.iload_n 1, 1) := by decide +kernel
theorem dX4_requireRoomForSales_8 : decode cX4_requireRoomForSales 8 = .ok (.iadd, 1) := by decide +kernel
theorem dX4_requireRoomForSales_9 : decode cX4_requireRoomForSales 9 = .ok (.bipush 100, 2) := by decide +kernel
theorem dX4_requireRoomForSales_11 : decode cX4_requireRoomForSales 11 = .ok (.if_icmp .le 13, 3) := by decide +kernel
theorem dX4_requireRoomForSales_14 : decode cX4_requireRoomForSales 14 = .ok (.new 56, 3) := by decide +kernel
theorem dX4_requireRoomForSales_17 : decode cX4_requireRoomForSales 17 = .ok (.dup, 1) := by decide +kernel
theorem dX4_requireRoomForSales_18 : decode cX4_requireRoomForSales 18 = .ok (.ldc 212, 2) := by decide +kernel
theorem dX4_requireRoomForSales_20 : decode cX4_requireRoomForSales 20 = .ok (.invokespecial 60, 3) := by decide +kernel
theorem dX4_requireRoomForSales_23 : decode cX4_requireRoomForSales 23 = .ok (.athrow, 1) := by decide +kernel
theorem dX4_requireRoomForSales_24 : decode cX4_requireRoomForSales 24 = .ok (.return_, 1) := by decide +kernel
theorem dX4_shareOf_0 : decode cX4_shareOf 0 = .ok (.iload_n 0, 1) := by decide +kernel
theorem dX4_shareOf_1 : decode cX4_shareOf 1 = .ok (.i2f, 1) := by decide +kernel
theorem dX4_shareOf_2 : decode cX4_shareOf 2 = .ok (.ldc 214, 2) := by decide +kernel
theorem dX4_shareOf_4 : decode cX4_shareOf 4 = .ok (.fdiv, 1) := by decide +kernel
theorem dX4_shareOf_5 : decode cX4_shareOf 5 = .ok (.freturn, 1) := by decide +kernel
theorem dX4_feeOn_0 : decode cX4_feeOn 0 = .ok (.iload_n 0, 1) := by decide +kernel
theorem dX4_feeOn_1 : decode cX4_feeOn 1 = .ok (.i2f, 1) := by decide +kernel
theorem dX4_feeOn_2 : decode cX4_feeOn 2 = .ok (.fload_n 1, 1) := by decide +kernel
theorem dX4_feeOn_3 : decode cX4_feeOn 3 = .ok (.fmul, 1) := by decide +kernel
theorem dX4_feeOn_4 : decode cX4_feeOn 4 = .ok (.f2i, 1) := by decide +kernel
theorem dX4_feeOn_5 : decode cX4_feeOn 5 = .ok (.ireturn, 1) := by decide +kernel
theorem dX4_partOf_0 : decode cX4_partOf 0 = .ok (.iload_n 0, 1) := by decide +kernel
theorem dX4_partOf_1 : decode cX4_partOf 1 = .ok (.iload_n 1, 1) := by decide +kernel
theorem dX4_partOf_2 : decode cX4_partOf 2 = .ok (.imul, 1) := by decide +kernel
theorem dX4_partOf_3 : decode cX4_partOf 3 = .ok (.sipush 1000, 3) := by decide +kernel
theorem dX4_partOf_6 : decode cX4_partOf 6 = .ok (.idiv, 1) := by decide +kernel
theorem dX4_partOf_7 : decode cX4_partOf 7 = .ok (.ireturn, 1) := by decide +kernel
theorem dX4_bitsOf_0 : decode cX4_bitsOf 0 = .ok (.fload_n 0, 1) := by decide +kernel
theorem dX4_bitsOf_1 : decode cX4_bitsOf 1 = .ok (.fconst 0, 1) := by decide +kernel
theorem dX4_bitsOf_2 : decode cX4_bitsOf 2 = .ok (.fcmp .g, 1) := by decide +kernel
theorem dX4_bitsOf_3 : decode cX4_bitsOf 3 = .ok (.ifCond .gt 5, 3) := by decide +kernel
theorem dX4_bitsOf_6 : decode cX4_bitsOf 6 = .ok (.iconst 0, 1) := by decide +kernel
theorem dX4_bitsOf_7 : decode cX4_bitsOf 7 = .ok (.ireturn, 1) := by decide +kernel
theorem dX4_bitsOf_8 : decode cX4_bitsOf 8 = .ok (.fload_n 0, 1) := by decide +kernel
theorem dX4_bitsOf_9 : decode cX4_bitsOf 9 = .ok (.fstore_n 1, 1) := by decide +kernel
theorem dX4_bitsOf_10 : decode cX4_bitsOf 10 = .ok (.bipush 127, 2) := by decide +kernel
theorem dX4_bitsOf_12 : decode cX4_bitsOf 12 = .ok (.istore_n 2, 1) := by decide +kernel
theorem dX4_bitsOf_13 : decode cX4_bitsOf 13 = .ok (.fload_n 1, 1) := by decide +kernel
theorem dX4_bitsOf_14 : decode cX4_bitsOf 14 = .ok (.fconst 1, 1) := by decide +kernel
theorem dX4_bitsOf_15 : decode cX4_bitsOf 15 = .ok (.fcmp .g, 1) := by decide +kernel
theorem dX4_bitsOf_16 : decode cX4_bitsOf 16 = .ok (.ifCond .ge 18, 3) := by decide +kernel
theorem dX4_bitsOf_19 : decode cX4_bitsOf 19 = .ok (.iload_n 2, 1) := by decide +kernel
theorem dX4_bitsOf_20 : decode cX4_bitsOf 20 = .ok (.iconst 1, 1) := by decide +kernel
theorem dX4_bitsOf_21 : decode cX4_bitsOf 21 = .ok (.if_icmp .le 13, 3) := by decide +kernel
theorem dX4_bitsOf_24 : decode cX4_bitsOf 24 = .ok (.fload_n 1, 1) := by decide +kernel
theorem dX4_bitsOf_25 : decode cX4_bitsOf 25 = .ok (.fconst 2, 1) := by decide +kernel
theorem dX4_bitsOf_26 : decode cX4_bitsOf 26 = .ok (.fmul, 1) := by decide +kernel
theorem dX4_bitsOf_27 : decode cX4_bitsOf 27 = .ok (.fstore_n 1, 1) := by decide +kernel
theorem dX4_bitsOf_28 : decode cX4_bitsOf 28 = .ok (.iinc 2 (-1), 3) := by decide +kernel
theorem dX4_bitsOf_31 : decode cX4_bitsOf 31 = .ok (.goto (-18), 3) := by decide +kernel
theorem dX4_bitsOf_34 : decode cX4_bitsOf 34 = .ok (.fload_n 1, 1) := by decide +kernel
theorem dX4_bitsOf_35 : decode cX4_bitsOf 35 = .ok (.fconst 1, 1) := by decide +kernel
theorem dX4_bitsOf_36 : decode cX4_bitsOf 36 = .ok (.fsub, 1) := by decide +kernel
theorem dX4_bitsOf_37 : decode cX4_bitsOf 37 = .ok (.ldc 215, 2) := by decide +kernel
theorem dX4_bitsOf_39 : decode cX4_bitsOf 39 = .ok (.fmul, 1) := by decide +kernel
theorem dX4_bitsOf_40 : decode cX4_bitsOf 40 = .ok (.f2i, 1) := by decide +kernel
theorem dX4_bitsOf_41 : decode cX4_bitsOf 41 = .ok (.istore_n 3, 1) := by decide +kernel
theorem dX4_bitsOf_42 : decode cX4_bitsOf 42 = .ok (.iload_n 2, 1) := by decide +kernel
theorem dX4_bitsOf_43 : decode cX4_bitsOf 43 = .ok (.bipush 23, 2) := by decide +kernel
theorem dX4_bitsOf_45 : decode cX4_bitsOf 45 = .ok (.ishl, 1) := by decide +kernel
theorem dX4_bitsOf_46 : decode cX4_bitsOf 46 = .ok (.iload_n 3, 1) := by decide +kernel
theorem dX4_bitsOf_47 : decode cX4_bitsOf 47 = .ok (.iadd, 1) := by decide +kernel
theorem dX4_bitsOf_48 : decode cX4_bitsOf 48 = .ok (.ireturn, 1) := by decide +kernel
set_option maxRecDepth 20000 in
theorem ggX4_settleParts_X4_settle : GoodIn wsX4_settleParts wsX4_settle := goodIn_r _ [7, 8, 9, 10, 11, 12, 13, 1, 14, 15, 16, 17, 18, 19, 20, 21, 22, 23, 24, 25, 26, 27, 6, 28, 29, 30, 31, 32, 33, 34, 35, 36, 37, 38, 39, 40, 41, 42, 43, 44, 45, 46, 47, 48, 49, 50, 51, 52, 53, 54, 55, 56, 57, 58, 59, 60, 61, 62, 63, 64, 65, 66, 67, 68, 69, 70, 71, 72, 73, 74, 75, 76, 77, 78, 79, 80, 81, 82, 83, 84, 85, 86, 87, 88, 89, 90] (by decide +kernel) (by decide +kernel)
set_option maxRecDepth 20000 in
theorem gX4_settleParts_X4_settle : GoodIn wsX4_settleParts (wsV RX4 103 RX4 yX4_settle wsX4_settle) := goodIn_app (goodIn_of _ (by decide +kernel)) ggX4_settleParts_X4_settle
theorem dX4_settleParts_0 : decode cX4_settleParts 0 = .ok (.iload 4, 2) := by decide +kernel
theorem dX4_settleParts_2 : decode cX4_settleParts 2 = .ok (.istore 5, 2) := by decide +kernel
theorem dX4_settleParts_4 : decode cX4_settleParts 4 = .ok (.iconst 0, 1) := by decide +kernel
theorem dX4_settleParts_5 : decode cX4_settleParts 5 = .ok (.istore 6, 2) := by decide +kernel
theorem dX4_settleParts_7 : decode cX4_settleParts 7 = .ok (.iload 6, 2) := by decide +kernel
theorem dX4_settleParts_9 : decode cX4_settleParts 9 = .ok (.aload_n 0, 1) := by decide +kernel
theorem dX4_settleParts_10 : decode cX4_settleParts 10 = .ok (.getfield 10, 3) := by decide +kernel
theorem dX4_settleParts_13 : decode cX4_settleParts 13 = .ok (.getfield 52, 3) := by decide +kernel
theorem dX4_settleParts_16 : decode cX4_settleParts 16 = .ok (.if_icmp .ge 50, 3) := by decide +kernel
theorem dX4_settleParts_19 : decode cX4_settleParts 19 = .ok (.iload_n 1, 1) := by decide +kernel
theorem dX4_settleParts_20 : decode cX4_settleParts 20 = .ok (.iload 6, 2) := by decide +kernel
theorem dX4_settleParts_22 : decode cX4_settleParts 22 = .ok (.ishr, 1) := by decide +kernel
theorem dX4_settleParts_23 : decode cX4_settleParts 23 = .ok (.iconst 1, 1) := by decide +kernel
theorem dX4_settleParts_24 : decode cX4_settleParts 24 = .ok (.iand, 1) := by decide +kernel
theorem dX4_settleParts_25 : decode cX4_settleParts 25 = .ok (.ifCond .eq 35, 3) := by decide +kernel
theorem dX4_settleParts_28 : decode cX4_settleParts 28 = .ok (.iload 5, 2) := by decide +kernel
theorem dX4_settleParts_30 : decode cX4_settleParts 30 = .ok (.ifCond .le 9, 3) := by decide +kernel
theorem dX4_settleParts_33 : decode cX4_settleParts 33 = .ok (.iload_n 3, 1) := by decide +kernel
theorem dX4_settleParts_34 : decode cX4_settleParts 34 = .ok (.iconst 1, 1) := by decide +kernel
theorem dX4_settleParts_35 : decode cX4_settleParts 35 = .ok (.iadd, 1) := by decide +kernel
theorem dX4_settleParts_36 : decode cX4_settleParts 36 = .ok (.goto 4, 3) := by decide +kernel
theorem dX4_settleParts_39 : decode cX4_settleParts 39 = .ok (.iload_n 3, 1) := by decide +kernel
theorem dX4_settleParts_40 : decode cX4_settleParts 40 = .ok (.istore 7, 2) := by decide +kernel
theorem dX4_settleParts_42 : decode cX4_settleParts 42 = .ok (.iinc 5 (-1), 3) := by decide +kernel
theorem dX4_settleParts_45 : decode cX4_settleParts 45 = .ok (.iload 7, 2) := by decide +kernel
theorem dX4_settleParts_47 : decode cX4_settleParts 47 = .ok (.ifCond .le 13, 3) := by decide +kernel
theorem dX4_settleParts_50 : decode cX4_settleParts 50 = .ok (.aload_n 0, 1) := by decide +kernel
theorem dX4_settleParts_51 : decode cX4_settleParts 51 = .ok (.iload 6, 2) := by decide +kernel
theorem dX4_settleParts_53 : decode cX4_settleParts 53 = .ok (.iload_n 2, 1) := by decide +kernel
theorem dX4_settleParts_54 : decode cX4_settleParts 54 = .ok (.iload 7, 2) := by decide +kernel
theorem dX4_settleParts_56 : decode cX4_settleParts 56 = .ok (.invokevirtual 103, 3) := by decide +kernel
theorem dX4_settleParts_59 : decode cX4_settleParts 59 = .ok (.pop, 1) := by decide +kernel
theorem dX4_settleParts_60 : decode cX4_settleParts 60 = .ok (.iinc 6 1, 3) := by decide +kernel
theorem dX4_settleParts_63 : decode cX4_settleParts 63 = .ok (.goto (-56), 3) := by decide +kernel
theorem dX4_settleParts_66 : decode cX4_settleParts 66 = .ok (.return_, 1) := by decide +kernel
set_option maxRecDepth 20000 in
theorem ggX4_settle_X4_partOf : GoodIn wsX4_settle wsX4_partOf := goodIn_r _ [23] (by decide +kernel) (by decide +kernel)
set_option maxRecDepth 20000 in
theorem gX4_settle_X4_partOf : GoodIn wsX4_settle (va_wsS RX4 142 yX4_partOf wsX4_partOf) := goodIn_app (goodIn_of _ (by decide +kernel)) ggX4_settle_X4_partOf
set_option maxRecDepth 20000 in
theorem ggX4_settle_X4_feeOn : GoodIn wsX4_settle wsX4_feeOn := goodIn_r _ [26] (by decide +kernel) (by decide +kernel)
set_option maxRecDepth 20000 in
theorem gX4_settle_X4_feeOn : GoodIn wsX4_settle (va_wsS RX4 148 yX4_feeOn wsX4_feeOn) := goodIn_app (goodIn_of _ (by decide +kernel)) ggX4_settle_X4_feeOn
set_option maxRecDepth 20000 in
theorem ggX4_settle_X2_enter : GoodIn wsX4_settle wsX2_enter := goodIn_r _ [31, 32, 33, 34, 74, 75, 76, 77, 78, 79, 80, 81] (by decide +kernel) (by decide +kernel)
set_option maxRecDepth 20000 in
theorem gX4_settle_X2_enter : GoodIn wsX4_settle (wsV RX4 216 RX2 yX2_enter wsX2_enter) := goodIn_app (goodIn_of _ (by decide +kernel)) ggX4_settle_X2_enter
set_option maxRecDepth 20000 in
theorem ggX4_settle_X4_post : GoodIn wsX4_settle wsX4_post := goodIn_r _ [38, 7, 39, 40, 41, 42, 43, 44, 45, 46, 47, 48, 49, 50, 51, 52, 53, 54, 55, 56, 57, 58, 59, 60, 61, 62, 63, 64, 65, 66, 67, 68, 69, 70, 71, 72, 73, 82, 83, 84, 85] (by decide +kernel) (by decide +kernel)
set_option maxRecDepth 20000 in
theorem gX4_settle_X4_post : GoodIn wsX4_settle (wsV RX4 164 RX4 yX4_post wsX4_post) := goodIn_app (goodIn_of _ (by decide +kernel)) ggX4_settle_X4_post
theorem dX4_settle_0 : decode cX4_settle 0 = .ok (.aload_n 0, 1) := by decide +kernel
theorem dX4_settle_1 : decode cX4_settle 1 = .ok (.getfield 37, 3) := by decide +kernel
theorem dX4_settle_4 : decode cX4_settle 4 = .ok (.iload_n 2, 1) := by decide +kernel
theorem dX4_settle_5 : decode cX4_settle 5 = .ok (.faload, 1) := by decide +kernel
theorem dX4_settle_6 : decode cX4_settle 6 = .ok (.fstore 4, 2) := by decide +kernel
theorem dX4_settle_8 : decode cX4_settle 8 = .ok (.iload_n 3, 1) := by decide +kernel
theorem dX4_settle_9 : decode cX4_settle 9 = .ok (.aload_n 0, 1) := by decide +kernel
theorem dX4_settle_10 : decode cX4_settle 10 = .ok (.getfield 97, 3) := by decide +kernel
theorem dX4_settle_13 : decode cX4_settle 13 = .ok (.invokestatic 142, 3) := by decide +kernel
theorem dX4_settle_16 : decode cX4_settle 16 = .ok (.istore 5, 2) := by decide +kernel
theorem dX4_settle_18 : decode cX4_settle 18 = .ok (.iload_n 3, 1) := by decide +kernel
theorem dX4_settle_19 : decode cX4_settle 19 = .ok (.fload 4, 2) := by decide +kernel
theorem dX4_settle_21 : decode cX4_settle 21 = .ok (.invokestatic 148, 3) := by decide +kernel
theorem dX4_settle_24 : decode cX4_settle 24 = .ok (.iload_n 3, 1) := by decide +kernel
theorem dX4_settle_25 : decode cX4_settle 25 = .ok (.iload 5, 2) := by decide +kernel
theorem dX4_settle_27 : decode cX4_settle 27 = .ok (.isub, 1) := by decide +kernel
theorem dX4_settle_28 : decode cX4_settle 28 = .ok (.invokestatic 119, 3) := by decide +kernel
theorem dX4_settle_31 : decode cX4_settle 31 = .ok (.istore 6, 2) := by decide +kernel
theorem dX4_settle_33 : decode cX4_settle 33 = .ok (.iload_n 3, 1) := by decide +kernel
theorem dX4_settle_34 : decode cX4_settle 34 = .ok (.iload 5, 2) := by decide +kernel
theorem dX4_settle_36 : decode cX4_settle 36 = .ok (.isub, 1) := by decide +kernel
theorem dX4_settle_37 : decode cX4_settle 37 = .ok (.iload 6, 2) := by decide +kernel
theorem dX4_settle_39 : decode cX4_settle 39 = .ok (.isub, 1) := by decide +kernel
theorem dX4_settle_40 : decode cX4_settle 40 = .ok (.istore 7, 2) := by decide +kernel
theorem dX4_settle_42 : decode cX4_settle 42 = .ok (.iload 7, 2) := by decide +kernel
theorem dX4_settle_44 : decode cX4_settle 44 = .ok (.aload_n 0, 1) := by decide +kernel
theorem dX4_settle_45 : decode cX4_settle 45 = .ok (.getfield 10, 3) := by decide +kernel
theorem dX4_settle_48 : decode cX4_settle 48 = .ok (.getfield 84, 3) := by decide +kernel
theorem dX4_settle_51 : decode cX4_settle 51 = .ok (.iload_n 1, 1) := by decide +kernel
theorem dX4_settle_52 : decode cX4_settle 52 = .ok (.iaload, 1) := by decide +kernel
theorem dX4_settle_53 : decode cX4_settle 53 = .ok (.invokestatic 142, 3) := by decide +kernel
theorem dX4_settle_56 : decode cX4_settle 56 = .ok (.istore 8, 2) := by decide +kernel
theorem dX4_settle_58 : decode cX4_settle 58 = .ok (.aload_n 0, 1) := by decide +kernel
theorem dX4_settle_59 : decode cX4_settle 59 = .ok (.getfield 19, 3) := by decide +kernel
theorem dX4_settle_62 : decode cX4_settle 62 = .ok (.iload_n 1, 1) := by decide +kernel
theorem dX4_settle_63 : decode cX4_settle 63 = .ok (.iload_n 3, 1) := by decide +kernel
theorem dX4_settle_64 : decode cX4_settle 64 = .ok (.invokevirtual 216, 3) := by decide +kernel
theorem dX4_settle_67 : decode cX4_settle 67 = .ok (.istore 9, 2) := by decide +kernel
theorem dX4_settle_69 : decode cX4_settle 69 = .ok (.aload_n 0, 1) := by decide +kernel
theorem dX4_settle_70 : decode cX4_settle 70 = .ok (.getfield 19, 3) := by decide +kernel
theorem dX4_settle_73 : decode cX4_settle 73 = .ok (.getfield 145, 3) := by decide +kernel
theorem dX4_settle_76 : decode cX4_settle 76 = .ok (.iload 9, 2) := by decide +kernel
theorem dX4_settle_78 : decode cX4_settle 78 = .ok (.fload 4, 2) := by decide +kernel
theorem dX4_settle_80 : decode cX4_settle 80 = .ok (.fastore, 1) := by decide +kernel
theorem dX4_settle_81 : decode cX4_settle 81 = .ok (.aload_n 0, 1) := by decide +kernel
theorem dX4_settle_82 : decode cX4_settle 82 = .ok (.getfield 19, 3) := by decide +kernel
theorem dX4_settle_85 : decode cX4_settle 85 = .ok (.getfield 140, 3) := by decide +kernel
theorem dX4_settle_88 : decode cX4_settle 88 = .ok (.iload 9, 2) := by decide +kernel
theorem dX4_settle_90 : decode cX4_settle 90 = .ok (.aload_n 0, 1) := by decide +kernel
theorem dX4_settle_91 : decode cX4_settle 91 = .ok (.getfield 97, 3) := by decide +kernel
theorem dX4_settle_94 : decode cX4_settle 94 = .ok (.iastore, 1) := by decide +kernel
theorem dX4_settle_95 : decode cX4_settle 95 = .ok (.aload_n 0, 1) := by decide +kernel
theorem dX4_settle_96 : decode cX4_settle 96 = .ok (.getfield 19, 3) := by decide +kernel
theorem dX4_settle_99 : decode cX4_settle 99 = .ok (.getfield 152, 3) := by decide +kernel
theorem dX4_settle_102 : decode cX4_settle 102 = .ok (.iload 9, 2) := by decide +kernel
theorem dX4_settle_104 : decode cX4_settle 104 = .ok (.iload 6, 2) := by decide +kernel
theorem dX4_settle_106 : decode cX4_settle 106 = .ok (.iastore, 1) := by decide +kernel
theorem dX4_settle_107 : decode cX4_settle 107 = .ok (.aload_n 0, 1) := by decide +kernel
theorem dX4_settle_108 : decode cX4_settle 108 = .ok (.getfield 19, 3) := by decide +kernel
theorem dX4_settle_111 : decode cX4_settle 111 = .ok (.getfield 218, 3) := by decide +kernel
theorem dX4_settle_114 : decode cX4_settle 114 = .ok (.iload 9, 2) := by decide +kernel
theorem dX4_settle_116 : decode cX4_settle 116 = .ok (.iload 8, 2) := by decide +kernel
theorem dX4_settle_118 : decode cX4_settle 118 = .ok (.iastore, 1) := by decide +kernel
theorem dX4_settle_119 : decode cX4_settle 119 = .ok (.aload_n 0, 1) := by decide +kernel
theorem dX4_settle_120 : decode cX4_settle 120 = .ok (.getfield 19, 3) := by decide +kernel
theorem dX4_settle_123 : decode cX4_settle 123 = .ok (.getfield 221, 3) := by decide +kernel
theorem dX4_settle_126 : decode cX4_settle 126 = .ok (.iload 9, 2) := by decide +kernel
theorem dX4_settle_128 : decode cX4_settle 128 = .ok (.aload_n 0, 1) := by decide +kernel
theorem dX4_settle_129 : decode cX4_settle 129 = .ok (.getfield 171, 3) := by decide +kernel
theorem dX4_settle_132 : decode cX4_settle 132 = .ok (.aload_n 0, 1) := by decide +kernel
theorem dX4_settle_133 : decode cX4_settle 133 = .ok (.getfield 10, 3) := by decide +kernel
theorem dX4_settle_136 : decode cX4_settle 136 = .ok (.getfield 87, 3) := by decide +kernel
theorem dX4_settle_139 : decode cX4_settle 139 = .ok (.iload_n 1, 1) := by decide +kernel
theorem dX4_settle_140 : decode cX4_settle 140 = .ok (.iaload, 1) := by decide +kernel
theorem dX4_settle_141 : decode cX4_settle 141 = .ok (.iadd, 1) := by decide +kernel
theorem dX4_settle_142 : decode cX4_settle 142 = .ok (.iastore, 1) := by decide +kernel
theorem dX4_settle_143 : decode cX4_settle 143 = .ok (.aload_n 0, 1) := by decide +kernel
theorem dX4_settle_144 : decode cX4_settle 144 = .ok (.dup, 1) := by decide +kernel
theorem dX4_settle_145 : decode cX4_settle 145 = .ok (.getfield 201, 3) := by decide +kernel
theorem dX4_settle_148 : decode cX4_settle 148 = .ok (.iload_n 3, 1) := by decide +kernel
theorem dX4_settle_149 : decode cX4_settle 149 = .ok (.iadd, 1) := by decide +kernel
theorem dX4_settle_150 : decode cX4_settle 150 = .ok (.putfield 201, 3) := by decide +kernel
theorem dX4_settle_153 : decode cX4_settle 153 = .ok (.aload_n 0, 1) := by decide +kernel
theorem dX4_settle_154 : decode cX4_settle 154 = .ok (.dup, 1) := by decide +kernel
theorem dX4_settle_155 : decode cX4_settle 155 = .ok (.getfield 158, 3) := by decide +kernel
theorem dX4_settle_158 : decode cX4_settle 158 = .ok (.iload 5, 2) := by decide +kernel
theorem dX4_settle_160 : decode cX4_settle 160 = .ok (.iadd, 1) := by decide +kernel
theorem dX4_settle_161 : decode cX4_settle 161 = .ok (.putfield 158, 3) := by decide +kernel
theorem dX4_settle_164 : decode cX4_settle 164 = .ok (.aload_n 0, 1) := by decide +kernel
theorem dX4_settle_165 : decode cX4_settle 165 = .ok (.dup, 1) := by decide +kernel
theorem dX4_settle_166 : decode cX4_settle 166 = .ok (.getfield 161, 3) := by decide +kernel
theorem dX4_settle_169 : decode cX4_settle 169 = .ok (.iload 6, 2) := by decide +kernel
theorem dX4_settle_171 : decode cX4_settle 171 = .ok (.iadd, 1) := by decide +kernel
theorem dX4_settle_172 : decode cX4_settle 172 = .ok (.putfield 161, 3) := by decide +kernel
theorem dX4_settle_175 : decode cX4_settle 175 = .ok (.aload_n 0, 1) := by decide +kernel
theorem dX4_settle_176 : decode cX4_settle 176 = .ok (.iload_n 1, 1) := by decide +kernel
theorem dX4_settle_177 : decode cX4_settle 177 = .ok (.iload 7, 2) := by decide +kernel
theorem dX4_settle_179 : decode cX4_settle 179 = .ok (.iload 8, 2) := by decide +kernel
theorem dX4_settle_181 : decode cX4_settle 181 = .ok (.isub, 1) := by decide +kernel
theorem dX4_settle_182 : decode cX4_settle 182 = .ok (.invokevirtual 164, 3) := by decide +kernel
theorem dX4_settle_185 : decode cX4_settle 185 = .ok (.iload 9, 2) := by decide +kernel
theorem dX4_settle_187 : decode cX4_settle 187 = .ok (.ireturn, 1) := by decide +kernel
set_option maxRecDepth 20000 in
theorem ggX4_post_X0_enter : GoodIn wsX4_post wsX0_enter := goodIn_r _ [8, 9, 10, 11, 12, 13, 14, 7, 15, 16, 37, 38, 39, 40] (by decide +kernel) (by decide +kernel)
set_option maxRecDepth 20000 in
theorem gX4_post_X0_enter : GoodIn wsX4_post (wsV RX4 224 RX0 yX0_enter wsX0_enter) := goodIn_app (goodIn_of _ (by decide +kernel)) ggX4_post_X0_enter
theorem dX4_post_0 : decode cX4_post 0 = .ok (.aload_n 0, 1) := by decide +kernel
theorem dX4_post_1 : decode cX4_post 1 = .ok (.getfield 10, 3) := by decide +kernel
theorem dX4_post_4 : decode cX4_post 4 = .ok (.getfield 168, 3) := by decide +kernel
theorem dX4_post_7 : decode cX4_post 7 = .ok (.iload_n 1, 1) := by decide +kernel
theorem dX4_post_8 : decode cX4_post 8 = .ok (.dup2, 1) := by decide +kernel
theorem dX4_post_9 : decode cX4_post 9 = .ok (.iaload, 1) := by decide +kernel
theorem dX4_post_10 : decode cX4_post 10 = .ok (.iload_n 2, 1) := by decide +kernel
theorem dX4_post_11 : decode cX4_post 11 = .ok (.iadd, 1) := by decide +kernel
theorem dX4_post_12 : decode cX4_post 12 = .ok (.iastore, 1) := by decide +kernel
theorem dX4_post_13 : decode cX4_post 13 = .ok (.aload_n 0, 1) := by decide +kernel
theorem dX4_post_14 : decode cX4_post 14 = .ok (.getfield 33, 3) := by decide +kernel
theorem dX4_post_17 : decode cX4_post 17 = .ok (.iload_n 1, 1) := by decide +kernel
theorem dX4_post_18 : decode cX4_post 18 = .ok (.iload_n 2, 1) := by decide +kernel
theorem dX4_post_19 : decode cX4_post 19 = .ok (.invokevirtual 224, 3) := by decide +kernel
theorem dX4_post_22 : decode cX4_post 22 = .ok (.return_, 1) := by decide +kernel
set_option maxRecDepth 20000 in
theorem ggX4_endDay_X4_releaseReserves : GoodIn wsX4_endDay wsX4_releaseReserves := goodIn_r _ [9, 10, 11, 12, 4, 13, 14, 15, 16, 8, 17, 18, 19, 20, 21, 22, 1, 23, 24, 25, 26, 27, 28, 29, 30, 31, 32, 33, 34, 35, 36, 37, 93, 94, 95, 96, 97, 98, 99, 100, 101, 102, 103, 113, 114, 115, 116, 117, 118, 119, 120, 104, 105, 106, 107, 108, 109, 110, 111, 112, 121, 122, 123, 124] (by decide +kernel) (by decide +kernel)
set_option maxRecDepth 20000 in
theorem gX4_endDay_X4_releaseReserves : GoodIn wsX4_endDay (wsV RX4 226 RX4 yX4_releaseReserves wsX4_releaseReserves) := goodIn_app (goodIn_of _ (by decide +kernel)) ggX4_endDay_X4_releaseReserves
set_option maxRecDepth 20000 in
theorem ggX4_endDay_X4_coverFromReserves : GoodIn wsX4_endDay wsX4_coverFromReserves := goodIn_r _ [41, 10, 11, 1, 23, 18, 13, 42, 43, 44, 45, 14, 15, 16, 8, 17, 19, 20, 21, 22, 24, 25, 26, 27, 28, 29, 30, 31, 32, 33, 34, 35, 36, 37, 93, 94, 95, 96, 97, 98, 99, 100, 101, 102, 103, 113, 114, 115, 116, 117, 118, 119, 120, 104, 105, 106, 107, 108, 109, 110, 111, 112, 121, 122, 123, 124] (by decide +kernel) (by decide +kernel)
set_option maxRecDepth 20000 in
theorem gX4_endDay_X4_coverFromReserves : GoodIn wsX4_endDay (wsV RX4 229 RX4 yX4_coverFromReserves wsX4_coverFromReserves) := goodIn_app (goodIn_of _ (by decide +kernel)) ggX4_endDay_X4_coverFromReserves
set_option maxRecDepth 20000 in
theorem ggX4_endDay_X4_coverFromOwner : GoodIn wsX4_endDay wsX4_coverFromOwner := goodIn_r _ [49, 1, 2, 23, 50, 42, 43, 44, 45, 19, 20, 21, 8, 22, 24, 25, 26, 27, 28, 29, 30, 31, 32, 33, 34, 35, 36, 37, 93, 94, 95, 96, 97, 98, 99, 100, 101, 102, 103, 104, 105, 106, 107, 108, 109, 110, 111, 112, 121, 122, 123, 124] (by decide +kernel) (by decide +kernel)
set_option maxRecDepth 20000 in
theorem gX4_endDay_X4_coverFromOwner : GoodIn wsX4_endDay (wsV RX4 232 RX4 yX4_coverFromOwner wsX4_coverFromOwner) := goodIn_app (goodIn_of _ (by decide +kernel)) ggX4_endDay_X4_coverFromOwner
set_option maxRecDepth 20000 in
theorem ggX4_endDay_X4_payIfDue : GoodIn wsX4_endDay wsX4_payIfDue := goodIn_r _ [54, 55, 1, 56, 57, 58, 59, 8, 60, 23, 61, 62, 63, 42, 43, 44, 45, 64, 65, 66, 67, 68, 69, 70, 71, 72, 73, 74, 75, 76, 77, 78, 79, 80, 81, 82, 83, 84, 85, 86, 87, 88, 89, 90, 91, 92, 19, 20, 21, 22, 24, 25, 26, 27, 28, 29, 30, 31, 32, 33, 34, 35, 36, 37, 93, 94, 95, 96, 97, 98, 99, 100, 101, 102, 103, 104, 105, 106, 107, 108, 109, 110, 111, 112, 125, 126, 127, 128, 121, 122, 123, 124] (by decide +kernel) (by decide +kernel)
set_option maxRecDepth 20000 in
theorem gX4_endDay_X4_payIfDue : GoodIn wsX4_endDay (wsV RX4 235 RX4 yX4_payIfDue wsX4_payIfDue) := goodIn_app (goodIn_of _ (by decide +kernel)) ggX4_endDay_X4_payIfDue
theorem dX4_endDay_0 : decode cX4_endDay 0 = .ok (.aload_n 0, 1) := by decide +kernel
theorem dX4_endDay_1 : decode cX4_endDay 1 = .ok (.invokevirtual 226, 3) := by decide +kernel
theorem dX4_endDay_4 : decode cX4_endDay 4 = .ok (.iconst 0, 1) := by decide +kernel
theorem dX4_endDay_5 : decode cX4_endDay 5 = .ok (.istore_n 1, 1) := by decide +kernel
theorem dX4_endDay_6 : decode cX4_endDay 6 = .ok (.iload_n 1, 1) := by decide +kernel
theorem dX4_endDay_7 : decode cX4_endDay 7 = .ok (.aload_n 0, 1) := by decide +kernel
theorem dX4_endDay_8 : decode cX4_endDay 8 = .ok (.getfield 10, 3) := by decide +kernel
theorem dX4_endDay_11 : decode cX4_endDay 11 = .ok (.getfield 52, 3) := by decide +kernel
theorem dX4_endDay_14 : decode cX4_endDay 14 = .ok (.if_icmp .ge 14, 3) := by decide +kernel
theorem dX4_endDay_17 : decode cX4_endDay 17 = .ok (.aload_n 0, 1) := by decide +kernel
theorem dX4_endDay_18 : decode cX4_endDay 18 = .ok (.iload_n 1, 1) := by decide +kernel
theorem dX4_endDay_19 : decode cX4_endDay 19 = .ok (.invokevirtual 229, 3) := by decide +kernel
theorem dX4_endDay_22 : decode cX4_endDay 22 = .ok (.iinc 1 1, 3) := by decide +kernel
theorem dX4_endDay_25 : decode cX4_endDay 25 = .ok (.goto (-19), 3) := by decide +kernel
theorem dX4_endDay_28 : decode cX4_endDay 28 = .ok (.iconst 0, 1) := by decide +kernel
theorem dX4_endDay_29 : decode cX4_endDay 29 = .ok (.istore_n 1, 1) := by decide +kernel
theorem dX4_endDay_30 : decode cX4_endDay 30 = .ok (.iload_n 1, 1) := by decide +kernel
theorem dX4_endDay_31 : decode cX4_endDay 31 = .ok (.aload_n 0, 1) := by decide +kernel
theorem dX4_endDay_32 : decode cX4_endDay 32 = .ok (.getfield 10, 3) := by decide +kernel
theorem dX4_endDay_35 : decode cX4_endDay 35 = .ok (.getfield 52, 3) := by decide +kernel
theorem dX4_endDay_38 : decode cX4_endDay 38 = .ok (.if_icmp .ge 14, 3) := by decide +kernel
theorem dX4_endDay_41 : decode cX4_endDay 41 = .ok (.aload_n 0, 1) := by decide +kernel
theorem dX4_endDay_42 : decode cX4_endDay 42 = .ok (.iload_n 1, 1) := by decide +kernel
theorem dX4_endDay_43 : decode cX4_endDay 43 = .ok (.invokevirtual 232, 3) := by decide +kernel
theorem dX4_endDay_46 : decode cX4_endDay 46 = .ok (.iinc 1 1, 3) := by decide +kernel
theorem dX4_endDay_49 : decode cX4_endDay 49 = .ok (.goto (-19), 3) := by decide +kernel
theorem dX4_endDay_52 : decode cX4_endDay 52 = .ok (.iconst 0, 1) := by decide +kernel
theorem dX4_endDay_53 : decode cX4_endDay 53 = .ok (.istore_n 1, 1) := by decide +kernel
theorem dX4_endDay_54 : decode cX4_endDay 54 = .ok (.iload_n 1, 1) := by decide +kernel
theorem dX4_endDay_55 : decode cX4_endDay 55 = .ok (.aload_n 0, 1) := by decide +kernel
theorem dX4_endDay_56 : decode cX4_endDay 56 = .ok (.getfield 10, 3) := by decide +kernel
theorem dX4_endDay_59 : decode cX4_endDay 59 = .ok (.getfield 52, 3) := by decide +kernel
theorem dX4_endDay_62 : decode cX4_endDay 62 = .ok (.if_icmp .ge 33, 3) := by decide +kernel
theorem dX4_endDay_65 : decode cX4_endDay 65 = .ok (.aload_n 0, 1) := by decide +kernel
theorem dX4_endDay_66 : decode cX4_endDay 66 = .ok (.getfield 10, 3) := by decide +kernel
theorem dX4_endDay_69 : decode cX4_endDay 69 = .ok (.getfield 78, 3) := by decide +kernel
theorem dX4_endDay_72 : decode cX4_endDay 72 = .ok (.iload_n 1, 1) := by decide +kernel
theorem dX4_endDay_73 : decode cX4_endDay 73 = .ok (.iaload, 1) := by decide +kernel
theorem dX4_endDay_74 : decode cX4_endDay 74 = .ok (.aload_n 0, 1) := by decide +kernel
theorem dX4_endDay_75 : decode cX4_endDay 75 = .ok (.getfield 171, 3) := by decide +kernel
theorem dX4_endDay_78 : decode cX4_endDay 78 = .ok (.bipush 7, 2) := by decide +kernel
theorem dX4_endDay_80 : decode cX4_endDay 80 = .ok (.irem, 1) := by decide +kernel
theorem dX4_endDay_81 : decode cX4_endDay 81 = .ok (.if_icmp .ne 8, 3) := by decide +kernel
theorem dX4_endDay_84 : decode cX4_endDay 84 = .ok (.aload_n 0, 1) := by decide +kernel
theorem dX4_endDay_85 : decode cX4_endDay 85 = .ok (.iload_n 1, 1) := by decide +kernel
theorem dX4_endDay_86 : decode cX4_endDay 86 = .ok (.invokevirtual 235, 3) := by decide +kernel
theorem dX4_endDay_89 : decode cX4_endDay 89 = .ok (.iinc 1 1, 3) := by decide +kernel
theorem dX4_endDay_92 : decode cX4_endDay 92 = .ok (.goto (-38), 3) := by decide +kernel
theorem dX4_endDay_95 : decode cX4_endDay 95 = .ok (.aload_n 0, 1) := by decide +kernel
theorem dX4_endDay_96 : decode cX4_endDay 96 = .ok (.dup, 1) := by decide +kernel
theorem dX4_endDay_97 : decode cX4_endDay 97 = .ok (.getfield 171, 3) := by decide +kernel
theorem dX4_endDay_100 : decode cX4_endDay 100 = .ok (.iconst 1, 1) := by decide +kernel
theorem dX4_endDay_101 : decode cX4_endDay 101 = .ok (.iadd, 1) := by decide +kernel
theorem dX4_endDay_102 : decode cX4_endDay 102 = .ok (.putfield 171, 3) := by decide +kernel
theorem dX4_endDay_105 : decode cX4_endDay 105 = .ok (.return_, 1) := by decide +kernel
set_option maxRecDepth 20000 in
theorem ggX4_releaseReserves_X4_release : GoodIn wsX4_releaseReserves wsX4_release := goodIn_r _ [10, 1, 5, 11, 12, 13, 14, 9, 15, 16, 17, 18, 19, 20, 21, 22, 23, 24, 25, 26, 27, 28, 29, 30, 31, 32, 33, 34, 35, 36, 37, 38, 39, 40, 41, 42, 43, 44, 45, 46, 47, 48, 49, 50, 51, 52, 53, 54, 55, 56, 57, 58, 59, 60, 61, 62, 63] (by decide +kernel) (by decide +kernel)
set_option maxRecDepth 20000 in
theorem gX4_releaseReserves_X4_release : GoodIn wsX4_releaseReserves (wsV RX4 238 RX4 yX4_release wsX4_release) := goodIn_app (goodIn_of _ (by decide +kernel)) ggX4_releaseReserves_X4_release
theorem dX4_releaseReserves_0 : decode cX4_releaseReserves 0 = .ok (.iconst 0, 1) := by decide +kernel
theorem dX4_releaseReserves_1 : decode cX4_releaseReserves 1 = .ok (.istore_n 1, 1) := by decide +kernel
theorem dX4_releaseReserves_2 : decode cX4_releaseReserves 2 = .ok (.iload_n 1, 1) := by decide +kernel
theorem dX4_releaseReserves_3 : decode cX4_releaseReserves 3 = .ok (.aload_n 0, 1) := by decide +kernel
theorem dX4_releaseReserves_4 : decode cX4_releaseReserves 4 = .ok (.getfield 19, 3) := by decide +kernel
theorem dX4_releaseReserves_7 : decode cX4_releaseReserves 7 = .ok (.getfield 129, 3) := by decide +kernel
theorem dX4_releaseReserves_10 : decode cX4_releaseReserves 10 = .ok (.if_icmp .ge 39, 3) := by decide +kernel
theorem dX4_releaseReserves_13 : decode cX4_releaseReserves 13 = .ok (.aload_n 0, 1) := by decide +kernel
theorem dX4_releaseReserves_14 : decode cX4_releaseReserves 14 = .ok (.getfield 19, 3) := by decide +kernel
theorem dX4_releaseReserves_17 : decode cX4_releaseReserves 17 = .ok (.getfield 221, 3) := by decide +kernel
theorem dX4_releaseReserves_20 : decode cX4_releaseReserves 20 = .ok (.iload_n 1, 1) := by decide +kernel
theorem dX4_releaseReserves_21 : decode cX4_releaseReserves 21 = .ok (.iaload, 1) := by decide +kernel
theorem dX4_releaseReserves_22 : decode cX4_releaseReserves 22 = .ok (.aload_n 0, 1) := by decide +kernel
theorem dX4_releaseReserves_23 : decode cX4_releaseReserves 23 = .ok (.getfield 171, 3) := by decide +kernel
theorem dX4_releaseReserves_26 : decode cX4_releaseReserves 26 = .ok (.if_icmp .ne 17, 3) := by decide +kernel
theorem dX4_releaseReserves_29 : decode cX4_releaseReserves 29 = .ok (.aload_n 0, 1) := by decide +kernel
theorem dX4_releaseReserves_30 : decode cX4_releaseReserves 30 = .ok (.iload_n 1, 1) := by decide +kernel
theorem dX4_releaseReserves_31 : decode cX4_releaseReserves 31 = .ok (.aload_n 0, 1) := by decide +kernel
theorem dX4_releaseReserves_32 : decode cX4_releaseReserves 32 = .ok (.getfield 19, 3) := by decide +kernel
theorem dX4_releaseReserves_35 : decode cX4_releaseReserves 35 = .ok (.getfield 218, 3) := by decide +kernel
theorem dX4_releaseReserves_38 : decode cX4_releaseReserves 38 = .ok (.iload_n 1, 1) := by decide +kernel
theorem dX4_releaseReserves_39 : decode cX4_releaseReserves 39 = .ok (.iaload, 1) := by decide +kernel
theorem dX4_releaseReserves_40 : decode cX4_releaseReserves 40 = .ok (.invokevirtual 238, 3) := by decide +kernel
theorem dX4_releaseReserves_43 : decode cX4_releaseReserves 43 = .ok (.iinc 1 1, 3) := by decide +kernel
theorem dX4_releaseReserves_46 : decode cX4_releaseReserves 46 = .ok (.goto (-44), 3) := by decide +kernel
theorem dX4_releaseReserves_49 : decode cX4_releaseReserves 49 = .ok (.return_, 1) := by decide +kernel
set_option maxRecDepth 20000 in
theorem ggX4_coverFromReserves_X4_release : GoodIn wsX4_coverFromReserves wsX4_release := goodIn_r _ [15, 1, 6, 5, 16, 17, 18, 14, 19, 3, 4, 20, 21, 22, 23, 24, 25, 26, 27, 28, 29, 30, 31, 32, 33, 34, 35, 36, 37, 38, 39, 40, 41, 42, 43, 44, 45, 46, 47, 48, 49, 50, 51, 52, 53, 54, 55, 56, 57, 58, 59, 60, 61, 62, 63, 64, 65] (by decide +kernel) (by decide +kernel)
set_option maxRecDepth 20000 in
theorem gX4_coverFromReserves_X4_release : GoodIn wsX4_coverFromReserves (wsV RX4 238 RX4 yX4_release wsX4_release) := goodIn_app (goodIn_of _ (by decide +kernel)) ggX4_coverFromReserves_X4_release
theorem dX4_coverFromReserves_0 : decode cX4_coverFromReserves 0 = .ok (.iconst 0, 1) := by decide +kernel
theorem dX4_coverFromReserves_1 : decode cX4_coverFromReserves 1 = .ok (.istore_n 2, 1) := by decide +kernel
theorem dX4_coverFromReserves_2 : decode cX4_coverFromReserves 2 = .ok (.iload_n 2, 1) := by decide +kernel
theorem dX4_coverFromReserves_3 : decode cX4_coverFromReserves 3 = .ok (.aload_n 0, 1) := by decide +kernel
theorem dX4_coverFromReserves_4 : decode cX4_coverFromReserves 4 = .ok (.getfield 19, 3) := by decide +kernel
theorem dX4_coverFromReserves_7 : decode cX4_coverFromReserves 7 = .ok (.getfield 129, 3) := by decide +kernel
theorem dX4_coverFromReserves_10 : decode cX4_coverFromReserves 10 = .ok (.if_icmp .ge 61, 3) := by decide +kernel
theorem dX4_coverFromReserves_13 : decode cX4_coverFromReserves 13 = .ok (.aload_n 0, 1) := by decide +kernel
theorem dX4_coverFromReserves_14 : decode cX4_coverFromReserves 14 = .ok (.getfield 10, 3) := by decide +kernel
theorem dX4_coverFromReserves_17 : decode cX4_coverFromReserves 17 = .ok (.getfield 168, 3) := by decide +kernel
theorem dX4_coverFromReserves_20 : decode cX4_coverFromReserves 20 = .ok (.iload_n 1, 1) := by decide +kernel
theorem dX4_coverFromReserves_21 : decode cX4_coverFromReserves 21 = .ok (.iaload, 1) := by decide +kernel
theorem dX4_coverFromReserves_22 : decode cX4_coverFromReserves 22 = .ok (.ifCond .ge 49, 3) := by decide +kernel
theorem dX4_coverFromReserves_25 : decode cX4_coverFromReserves 25 = .ok (.aload_n 0, 1) := by decide +kernel
theorem dX4_coverFromReserves_26 : decode cX4_coverFromReserves 26 = .ok (.getfield 19, 3) := by decide +kernel
theorem dX4_coverFromReserves_29 : decode cX4_coverFromReserves 29 = .ok (.getfield 137, 3) := by decide +kernel
theorem dX4_coverFromReserves_32 : decode cX4_coverFromReserves 32 = .ok (.iload_n 2, 1) := by decide +kernel
theorem dX4_coverFromReserves_33 : decode cX4_coverFromReserves 33 = .ok (.iaload, 1) := by decide +kernel
theorem dX4_coverFromReserves_34 : decode cX4_coverFromReserves 34 = .ok (.iload_n 1, 1) := by decide +kernel
theorem dX4_coverFromReserves_35 : decode cX4_coverFromReserves 35 = .ok (.if_icmp .ne 30, 3) := by decide +kernel
theorem dX4_coverFromReserves_38 : decode cX4_coverFromReserves 38 = .ok (.aload_n 0, 1) := by decide +kernel
theorem dX4_coverFromReserves_39 : decode cX4_coverFromReserves 39 = .ok (.iload_n 2, 1) := by decide +kernel
theorem dX4_coverFromReserves_40 : decode cX4_coverFromReserves 40 = .ok (.aload_n 0, 1) := by decide +kernel
theorem dX4_coverFromReserves_41 : decode cX4_coverFromReserves 41 = .ok (.getfield 19, 3) := by decide +kernel
theorem dX4_coverFromReserves_44 : decode cX4_coverFromReserves 44 = .ok (.getfield 218, 3) := by decide +kernel
theorem dX4_coverFromReserves_47 : decode cX4_coverFromReserves 47 = .ok (.iload_n 2, 1) := by decide +kernel
theorem dX4_coverFromReserves_48 : decode cX4_coverFromReserves 48 = .ok (.iaload, 1) := by decide +kernel
theorem dX4_coverFromReserves_49 : decode cX4_coverFromReserves 49 = .ok (.aload_n 0, 1) := by decide +kernel
theorem dX4_coverFromReserves_50 : decode cX4_coverFromReserves 50 = .ok (.getfield 10, 3) := by decide +kernel
theorem dX4_coverFromReserves_53 : decode cX4_coverFromReserves 53 = .ok (.getfield 168, 3) := by decide +kernel
theorem dX4_coverFromReserves_56 : decode cX4_coverFromReserves 56 = .ok (.iload_n 1, 1) := by decide +kernel
theorem dX4_coverFromReserves_57 : decode cX4_coverFromReserves 57 = .ok (.iaload, 1) := by decide +kernel
theorem dX4_coverFromReserves_58 : decode cX4_coverFromReserves 58 = .ok (.ineg, 1) := by decide +kernel
theorem dX4_coverFromReserves_59 : decode cX4_coverFromReserves 59 = .ok (.invokestatic 119, 3) := by decide +kernel
theorem dX4_coverFromReserves_62 : decode cX4_coverFromReserves 62 = .ok (.invokevirtual 238, 3) := by decide +kernel
theorem dX4_coverFromReserves_65 : decode cX4_coverFromReserves 65 = .ok (.iinc 2 1, 3) := by decide +kernel
theorem dX4_coverFromReserves_68 : decode cX4_coverFromReserves 68 = .ok (.goto (-66), 3) := by decide +kernel
theorem dX4_coverFromReserves_71 : decode cX4_coverFromReserves 71 = .ok (.return_, 1) := by decide +kernel
set_option maxRecDepth 20000 in
theorem ggX4_release_X4_post : GoodIn wsX4_release wsX4_post := goodIn_r _ [8, 9, 10, 11, 12, 13, 14, 15, 16, 17, 18, 19, 20, 21, 22, 23, 24, 25, 26, 27, 28, 29, 30, 31, 32, 33, 34, 35, 44, 45, 46, 47, 48, 49, 50, 51, 52, 53, 54, 55, 56] (by decide +kernel) (by decide +kernel)
set_option maxRecDepth 20000 in
theorem gX4_release_X4_post : GoodIn wsX4_release (wsV RX4 164 RX4 yX4_post wsX4_post) := goodIn_app (goodIn_of _ (by decide +kernel)) ggX4_release_X4_post
theorem dX4_release_0 : decode cX4_release 0 = .ok (.aload_n 0, 1) := by decide +kernel
theorem dX4_release_1 : decode cX4_release 1 = .ok (.getfield 19, 3) := by decide +kernel
theorem dX4_release_4 : decode cX4_release 4 = .ok (.getfield 218, 3) := by decide +kernel
theorem dX4_release_7 : decode cX4_release 7 = .ok (.iload_n 1, 1) := by decide +kernel
theorem dX4_release_8 : decode cX4_release 8 = .ok (.dup2, 1) := by decide +kernel
theorem dX4_release_9 : decode cX4_release 9 = .ok (.iaload, 1) := by decide +kernel
theorem dX4_release_10 : decode cX4_release 10 = .ok (.iload_n 2, 1) := by decide +kernel
theorem dX4_release_11 : decode cX4_release 11 = .ok (.isub, 1) := by decide +kernel
theorem dX4_release_12 : decode cX4_release 12 = .ok (.iastore, 1) := by decide +kernel
theorem dX4_release_13 : decode cX4_release 13 = .ok (.aload_n 0, 1) := by decide +kernel
theorem dX4_release_14 : decode cX4_release 14 = .ok (.aload_n 0, 1) := by decide +kernel
theorem dX4_release_15 : decode cX4_release 15 = .ok (.getfield 19, 3) := by decide +kernel
theorem dX4_release_18 : decode cX4_release 18 = .ok (.getfield 137, 3) := by decide +kernel
theorem dX4_release_21 : decode cX4_release 21 = .ok (.iload_n 1, 1) := by decide +kernel
theorem dX4_release_22 : decode cX4_release 22 = .ok (.iaload, 1) := by decide +kernel
theorem dX4_release_23 : decode cX4_release 23 = .ok (.iload_n 2, 1) := by decide +kernel
theorem dX4_release_24 : decode cX4_release 24 = .ok (.invokevirtual 164, 3) := by decide +kernel
theorem dX4_release_27 : decode cX4_release 27 = .ok (.return_, 1) := by decide +kernel
set_option maxRecDepth 20000 in
theorem ggX4_coverFromOwner_X4_post : GoodIn wsX4_coverFromOwner wsX4_post := goodIn_r _ [13, 1, 3, 14, 15, 16, 17, 18, 19, 20, 21, 22, 23, 24, 25, 26, 27, 28, 29, 30, 31, 32, 33, 34, 35, 36, 37, 38, 39, 40, 41, 42, 43, 44, 45, 46, 47, 48, 49, 50, 51] (by decide +kernel) (by decide +kernel)
set_option maxRecDepth 20000 in
theorem gX4_coverFromOwner_X4_post : GoodIn wsX4_coverFromOwner (wsV RX4 164 RX4 yX4_post wsX4_post) := goodIn_app (goodIn_of _ (by decide +kernel)) ggX4_coverFromOwner_X4_post
theorem dX4_coverFromOwner_0 : decode cX4_coverFromOwner 0 = .ok (.iconst 0, 1) := by decide +kernel
theorem dX4_coverFromOwner_1 : decode cX4_coverFromOwner 1 = .ok (.istore_n 2, 1) := by decide +kernel
theorem dX4_coverFromOwner_2 : decode cX4_coverFromOwner 2 = .ok (.iload_n 2, 1) := by decide +kernel
theorem dX4_coverFromOwner_3 : decode cX4_coverFromOwner 3 = .ok (.aload_n 0, 1) := by decide +kernel
theorem dX4_coverFromOwner_4 : decode cX4_coverFromOwner 4 = .ok (.getfield 10, 3) := by decide +kernel
theorem dX4_coverFromOwner_7 : decode cX4_coverFromOwner 7 = .ok (.getfield 52, 3) := by decide +kernel
theorem dX4_coverFromOwner_10 : decode cX4_coverFromOwner 10 = .ok (.if_icmp .ge 90, 3) := by decide +kernel
theorem dX4_coverFromOwner_13 : decode cX4_coverFromOwner 13 = .ok (.aload_n 0, 1) := by decide +kernel
theorem dX4_coverFromOwner_14 : decode cX4_coverFromOwner 14 = .ok (.getfield 10, 3) := by decide +kernel
theorem dX4_coverFromOwner_17 : decode cX4_coverFromOwner 17 = .ok (.getfield 168, 3) := by decide +kernel
theorem dX4_coverFromOwner_20 : decode cX4_coverFromOwner 20 = .ok (.iload_n 1, 1) := by decide +kernel
theorem dX4_coverFromOwner_21 : decode cX4_coverFromOwner 21 = .ok (.iaload, 1) := by decide +kernel
theorem dX4_coverFromOwner_22 : decode cX4_coverFromOwner 22 = .ok (.ifCond .ge 78, 3) := by decide +kernel
theorem dX4_coverFromOwner_25 : decode cX4_coverFromOwner 25 = .ok (.aload_n 0, 1) := by decide +kernel
theorem dX4_coverFromOwner_26 : decode cX4_coverFromOwner 26 = .ok (.getfield 10, 3) := by decide +kernel
theorem dX4_coverFromOwner_29 : decode cX4_coverFromOwner 29 = .ok (.getfield 241, 3) := by decide +kernel
theorem dX4_coverFromOwner_32 : decode cX4_coverFromOwner 32 = .ok (.iload_n 2, 1) := by decide +kernel
theorem dX4_coverFromOwner_33 : decode cX4_coverFromOwner 33 = .ok (.iaload, 1) := by decide +kernel
theorem dX4_coverFromOwner_34 : decode cX4_coverFromOwner 34 = .ok (.aload_n 0, 1) := by decide +kernel
theorem dX4_coverFromOwner_35 : decode cX4_coverFromOwner 35 = .ok (.getfield 10, 3) := by decide +kernel
theorem dX4_coverFromOwner_38 : decode cX4_coverFromOwner 38 = .ok (.getfield 241, 3) := by decide +kernel
theorem dX4_coverFromOwner_41 : decode cX4_coverFromOwner 41 = .ok (.iload_n 1, 1) := by decide +kernel
theorem dX4_coverFromOwner_42 : decode cX4_coverFromOwner 42 = .ok (.iaload, 1) := by decide +kernel
theorem dX4_coverFromOwner_43 : decode cX4_coverFromOwner 43 = .ok (.if_icmp .ne 51, 3) := by decide +kernel
theorem dX4_coverFromOwner_46 : decode cX4_coverFromOwner 46 = .ok (.aload_n 0, 1) := by decide +kernel
theorem dX4_coverFromOwner_47 : decode cX4_coverFromOwner 47 = .ok (.getfield 10, 3) := by decide +kernel
theorem dX4_coverFromOwner_50 : decode cX4_coverFromOwner 50 = .ok (.getfield 168, 3) := by decide +kernel
theorem dX4_coverFromOwner_53 : decode cX4_coverFromOwner 53 = .ok (.iload_n 2, 1) := by decide +kernel
theorem dX4_coverFromOwner_54 : decode cX4_coverFromOwner 54 = .ok (.iaload, 1) := by decide +kernel
theorem dX4_coverFromOwner_55 : decode cX4_coverFromOwner 55 = .ok (.ifCond .le 39, 3) := by decide +kernel
theorem dX4_coverFromOwner_58 : decode cX4_coverFromOwner 58 = .ok (.aload_n 0, 1) := by decide +kernel
theorem dX4_coverFromOwner_59 : decode cX4_coverFromOwner 59 = .ok (.getfield 10, 3) := by decide +kernel
theorem dX4_coverFromOwner_62 : decode cX4_coverFromOwner 62 = .ok (.getfield 168, 3) := by decide +kernel
theorem dX4_coverFromOwner_65 : decode cX4_coverFromOwner 65 = .ok (.iload_n 2, 1) := by decide +kernel
theorem dX4_coverFromOwner_66 : decode cX4_coverFromOwner 66 = .ok (.iaload, 1) := by decide +kernel
theorem dX4_coverFromOwner_67 : decode cX4_coverFromOwner 67 = .ok (.aload_n 0, 1) := by decide +kernel
theorem dX4_coverFromOwner_68 : decode cX4_coverFromOwner 68 = .ok (.getfield 10, 3) := by decide +kernel
theorem dX4_coverFromOwner_71 : decode cX4_coverFromOwner 71 = .ok (.getfield 168, 3) := by decide +kernel
theorem dX4_coverFromOwner_74 : decode cX4_coverFromOwner 74 = .ok (.iload_n 1, 1) := by decide +kernel
theorem dX4_coverFromOwner_75 : decode cX4_coverFromOwner 75 = .ok (.iaload, 1) := by decide +kernel
theorem dX4_coverFromOwner_76 : decode cX4_coverFromOwner 76 = .ok (.ineg, 1) := by decide +kernel
theorem dX4_coverFromOwner_77 : decode cX4_coverFromOwner 77 = .ok (.invokestatic 119, 3) := by decide +kernel
theorem dX4_coverFromOwner_80 : decode cX4_coverFromOwner 80 = .ok (.istore_n 3, 1) := by decide +kernel
theorem dX4_coverFromOwner_81 : decode cX4_coverFromOwner 81 = .ok (.aload_n 0, 1) := by decide +kernel
theorem dX4_coverFromOwner_82 : decode cX4_coverFromOwner 82 = .ok (.iload_n 2, 1) := by decide +kernel
theorem dX4_coverFromOwner_83 : decode cX4_coverFromOwner 83 = .ok (.iload_n 3, 1) := by decide +kernel
theorem dX4_coverFromOwner_84 : decode cX4_coverFromOwner 84 = .ok (.ineg, 1) := by decide +kernel
theorem dX4_coverFromOwner_85 : decode cX4_coverFromOwner 85 = .ok (.invokevirtual 164, 3) := by decide +kernel
theorem dX4_coverFromOwner_88 : decode cX4_coverFromOwner 88 = .ok (.aload_n 0, 1) := by decide +kernel
theorem dX4_coverFromOwner_89 : decode cX4_coverFromOwner 89 = .ok (.iload_n 1, 1) := by decide +kernel
theorem dX4_coverFromOwner_90 : decode cX4_coverFromOwner 90 = .ok (.iload_n 3, 1) := by decide +kernel
theorem dX4_coverFromOwner_91 : decode cX4_coverFromOwner 91 = .ok (.invokevirtual 164, 3) := by decide +kernel
theorem dX4_coverFromOwner_94 : decode cX4_coverFromOwner 94 = .ok (.iinc 2 1, 3) := by decide +kernel
theorem dX4_coverFromOwner_97 : decode cX4_coverFromOwner 97 = .ok (.goto (-95), 3) := by decide +kernel
theorem dX4_coverFromOwner_100 : decode cX4_coverFromOwner 100 = .ok (.return_, 1) := by decide +kernel
set_option maxRecDepth 20000 in
theorem ggX4_payIfDue_X4_dueTo : GoodIn wsX4_payIfDue wsX4_dueTo := goodIn_r _ [8, 2, 9, 10, 11, 12, 3, 13, 14, 15, 16, 64, 65, 66, 67, 68, 69, 70, 71, 72, 73, 74, 75, 76, 77, 78, 79, 80, 81, 82, 83] (by decide +kernel) (by decide +kernel)
set_option maxRecDepth 20000 in
theorem gX4_payIfDue_X4_dueTo : GoodIn wsX4_payIfDue (wsV RX4 244 RX4 yX4_dueTo wsX4_dueTo) := goodIn_app (goodIn_of _ (by decide +kernel)) ggX4_payIfDue_X4_dueTo
set_option maxRecDepth 20000 in
theorem ggX4_payIfDue_X1_enter : GoodIn wsX4_payIfDue wsX1_enter := goodIn_r _ [21, 22, 23, 24, 25, 26, 27, 20, 28, 29, 30, 31, 32, 33, 34, 35, 36, 37, 38, 39, 40, 41, 14, 15, 16, 42, 43, 44, 45, 84, 85, 86, 87] (by decide +kernel) (by decide +kernel)
set_option maxRecDepth 20000 in
theorem gX4_payIfDue_X1_enter : GoodIn wsX4_payIfDue (wsV RX4 247 RX1 yX1_enter wsX1_enter) := goodIn_app (goodIn_of _ (by decide +kernel)) ggX4_payIfDue_X1_enter
set_option maxRecDepth 20000 in
theorem ggX4_payIfDue_X4_post : GoodIn wsX4_payIfDue wsX4_post := goodIn_r _ [49, 2, 9, 50, 51, 52, 53, 54, 55, 56, 57, 58, 59, 60, 61, 62, 63, 64, 65, 66, 67, 68, 69, 70, 71, 72, 73, 74, 75, 76, 77, 78, 79, 80, 81, 82, 83, 88, 89, 90, 91] (by decide +kernel) (by decide +kernel)
set_option maxRecDepth 20000 in
theorem gX4_payIfDue_X4_post : GoodIn wsX4_payIfDue (wsV RX4 164 RX4 yX4_post wsX4_post) := goodIn_app (goodIn_of _ (by decide +kernel)) ggX4_payIfDue_X4_post
theorem dX4_payIfDue_0 : decode cX4_payIfDue 0 = .ok (.aload_n 0, 1) := by decide +kernel
theorem dX4_payIfDue_1 : decode cX4_payIfDue 1 = .ok (.iload_n 1, 1) := by decide +kernel
theorem dX4_payIfDue_2 : decode cX4_payIfDue 2 = .ok (.invokevirtual 244, 3) := by decide +kernel
theorem dX4_payIfDue_5 : decode cX4_payIfDue 5 = .ok (.istore_n 2, 1) := by decide +kernel
theorem dX4_payIfDue_6 : decode cX4_payIfDue 6 = .ok (.iload_n 2, 1) := by decide +kernel
theorem dX4_payIfDue_7 : decode cX4_payIfDue 7 = .ok (.ifCond .le 35, 3) := by decide +kernel
theorem dX4_payIfDue_10 : decode cX4_payIfDue 10 = .ok (.aload_n 0, 1) := by decide +kernel
theorem dX4_payIfDue_11 : decode cX4_payIfDue 11 = .ok (.getfield 26, 3) := by decide +kernel
theorem dX4_payIfDue_14 : decode cX4_payIfDue 14 = .ok (.iload_n 1, 1) := by decide +kernel
theorem dX4_payIfDue_15 : decode cX4_payIfDue 15 = .ok (.iload_n 2, 1) := by decide +kernel
theorem dX4_payIfDue_16 : decode cX4_payIfDue 16 = .ok (.invokevirtual 247, 3) := by decide +kernel
theorem dX4_payIfDue_19 : decode cX4_payIfDue 19 = .ok (.ifCond .eq 23, 3) := by decide +kernel
theorem dX4_payIfDue_22 : decode cX4_payIfDue 22 = .ok (.aload_n 0, 1) := by decide +kernel
theorem dX4_payIfDue_23 : decode cX4_payIfDue 23 = .ok (.getfield 10, 3) := by decide +kernel
theorem dX4_payIfDue_26 : decode cX4_payIfDue 26 = .ok (.getfield 192, 3) := by decide +kernel
theorem dX4_payIfDue_29 : decode cX4_payIfDue 29 = .ok (.iload_n 1, 1) := by decide +kernel
theorem dX4_payIfDue_30 : decode cX4_payIfDue 30 = .ok (.dup2, 1) := by decide +kernel
theorem dX4_payIfDue_31 : decode cX4_payIfDue 31 = .ok (.iaload, 1) := by decide +kernel
theorem dX4_payIfDue_32 : decode cX4_payIfDue 32 = .ok (.iload_n 2, 1) := by decide +kernel
theorem dX4_payIfDue_33 : decode cX4_payIfDue 33 = .ok (.iadd, 1) := by decide +kernel
theorem dX4_payIfDue_34 : decode cX4_payIfDue 34 = .ok (.iastore, 1) := by decide +kernel
theorem dX4_payIfDue_35 : decode cX4_payIfDue 35 = .ok (.aload_n 0, 1) := by decide +kernel
theorem dX4_payIfDue_36 : decode cX4_payIfDue 36 = .ok (.iload_n 1, 1) := by decide +kernel
theorem dX4_payIfDue_37 : decode cX4_payIfDue 37 = .ok (.iload_n 2, 1) := by decide +kernel
theorem dX4_payIfDue_38 : decode cX4_payIfDue 38 = .ok (.ineg, 1) := by decide +kernel
theorem dX4_payIfDue_39 : decode cX4_payIfDue 39 = .ok (.invokevirtual 164, 3) := by decide +kernel
theorem dX4_payIfDue_42 : decode cX4_payIfDue 42 = .ok (.return_, 1) := by decide +kernel
theorem dX4_dueTo_0 : decode cX4_dueTo 0 = .ok (.aload_n 0, 1) := by decide +kernel
theorem dX4_dueTo_1 : decode cX4_dueTo 1 = .ok (.getfield 10, 3) := by decide +kernel
theorem dX4_dueTo_4 : decode cX4_dueTo 4 = .ok (.getfield 168, 3) := by decide +kernel
theorem dX4_dueTo_7 : decode cX4_dueTo 7 = .ok (.iload_n 1, 1) := by decide +kernel
theorem dX4_dueTo_8 : decode cX4_dueTo 8 = .ok (.iaload, 1) := by decide +kernel
theorem dX4_dueTo_9 : decode cX4_dueTo 9 = .ok (.istore_n 2, 1) := by decide +kernel
theorem dX4_dueTo_10 : decode cX4_dueTo 10 = .ok (.aload_n 0, 1) := by decide +kernel
theorem dX4_dueTo_11 : decode cX4_dueTo 11 = .ok (.getfield 10, 3) := by decide +kernel
theorem dX4_dueTo_14 : decode cX4_dueTo 14 = .ok (.getfield 73, 3) := by decide +kernel
theorem dX4_dueTo_17 : decode cX4_dueTo 17 = .ok (.iload_n 1, 1) := by decide +kernel
theorem dX4_dueTo_18 : decode cX4_dueTo 18 = .ok (.iaload, 1) := by decide +kernel
theorem dX4_dueTo_19 : decode cX4_dueTo 19 = .ok (.ifCond .eq 16, 3) := by decide +kernel
theorem dX4_dueTo_22 : decode cX4_dueTo 22 = .ok (.iload_n 2, 1) := by decide +kernel
theorem dX4_dueTo_23 : decode cX4_dueTo 23 = .ok (.aload_n 0, 1) := by decide +kernel
theorem dX4_dueTo_24 : decode cX4_dueTo 24 = .ok (.getfield 10, 3) := by decide +kernel
theorem dX4_dueTo_27 : decode cX4_dueTo 27 = .ok (.getfield 81, 3) := by decide +kernel
theorem dX4_dueTo_30 : decode cX4_dueTo 30 = .ok (.iload_n 1, 1) := by decide +kernel
theorem dX4_dueTo_31 : decode cX4_dueTo 31 = .ok (.iaload, 1) := by decide +kernel
theorem dX4_dueTo_32 : decode cX4_dueTo 32 = .ok (.if_icmp .ge 5, 3) := by decide +kernel
theorem dX4_dueTo_35 : decode cX4_dueTo 35 = .ok (.iconst 0, 1) := by decide +kernel
theorem dX4_dueTo_36 : decode cX4_dueTo 36 = .ok (.ireturn, 1) := by decide +kernel
theorem dX4_dueTo_37 : decode cX4_dueTo 37 = .ok (.aload_n 0, 1) := by decide +kernel
theorem dX4_dueTo_38 : decode cX4_dueTo 38 = .ok (.getfield 10, 3) := by decide +kernel
theorem dX4_dueTo_41 : decode cX4_dueTo 41 = .ok (.getfield 73, 3) := by decide +kernel
theorem dX4_dueTo_44 : decode cX4_dueTo 44 = .ok (.iload_n 1, 1) := by decide +kernel
theorem dX4_dueTo_45 : decode cX4_dueTo 45 = .ok (.iaload, 1) := by decide +kernel
theorem dX4_dueTo_46 : decode cX4_dueTo 46 = .ok (.iconst 1, 1) := by decide +kernel
theorem dX4_dueTo_47 : decode cX4_dueTo 47 = .ok (.if_icmp .ne 20, 3) := by decide +kernel
theorem dX4_dueTo_50 : decode cX4_dueTo 50 = .ok (.iload_n 2, 1) := by decide +kernel
theorem dX4_dueTo_51 : decode cX4_dueTo 51 = .ok (.ldc 250, 2) := by decide +kernel
theorem dX4_dueTo_53 : decode cX4_dueTo 53 = .ok (.aload_n 0, 1) := by decide +kernel
theorem dX4_dueTo_54 : decode cX4_dueTo 54 = .ok (.getfield 10, 3) := by decide +kernel
theorem dX4_dueTo_57 : decode cX4_dueTo 57 = .ok (.getfield 192, 3) := by decide +kernel
theorem dX4_dueTo_60 : decode cX4_dueTo 60 = .ok (.iload_n 1, 1) := by decide +kernel
theorem dX4_dueTo_61 : decode cX4_dueTo 61 = .ok (.iaload, 1) := by decide +kernel
theorem dX4_dueTo_62 : decode cX4_dueTo 62 = .ok (.isub, 1) := by decide +kernel
theorem dX4_dueTo_63 : decode cX4_dueTo 63 = .ok (.invokestatic 119, 3) := by decide +kernel
theorem dX4_dueTo_66 : decode cX4_dueTo 66 = .ok (.ireturn, 1) := by decide +kernel
theorem dX4_dueTo_67 : decode cX4_dueTo 67 = .ok (.iload_n 2, 1) := by decide +kernel
theorem dX4_dueTo_68 : decode cX4_dueTo 68 = .ok (.ireturn, 1) := by decide +kernel
theorem dJ6_bitCount_0f7a4_0 : decode cJ6_bitCount_0f7a4 0 = .ok (.iload_n 0, 1) := by decide +kernel
theorem dJ6_bitCount_0f7a4_1 : decode cJ6_bitCount_0f7a4 1 = .ok (.iload_n 0, 1) := by decide +kernel
theorem dJ6_bitCount_0f7a4_2 : decode cJ6_bitCount_0f7a4 2 = .ok (.iconst 1, 1) := by decide +kernel
theorem dJ6_bitCount_0f7a4_3 : decode cJ6_bitCount_0f7a4 3 = .ok (.iushr, 1) := by decide +kernel
theorem dJ6_bitCount_0f7a4_4 : decode cJ6_bitCount_0f7a4 4 = .ok (.ldc_w 265, 3) := by decide +kernel
theorem dJ6_bitCount_0f7a4_7 : decode cJ6_bitCount_0f7a4 7 = .ok (.iand, 1) := by decide +kernel
theorem dJ6_bitCount_0f7a4_8 : decode cJ6_bitCount_0f7a4 8 = .ok (.isub, 1) := by decide +kernel
theorem dJ6_bitCount_0f7a4_9 : decode cJ6_bitCount_0f7a4 9 = .ok (.istore_n 0, 1) := by decide +kernel
theorem dJ6_bitCount_0f7a4_10 : decode cJ6_bitCount_0f7a4 10 = .ok (.iload_n 0, 1) := by decide +kernel
theorem dJ6_bitCount_0f7a4_11 : decode cJ6_bitCount_0f7a4 11 = .ok (.ldc_w 266, 3) := by decide +kernel
theorem dJ6_bitCount_0f7a4_14 : decode cJ6_bitCount_0f7a4 14 = .ok (.iand, 1) := by decide +kernel
theorem dJ6_bitCount_0f7a4_15 : decode cJ6_bitCount_0f7a4 15 = .ok (.iload_n 0, 1) := by decide +kernel
theorem dJ6_bitCount_0f7a4_16 : decode cJ6_bitCount_0f7a4 16 = .ok (.iconst 2, 1) := by decide +kernel
theorem dJ6_bitCount_0f7a4_17 : decode cJ6_bitCount_0f7a4 17 = .ok (.iushr, 1) := by decide +kernel
theorem dJ6_bitCount_0f7a4_18 : decode cJ6_bitCount_0f7a4 18 = .ok (.ldc_w 266, 3) := by decide +kernel
theorem dJ6_bitCount_0f7a4_21 : decode cJ6_bitCount_0f7a4 21 = .ok (.iand, 1) := by decide +kernel
theorem dJ6_bitCount_0f7a4_22 : decode cJ6_bitCount_0f7a4 22 = .ok (.iadd, 1) := by decide +kernel
theorem dJ6_bitCount_0f7a4_23 : decode cJ6_bitCount_0f7a4 23 = .ok (.istore_n 0, 1) := by decide +kernel
theorem dJ6_bitCount_0f7a4_24 : decode cJ6_bitCount_0f7a4 24 = .ok (.iload_n 0, 1) := by decide +kernel
theorem dJ6_bitCount_0f7a4_25 : decode cJ6_bitCount_0f7a4 25 = .ok (.iload_n 0, 1) := by decide +kernel
theorem dJ6_bitCount_0f7a4_26 : decode cJ6_bitCount_0f7a4 26 = .ok (.iconst 4, 1) := by decide +kernel
theorem dJ6_bitCount_0f7a4_27 : decode cJ6_bitCount_0f7a4 27 = .ok (.iushr, 1) := by decide +kernel
theorem dJ6_bitCount_0f7a4_28 : decode cJ6_bitCount_0f7a4 28 = .ok (.iadd, 1) := by decide +kernel
theorem dJ6_bitCount_0f7a4_29 : decode cJ6_bitCount_0f7a4 29 = .ok (.ldc_w 267, 3) := by decide +kernel
theorem dJ6_bitCount_0f7a4_32 : decode cJ6_bitCount_0f7a4 32 = .ok (.iand, 1) := by decide +kernel
theorem dJ6_bitCount_0f7a4_33 : decode cJ6_bitCount_0f7a4 33 = .ok (.istore_n 0, 1) := by decide +kernel
theorem dJ6_bitCount_0f7a4_34 : decode cJ6_bitCount_0f7a4 34 = .ok (.iload_n 0, 1) := by decide +kernel
theorem dJ6_bitCount_0f7a4_35 : decode cJ6_bitCount_0f7a4 35 = .ok (.iload_n 0, 1) := by decide +kernel
theorem dJ6_bitCount_0f7a4_36 : decode cJ6_bitCount_0f7a4 36 = .ok (.bipush 8, 2) := by decide +kernel
theorem dJ6_bitCount_0f7a4_38 : decode cJ6_bitCount_0f7a4 38 = .ok (.iushr, 1) := by decide +kernel
theorem dJ6_bitCount_0f7a4_39 : decode cJ6_bitCount_0f7a4 39 = .ok (.iadd, 1) := by decide +kernel
theorem dJ6_bitCount_0f7a4_40 : decode cJ6_bitCount_0f7a4 40 = .ok (.istore_n 0, 1) := by decide +kernel
theorem dJ6_bitCount_0f7a4_41 : decode cJ6_bitCount_0f7a4 41 = .ok (.iload_n 0, 1) := by decide +kernel
theorem dJ6_bitCount_0f7a4_42 : decode cJ6_bitCount_0f7a4 42 = .ok (.iload_n 0, 1) := by decide +kernel
theorem dJ6_bitCount_0f7a4_43 : decode cJ6_bitCount_0f7a4 43 = .ok (.bipush 16, 2) := by decide +kernel
theorem dJ6_bitCount_0f7a4_45 : decode cJ6_bitCount_0f7a4 45 = .ok (.iushr, 1) := by decide +kernel
theorem dJ6_bitCount_0f7a4_46 : decode cJ6_bitCount_0f7a4 46 = .ok (.iadd, 1) := by decide +kernel
theorem dJ6_bitCount_0f7a4_47 : decode cJ6_bitCount_0f7a4 47 = .ok (.istore_n 0, 1) := by decide +kernel
theorem dJ6_bitCount_0f7a4_48 : decode cJ6_bitCount_0f7a4 48 = .ok (.iload_n 0, 1) := by decide +kernel
theorem dJ6_bitCount_0f7a4_49 : decode cJ6_bitCount_0f7a4 49 = .ok (.bipush 63, 2) := by decide +kernel
theorem dJ6_bitCount_0f7a4_51 : decode cJ6_bitCount_0f7a4 51 = .ok (.iand, 1) := by decide +kernel
theorem dJ6_bitCount_0f7a4_52 : decode cJ6_bitCount_0f7a4 52 = .ok (.ireturn, 1) := by decide +kernel
theorem dJ9_min_7cf53_0 : decode cJ9_min_7cf53 0 = .ok (.iload_n 0, 1) := by decide +kernel
theorem dJ9_min_7cf53_1 : decode cJ9_min_7cf53 1 = .ok (.iload_n 1, 1) := by decide +kernel
theorem dJ9_min_7cf53_2 : decode cJ9_min_7cf53 2 = .ok (.if_icmp .gt 7, 3) := by decide +kernel
theorem dJ9_min_7cf53_5 : decode cJ9_min_7cf53 5 = .ok (.iload_n 0, 1) := by decide +kernel
theorem dJ9_min_7cf53_6 : decode cJ9_min_7cf53 6 = .ok (.goto 4, 3) := by decide +kernel
theorem dJ9_min_7cf53_9 : decode cJ9_min_7cf53 9 = .ok (.iload_n 1, 1) := by decide +kernel
theorem dJ9_min_7cf53_10 : decode cJ9_min_7cf53 10 = .ok (.ireturn, 1) := by decide +kernel
theorem dJ7_copyOf_59c91_0 : decode cJ7_copyOf_59c91 0 = .ok (.iload_n 1, 1) := by decide +kernel
theorem dJ7_copyOf_59c91_1 : decode cJ7_copyOf_59c91 1 = .ok (.aload_n 0, 1) := by decide +kernel
theorem dJ7_copyOf_59c91_2 : decode cJ7_copyOf_59c91 2 = .ok (.arraylength, 1) := by decide +kernel
theorem dJ7_copyOf_59c91_3 : decode cJ7_copyOf_59c91 3 = .ok (.if_icmp .ne 11, 3) := by decide +kernel
theorem dJ7_copyOf_59c91_6 : decode cJ7_copyOf_59c91 6 = .ok (.aload_n 0, 1) := by decide +kernel
theorem dJ7_copyOf_59c91_7 : decode cJ7_copyOf_59c91 7 = .ok (.invokevirtual 316, 3) := by decide +kernel
theorem dJ7_copyOf_59c91_10 : decode cJ7_copyOf_59c91 10 = .ok (.checkcast 317, 3) := by decide +kernel
theorem dJ7_copyOf_59c91_13 : decode cJ7_copyOf_59c91 13 = .ok (.areturn, 1) := by decide +kernel
theorem dJ7_copyOf_59c91_14 : decode cJ7_copyOf_59c91 14 = .ok (.iload_n 1, 1) := by decide +kernel
theorem dJ7_copyOf_59c91_15 : decode cJ7_copyOf_59c91 15 = .ok (.newarray .int, 2) := by decide +kernel
theorem dJ7_copyOf_59c91_17 : decode cJ7_copyOf_59c91 17 = .ok (.astore_n 2, 1) := by decide +kernel
theorem dJ7_copyOf_59c91_18 : decode cJ7_copyOf_59c91 18 = .ok (.aload_n 0, 1) := by decide +kernel
theorem dJ7_copyOf_59c91_19 : decode cJ7_copyOf_59c91 19 = .ok (.iconst 0, 1) := by decide +kernel
theorem dJ7_copyOf_59c91_20 : decode cJ7_copyOf_59c91 20 = .ok (.aload_n 2, 1) := by decide +kernel
theorem dJ7_copyOf_59c91_21 : decode cJ7_copyOf_59c91 21 = .ok (.iconst 0, 1) := by decide +kernel
theorem dJ7_copyOf_59c91_22 : decode cJ7_copyOf_59c91 22 = .ok (.aload_n 0, 1) := by decide +kernel
theorem dJ7_copyOf_59c91_23 : decode cJ7_copyOf_59c91 23 = .ok (.arraylength, 1) := by decide +kernel
theorem dJ7_copyOf_59c91_24 : decode cJ7_copyOf_59c91 24 = .ok (.iload_n 1, 1) := by decide +kernel
theorem dJ7_copyOf_59c91_25 : decode cJ7_copyOf_59c91 25 = .ok (.invokestatic 304, 3) := by decide +kernel
theorem dJ7_copyOf_59c91_28 : decode cJ7_copyOf_59c91 28 = .ok (.invokestatic 150, 3) := by decide +kernel
theorem dJ7_copyOf_59c91_31 : decode cJ7_copyOf_59c91 31 = .ok (.aload_n 2, 1) := by decide +kernel
theorem dJ7_copyOf_59c91_32 : decode cJ7_copyOf_59c91 32 = .ok (.areturn, 1) := by decide +kernel
