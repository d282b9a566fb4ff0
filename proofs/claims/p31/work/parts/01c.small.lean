set_option maxRecDepth 20000 in
theorem ggX0_init_X6_init : GoodIn wsX0_init wsX6_init := goodIn_r _ [11, 12, 2, 3, 13, 14, 19] (by decide +kernel) (by decide +kernel)
set_option maxRecDepth 20000 in
theorem gX0_init_X6_init : GoodIn wsX0_init (wsX6_init) := ggX0_init_X6_init
set_option maxRecDepth 20000 in
theorem ggX0_init_X6_put : GoodIn wsX0_init wsX6_put := goodIn_r _ [18, 14, 19] (by decide +kernel) (by decide +kernel)
set_option maxRecDepth 20000 in
theorem gX0_init_X6_put : GoodIn wsX0_init (wsV RX0 23 RX6 yX6_put wsX6_put) := goodIn_app (goodIn_of _ (by decide +kernel)) ggX0_init_X6_put
theorem dX0_init_0 : decode cX0_init 0 = .ok (.aload_n 0, 1) := by decide +kernel
theorem dX0_init_1 : decode cX0_init 1 = .ok (.invokespecial 3, 3) := by decide +kernel
theorem dX0_init_4 : decode cX0_init 4 = .ok (.aload_n 0, 1) := by decide +kernel
theorem dX0_init_5 : decode cX0_init 5 = .ok (.new 9, 3) := by decide +kernel
theorem dX0_init_8 : decode cX0_init 8 = .ok (.dup, 1) := by decide +kernel
theorem dX0_init_9 : decode cX0_init 9 = .ok (.iconst 3, 1) := by decide +kernel
theorem dX0_init_10 : decode cX0_init 10 = .ok (.iconst 0, 1) := by decide +kernel
theorem dX0_init_11 : decode cX0_init 11 = .ok (.invokespecial 11, 3) := by decide +kernel
theorem dX0_init_14 : decode cX0_init 14 = .ok (.putfield 14, 3) := by decide +kernel
theorem dX0_init_17 : decode cX0_init 17 = .ok (.aload_n 0, 1) := by decide +kernel
theorem dX0_init_18 : decode cX0_init 18 = .ok (.new 9, 3) := by decide +kernel
theorem dX0_init_21 : decode cX0_init 21 = .ok (.dup, 1) := by decide +kernel
theorem dX0_init_22 : decode cX0_init 22 = .ok (.iconst 3, 1) := by decide +kernel
theorem dX0_init_23 : decode cX0_init 23 = .ok (.bipush 27, 2) := by decide +kernel
theorem dX0_init_25 : decode cX0_init 25 = .ok (.invokespecial 11, 3) := by decide +kernel
theorem dX0_init_28 : decode cX0_init 28 = .ok (.putfield 20, 3) := by decide +kernel
theorem dX0_init_31 : decode cX0_init 31 = .ok (.iconst 0, 1) := by decide +kernel
theorem dX0_init_32 : decode cX0_init 32 = .ok (.istore_n 1, 1) := by decide +kernel
theorem dX0_init_33 : decode cX0_init 33 = .ok (.iload_n 1, 1) := by decide +kernel
theorem dX0_init_34 : decode cX0_init 34 = .ok (.iconst 3, 1) := by decide +kernel
theorem dX0_init_35 : decode cX0_init 35 = .ok (.if_icmp .ge 18, 3) := by decide +kernel
theorem dX0_init_38 : decode cX0_init 38 = .ok (.aload_n 0, 1) := by decide +kernel
theorem dX0_init_39 : decode cX0_init 39 = .ok (.getfield 14, 3) := by decide +kernel
theorem dX0_init_42 : decode cX0_init 42 = .ok (.iload_n 1, 1) := by decide +kernel
theorem dX0_init_43 : decode cX0_init 43 = .ok (.iload_n 1, 1) := by decide +kernel
theorem dX0_init_44 : decode cX0_init 44 = .ok (.invokevirtual 23, 3) := by decide +kernel
theorem dX0_init_47 : decode cX0_init 47 = .ok (.iinc 1 1, 3) := by decide +kernel
theorem dX0_init_50 : decode cX0_init 50 = .ok (.goto (-17), 3) := by decide +kernel
theorem dX0_init_53 : decode cX0_init 53 = .ok (.return_, 1) := by decide +kernel
set_option maxRecDepth 20000 in
theorem ggX0_isGood_X6_at : GoodIn wsX0_isGood wsX6_at := goodIn_r _ [6, 7, 10] (by decide +kernel) (by decide +kernel)
set_option maxRecDepth 20000 in
theorem gX0_isGood_X6_at : GoodIn wsX0_isGood (wsV RX0 26 RX6 yX6_at wsX6_at) := goodIn_app (goodIn_of _ (by decide +kernel)) ggX0_isGood_X6_at
theorem dX0_isGood_0 : decode cX0_isGood 0 = .ok (.iload_n 2, 1) := by decide +kernel
theorem dX0_isGood_1 : decode cX0_isGood 1 = .ok (.aload_n 0, 1) := by decide +kernel
theorem dX0_isGood_2 : decode cX0_isGood 2 = .ok (.getfield 20, 3) := by decide +kernel
theorem dX0_isGood_5 : decode cX0_isGood 5 = .ok (.iload_n 1, 1) := by decide +kernel
theorem dX0_isGood_6 : decode cX0_isGood 6 = .ok (.invokevirtual 26, 3) := by decide +kernel
theorem dX0_isGood_9 : decode cX0_isGood 9 = .ok (.if_icmp .gt 7, 3) := by decide +kernel
theorem dX0_isGood_12 : decode cX0_isGood 12 = .ok (.iconst 1, 1) := by decide +kernel
theorem dX0_isGood_13 : decode cX0_isGood 13 = .ok (.goto 4, 3) := by decide +kernel
theorem dX0_isGood_16 : decode cX0_isGood 16 = .ok (.iconst 0, 1) := by decide +kernel
theorem dX0_isGood_17 : decode cX0_isGood 17 = .ok (.ireturn, 1) := by decide +kernel
set_option maxRecDepth 20000 in
theorem ggX0_goodOn_X0_isGood : GoodIn wsX0_goodOn wsX0_isGood := goodIn_r _ [5, 6, 7, 8, 9, 10, 11, 12, 13, 14, 15] (by decide +kernel) (by decide +kernel)
set_option maxRecDepth 20000 in
theorem gX0_goodOn_X0_isGood : GoodIn wsX0_goodOn (wsV RX0 30 RX0 yX0_isGood wsX0_isGood) := goodIn_app (goodIn_of _ (by decide +kernel)) ggX0_goodOn_X0_isGood
theorem dX0_goodOn_0 : decode cX0_goodOn 0 = .ok (.iconst 0, 1) := by decide +kernel
theorem dX0_goodOn_1 : decode cX0_goodOn 1 = .ok (.istore_n 2, 1) := by decide +kernel
theorem dX0_goodOn_2 : decode cX0_goodOn 2 = .ok (.iconst 0, 1) := by decide +kernel
theorem dX0_goodOn_3 : decode cX0_goodOn 3 = .ok (.istore_n 3, 1) := by decide +kernel
theorem dX0_goodOn_4 : decode cX0_goodOn 4 = .ok (.iload_n 3, 1) := by decide +kernel
theorem dX0_goodOn_5 : decode cX0_goodOn 5 = .ok (.iconst 3, 1) := by decide +kernel
theorem dX0_goodOn_6 : decode cX0_goodOn 6 = .ok (.if_icmp .ge 24, 3) := by decide +kernel
theorem dX0_goodOn_9 : decode cX0_goodOn 9 = .ok (.aload_n 0, 1) := by decide +kernel
theorem dX0_goodOn_10 : decode cX0_goodOn 10 = .ok (.iload_n 3, 1) := by decide +kernel
theorem dX0_goodOn_11 : decode cX0_goodOn 11 = .ok (.iload_n 1, 1) := by decide +kernel
theorem dX0_goodOn_12 : decode cX0_goodOn 12 = .ok (.invokevirtual 30, 3) := by decide +kernel
theorem dX0_goodOn_15 : decode cX0_goodOn 15 = .ok (.ifCond .eq 9, 3) := by decide +kernel
theorem dX0_goodOn_18 : decode cX0_goodOn 18 = .ok (.iload_n 2, 1) := by decide +kernel
theorem dX0_goodOn_19 : decode cX0_goodOn 19 = .ok (.iconst 1, 1) := by decide +kernel
theorem dX0_goodOn_20 : decode cX0_goodOn 20 = .ok (.iload_n 3, 1) := by decide +kernel
theorem dX0_goodOn_21 : decode cX0_goodOn 21 = .ok (.ishl, 1) := by decide +kernel
theorem dX0_goodOn_22 : decode cX0_goodOn 22 = .ok (.ior, 1) := by decide +kernel
theorem dX0_goodOn_23 : decode cX0_goodOn 23 = .ok (.istore_n 2, 1) := by decide +kernel
theorem dX0_goodOn_24 : decode cX0_goodOn 24 = .ok (.iinc 3 1, 3) := by decide +kernel
theorem dX0_goodOn_27 : decode cX0_goodOn 27 = .ok (.goto (-23), 3) := by decide +kernel
theorem dX0_goodOn_30 : decode cX0_goodOn 30 = .ok (.iload_n 2, 1) := by decide +kernel
theorem dX0_goodOn_31 : decode cX0_goodOn 31 = .ok (.ireturn, 1) := by decide +kernel
set_option maxRecDepth 20000 in
theorem ggX1_init_X6_init : GoodIn wsX1_init wsX6_init := goodIn_r _ [13, 14, 2, 3, 15, 16, 17] (by decide +kernel) (by decide +kernel)
set_option maxRecDepth 20000 in
theorem gX1_init_X6_init : GoodIn wsX1_init (wsX6_init) := ggX1_init_X6_init
theorem dX1_init_0 : decode cX1_init 0 = .ok (.aload_n 0, 1) := by decide +kernel
theorem dX1_init_1 : decode cX1_init 1 = .ok (.invokespecial 3, 3) := by decide +kernel
theorem dX1_init_4 : decode cX1_init 4 = .ok (.aload_n 0, 1) := by decide +kernel
theorem dX1_init_5 : decode cX1_init 5 = .ok (.new 9, 3) := by decide +kernel
theorem dX1_init_8 : decode cX1_init 8 = .ok (.dup, 1) := by decide +kernel
theorem dX1_init_9 : decode cX1_init 9 = .ok (.bipush 20, 2) := by decide +kernel
theorem dX1_init_11 : decode cX1_init 11 = .ok (.iconst 0, 1) := by decide +kernel
theorem dX1_init_12 : decode cX1_init 12 = .ok (.invokespecial 11, 3) := by decide +kernel
theorem dX1_init_15 : decode cX1_init 15 = .ok (.putfield 14, 3) := by decide +kernel
theorem dX1_init_18 : decode cX1_init 18 = .ok (.aload_n 0, 1) := by decide +kernel
theorem dX1_init_19 : decode cX1_init 19 = .ok (.new 9, 3) := by decide +kernel
theorem dX1_init_22 : decode cX1_init 22 = .ok (.dup, 1) := by decide +kernel
theorem dX1_init_23 : decode cX1_init 23 = .ok (.bipush 20, 2) := by decide +kernel
theorem dX1_init_25 : decode cX1_init 25 = .ok (.iconst 0, 1) := by decide +kernel
theorem dX1_init_26 : decode cX1_init 26 = .ok (.invokespecial 11, 3) := by decide +kernel
theorem dX1_init_29 : decode cX1_init 29 = .ok (.putfield 20, 3) := by decide +kernel
theorem dX1_init_32 : decode cX1_init 32 = .ok (.aload_n 0, 1) := by decide +kernel
theorem dX1_init_33 : decode cX1_init 33 = .ok (.new 9, 3) := by decide +kernel
theorem dX1_init_36 : decode cX1_init 36 = .ok (.dup, 1) := by decide +kernel
theorem dX1_init_37 : decode cX1_init 37 = .ok (.bipush 20, 2) := by decide +kernel
theorem dX1_init_39 : decode cX1_init 39 = .ok (.iconst 0, 1) := by decide +kernel
theorem dX1_init_40 : decode cX1_init 40 = .ok (.invokespecial 11, 3) := by decide +kernel
theorem dX1_init_43 : decode cX1_init 43 = .ok (.putfield 23, 3) := by decide +kernel
theorem dX1_init_46 : decode cX1_init 46 = .ok (.aload_n 0, 1) := by decide +kernel
theorem dX1_init_47 : decode cX1_init 47 = .ok (.iconst 0, 1) := by decide +kernel
theorem dX1_init_48 : decode cX1_init 48 = .ok (.putfield 26, 3) := by decide +kernel
theorem dX1_init_51 : decode cX1_init 51 = .ok (.return_, 1) := by decide +kernel
set_option maxRecDepth 20000 in
theorem ggX1_add_X6_put : GoodIn wsX1_add wsX6_put := goodIn_r _ [9, 10, 15] (by decide +kernel) (by decide +kernel)
set_option maxRecDepth 20000 in
theorem gX1_add_X6_put : GoodIn wsX1_add (wsV RX1 30 RX6 yX6_put wsX6_put) := goodIn_app (goodIn_of _ (by decide +kernel)) ggX1_add_X6_put
theorem dX1_add_0 : decode cX1_add 0 = .ok (.aload_n 0, 1) := by decide +kernel
theorem dX1_add_1 : decode cX1_add 1 = .ok (.getfield 14, 3) := by decide +kernel
theorem dX1_add_4 : decode cX1_add 4 = .ok (.aload_n 0, 1) := by decide +kernel
theorem dX1_add_5 : decode cX1_add 5 = .ok (.getfield 26, 3) := by decide +kernel
theorem dX1_add_8 : decode cX1_add 8 = .ok (.iload_n 1, 1) := by decide +kernel
theorem dX1_add_9 : decode cX1_add 9 = .ok (.invokevirtual 30, 3) := by decide +kernel
theorem dX1_add_12 : decode cX1_add 12 = .ok (.aload_n 0, 1) := by decide +kernel
theorem dX1_add_13 : decode cX1_add 13 = .ok (.getfield 20, 3) := by decide +kernel
theorem dX1_add_16 : decode cX1_add 16 = .ok (.aload_n 0, 1) := by decide +kernel
theorem dX1_add_17 : decode cX1_add 17 = .ok (.getfield 26, 3) := by decide +kernel
theorem dX1_add_20 : decode cX1_add 20 = .ok (.iload_n 2, 1) := by decide +kernel
theorem dX1_add_21 : decode cX1_add 21 = .ok (.invokevirtual 30, 3) := by decide +kernel
theorem dX1_add_24 : decode cX1_add 24 = .ok (.aload_n 0, 1) := by decide +kernel
theorem dX1_add_25 : decode cX1_add 25 = .ok (.getfield 23, 3) := by decide +kernel
theorem dX1_add_28 : decode cX1_add 28 = .ok (.aload_n 0, 1) := by decide +kernel
theorem dX1_add_29 : decode cX1_add 29 = .ok (.getfield 26, 3) := by decide +kernel
theorem dX1_add_32 : decode cX1_add 32 = .ok (.iload_n 3, 1) := by decide +kernel
theorem dX1_add_33 : decode cX1_add 33 = .ok (.invokevirtual 30, 3) := by decide +kernel
theorem dX1_add_36 : decode cX1_add 36 = .ok (.aload_n 0, 1) := by decide +kernel
theorem dX1_add_37 : decode cX1_add 37 = .ok (.dup, 1) := by decide +kernel
theorem dX1_add_38 : decode cX1_add 38 = .ok (.getfield 26, 3) := by decide +kernel
theorem dX1_add_41 : decode cX1_add 41 = .ok (.iconst 1, 1) := by decide +kernel
theorem dX1_add_42 : decode cX1_add 42 = .ok (.iadd, 1) := by decide +kernel
theorem dX1_add_43 : decode cX1_add 43 = .ok (.putfield 26, 3) := by decide +kernel
theorem dX1_add_46 : decode cX1_add 46 = .ok (.return_, 1) := by decide +kernel
set_option maxRecDepth 20000 in
theorem ggX1_heightOn_X6_at : GoodIn wsX1_heightOn wsX6_at := goodIn_r _ [9, 10, 15] (by decide +kernel) (by decide +kernel)
set_option maxRecDepth 20000 in
theorem gX1_heightOn_X6_at : GoodIn wsX1_heightOn (wsV RX1 33 RX6 yX6_at wsX6_at) := goodIn_app (goodIn_of _ (by decide +kernel)) ggX1_heightOn_X6_at
theorem dX1_heightOn_0 : decode cX1_heightOn 0 = .ok (.aload_n 0, 1) := by decide +kernel
theorem dX1_heightOn_1 : decode cX1_heightOn 1 = .ok (.getfield 26, 3) := by decide +kernel
theorem dX1_heightOn_4 : decode cX1_heightOn 4 = .ok (.iconst 1, 1) := by decide +kernel
theorem dX1_heightOn_5 : decode cX1_heightOn 5 = .ok (.isub, 1) := by decide +kernel
theorem dX1_heightOn_6 : decode cX1_heightOn 6 = .ok (.istore_n 3, 1) := by decide +kernel
theorem dX1_heightOn_7 : decode cX1_heightOn 7 = .ok (.iload_n 3, 1) := by decide +kernel
theorem dX1_heightOn_8 : decode cX1_heightOn 8 = .ok (.ifCond .lt 42, 3) := by decide +kernel
theorem dX1_heightOn_11 : decode cX1_heightOn 11 = .ok (.aload_n 0, 1) := by decide +kernel
theorem dX1_heightOn_12 : decode cX1_heightOn 12 = .ok (.getfield 14, 3) := by decide +kernel
theorem dX1_heightOn_15 : decode cX1_heightOn 15 = .ok (.iload_n 3, 1) := by decide +kernel
theorem dX1_heightOn_16 : decode cX1_heightOn 16 = .ok (.invokevirtual 33, 3) := by decide +kernel
theorem dX1_heightOn_19 : decode cX1_heightOn 19 = .ok (.iload_n 1, 1) := by decide +kernel
theorem dX1_heightOn_20 : decode cX1_heightOn 20 = .ok (.if_icmp .ne 24, 3) := by decide +kernel
theorem dX1_heightOn_23 : decode cX1_heightOn 23 = .ok (.aload_n 0, 1) := by decide +kernel
theorem dX1_heightOn_24 : decode cX1_heightOn 24 = .ok (.getfield 20, 3) := by decide +kernel
theorem dX1_heightOn_27 : decode cX1_heightOn 27 = .ok (.iload_n 3, 1) := by decide +kernel
theorem dX1_heightOn_28 : decode cX1_heightOn 28 = .ok (.invokevirtual 33, 3) := by decide +kernel
theorem dX1_heightOn_31 : decode cX1_heightOn 31 = .ok (.iload_n 2, 1) := by decide +kernel
theorem dX1_heightOn_32 : decode cX1_heightOn 32 = .ok (.if_icmp .gt 12, 3) := by decide +kernel
theorem dX1_heightOn_35 : decode cX1_heightOn 35 = .ok (.aload_n 0, 1) := by decide +kernel
theorem dX1_heightOn_36 : decode cX1_heightOn 36 = .ok (.getfield 23, 3) := by decide +kernel
theorem dX1_heightOn_39 : decode cX1_heightOn 39 = .ok (.iload_n 3, 1) := by decide +kernel
theorem dX1_heightOn_40 : decode cX1_heightOn 40 = .ok (.invokevirtual 33, 3) := by decide +kernel
theorem dX1_heightOn_43 : decode cX1_heightOn 43 = .ok (.ireturn, 1) := by decide +kernel
theorem dX1_heightOn_44 : decode cX1_heightOn 44 = .ok (.iinc 3 (-1), 3) := by decide +kernel
theorem dX1_heightOn_47 : decode cX1_heightOn 47 = .ok (.goto (-40), 3) := by decide +kernel
theorem dX1_heightOn_50 : decode cX1_heightOn 50 = .ok (.iconst (-1), 1) := by decide +kernel
theorem dX1_heightOn_51 : decode cX1_heightOn 51 = .ok (.ireturn, 1) := by decide +kernel
set_option maxRecDepth 20000 in
theorem ggX2_init_X6_init : GoodIn wsX2_init wsX6_init := goodIn_r _ [11, 12, 2, 3, 13, 14, 15] (by decide +kernel) (by decide +kernel)
set_option maxRecDepth 20000 in
theorem gX2_init_X6_init : GoodIn wsX2_init (wsX6_init) := ggX2_init_X6_init
theorem dX2_init_0 : decode cX2_init 0 = .ok (.aload_n 0, 1) := by decide +kernel
theorem dX2_init_1 : decode cX2_init 1 = .ok (.invokespecial 3, 3) := by decide +kernel
theorem dX2_init_4 : decode cX2_init 4 = .ok (.aload_n 0, 1) := by decide +kernel
theorem dX2_init_5 : decode cX2_init 5 = .ok (.new 9, 3) := by decide +kernel
theorem dX2_init_8 : decode cX2_init 8 = .ok (.dup, 1) := by decide +kernel
theorem dX2_init_9 : decode cX2_init 9 = .ok (.iconst 4, 1) := by decide +kernel
theorem dX2_init_10 : decode cX2_init 10 = .ok (.iconst (-1), 1) := by decide +kernel
theorem dX2_init_11 : decode cX2_init 11 = .ok (.invokespecial 11, 3) := by decide +kernel
theorem dX2_init_14 : decode cX2_init 14 = .ok (.putfield 14, 3) := by decide +kernel
theorem dX2_init_17 : decode cX2_init 17 = .ok (.aload_n 0, 1) := by decide +kernel
theorem dX2_init_18 : decode cX2_init 18 = .ok (.new 9, 3) := by decide +kernel
theorem dX2_init_21 : decode cX2_init 21 = .ok (.dup, 1) := by decide +kernel
theorem dX2_init_22 : decode cX2_init 22 = .ok (.iconst 4, 1) := by decide +kernel
theorem dX2_init_23 : decode cX2_init 23 = .ok (.iconst 0, 1) := by decide +kernel
theorem dX2_init_24 : decode cX2_init 24 = .ok (.invokespecial 11, 3) := by decide +kernel
theorem dX2_init_27 : decode cX2_init 27 = .ok (.putfield 20, 3) := by decide +kernel
theorem dX2_init_30 : decode cX2_init 30 = .ok (.return_, 1) := by decide +kernel
set_option maxRecDepth 20000 in
theorem ggX3_init_X6_init : GoodIn wsX3_init wsX6_init := goodIn_r _ [16, 17, 2, 3, 18, 19, 20] (by decide +kernel) (by decide +kernel)
set_option maxRecDepth 20000 in
theorem gX3_init_X6_init : GoodIn wsX3_init (wsX6_init) := ggX3_init_X6_init
theorem dX3_init_0 : decode cX3_init 0 = .ok (.aload_n 0, 1) := by decide +kernel
theorem dX3_init_1 : decode cX3_init 1 = .ok (.invokespecial 3, 3) := by decide +kernel
theorem dX3_init_4 : decode cX3_init 4 = .ok (.aload_n 0, 1) := by decide +kernel
theorem dX3_init_5 : decode cX3_init 5 = .ok (.new 9, 3) := by decide +kernel
theorem dX3_init_8 : decode cX3_init 8 = .ok (.dup, 1) := by decide +kernel
theorem dX3_init_9 : decode cX3_init 9 = .ok (.bipush 16, 2) := by decide +kernel
theorem dX3_init_11 : decode cX3_init 11 = .ok (.iconst 0, 1) := by decide +kernel
theorem dX3_init_12 : decode cX3_init 12 = .ok (.invokespecial 11, 3) := by decide +kernel
theorem dX3_init_15 : decode cX3_init 15 = .ok (.putfield 14, 3) := by decide +kernel
theorem dX3_init_18 : decode cX3_init 18 = .ok (.aload_n 0, 1) := by decide +kernel
theorem dX3_init_19 : decode cX3_init 19 = .ok (.new 9, 3) := by decide +kernel
theorem dX3_init_22 : decode cX3_init 22 = .ok (.dup, 1) := by decide +kernel
theorem dX3_init_23 : decode cX3_init 23 = .ok (.bipush 16, 2) := by decide +kernel
theorem dX3_init_25 : decode cX3_init 25 = .ok (.iconst 0, 1) := by decide +kernel
theorem dX3_init_26 : decode cX3_init 26 = .ok (.invokespecial 11, 3) := by decide +kernel
theorem dX3_init_29 : decode cX3_init 29 = .ok (.putfield 20, 3) := by decide +kernel
theorem dX3_init_32 : decode cX3_init 32 = .ok (.aload_n 0, 1) := by decide +kernel
theorem dX3_init_33 : decode cX3_init 33 = .ok (.new 9, 3) := by decide +kernel
theorem dX3_init_36 : decode cX3_init 36 = .ok (.dup, 1) := by decide +kernel
theorem dX3_init_37 : decode cX3_init 37 = .ok (.bipush 16, 2) := by decide +kernel
theorem dX3_init_39 : decode cX3_init 39 = .ok (.iconst 0, 1) := by decide +kernel
theorem dX3_init_40 : decode cX3_init 40 = .ok (.invokespecial 11, 3) := by decide +kernel
theorem dX3_init_43 : decode cX3_init 43 = .ok (.putfield 23, 3) := by decide +kernel
theorem dX3_init_46 : decode cX3_init 46 = .ok (.aload_n 0, 1) := by decide +kernel
theorem dX3_init_47 : decode cX3_init 47 = .ok (.new 9, 3) := by decide +kernel
theorem dX3_init_50 : decode cX3_init 50 = .ok (.dup, 1) := by decide +kernel
theorem dX3_init_51 : decode cX3_init 51 = .ok (.bipush 16, 2) := by decide +kernel
theorem dX3_init_53 : decode cX3_init 53 = .ok (.iconst 0, 1) := by decide +kernel
theorem dX3_init_54 : decode cX3_init 54 = .ok (.invokespecial 11, 3) := by decide +kernel
theorem dX3_init_57 : decode cX3_init 57 = .ok (.putfield 26, 3) := by decide +kernel
theorem dX3_init_60 : decode cX3_init 60 = .ok (.aload_n 0, 1) := by decide +kernel
theorem dX3_init_61 : decode cX3_init 61 = .ok (.new 9, 3) := by decide +kernel
theorem dX3_init_64 : decode cX3_init 64 = .ok (.dup, 1) := by decide +kernel
theorem dX3_init_65 : decode cX3_init 65 = .ok (.bipush 16, 2) := by decide +kernel
theorem dX3_init_67 : decode cX3_init 67 = .ok (.iconst 0, 1) := by decide +kernel
theorem dX3_init_68 : decode cX3_init 68 = .ok (.invokespecial 11, 3) := by decide +kernel
theorem dX3_init_71 : decode cX3_init 71 = .ok (.putfield 29, 3) := by decide +kernel
theorem dX3_init_74 : decode cX3_init 74 = .ok (.aload_n 0, 1) := by decide +kernel
theorem dX3_init_75 : decode cX3_init 75 = .ok (.new 9, 3) := by decide +kernel
theorem dX3_init_78 : decode cX3_init 78 = .ok (.dup, 1) := by decide +kernel
theorem dX3_init_79 : decode cX3_init 79 = .ok (.bipush 16, 2) := by decide +kernel
theorem dX3_init_81 : decode cX3_init 81 = .ok (.iconst (-1), 1) := by decide +kernel
theorem dX3_init_82 : decode cX3_init 82 = .ok (.invokespecial 11, 3) := by decide +kernel
theorem dX3_init_85 : decode cX3_init 85 = .ok (.putfield 32, 3) := by decide +kernel
theorem dX3_init_88 : decode cX3_init 88 = .ok (.aload_n 0, 1) := by decide +kernel
theorem dX3_init_89 : decode cX3_init 89 = .ok (.iconst 0, 1) := by decide +kernel
theorem dX3_init_90 : decode cX3_init 90 = .ok (.putfield 35, 3) := by decide +kernel
theorem dX3_init_93 : decode cX3_init 93 = .ok (.return_, 1) := by decide +kernel
set_option maxRecDepth 20000 in
theorem ggX3_add_X6_put : GoodIn wsX3_add wsX6_put := goodIn_r _ [11, 12, 20] (by decide +kernel) (by decide +kernel)
set_option maxRecDepth 20000 in
theorem gX3_add_X6_put : GoodIn wsX3_add (wsV RX3 39 RX6 yX6_put wsX6_put) := goodIn_app (goodIn_of _ (by decide +kernel)) ggX3_add_X6_put
theorem dX3_add_0 : decode cX3_add 0 = .ok (.aload_n 0, 1) := by decide +kernel
theorem dX3_add_1 : decode cX3_add 1 = .ok (.getfield 35, 3) := by decide +kernel
theorem dX3_add_4 : decode cX3_add 4 = .ok (.istore 6, 2) := by decide +kernel
theorem dX3_add_6 : decode cX3_add 6 = .ok (.aload_n 0, 1) := by decide +kernel
theorem dX3_add_7 : decode cX3_add 7 = .ok (.getfield 14, 3) := by decide +kernel
theorem dX3_add_10 : decode cX3_add 10 = .ok (.iload 6, 2) := by decide +kernel
theorem dX3_add_12 : decode cX3_add 12 = .ok (.iload_n 1, 1) := by decide +kernel
theorem dX3_add_13 : decode cX3_add 13 = .ok (.invokevirtual 39, 3) := by decide +kernel
theorem dX3_add_16 : decode cX3_add 16 = .ok (.aload_n 0, 1) := by decide +kernel
theorem dX3_add_17 : decode cX3_add 17 = .ok (.getfield 20, 3) := by decide +kernel
theorem dX3_add_20 : decode cX3_add 20 = .ok (.iload 6, 2) := by decide +kernel
theorem dX3_add_22 : decode cX3_add 22 = .ok (.iload_n 2, 1) := by decide +kernel
theorem dX3_add_23 : decode cX3_add 23 = .ok (.invokevirtual 39, 3) := by decide +kernel
theorem dX3_add_26 : decode cX3_add 26 = .ok (.aload_n 0, 1) := by decide +kernel
theorem dX3_add_27 : decode cX3_add 27 = .ok (.getfield 23, 3) := by decide +kernel
theorem dX3_add_30 : decode cX3_add 30 = .ok (.iload 6, 2) := by decide +kernel
theorem dX3_add_32 : decode cX3_add 32 = .ok (.iload_n 3, 1) := by decide +kernel
theorem dX3_add_33 : decode cX3_add 33 = .ok (.invokevirtual 39, 3) := by decide +kernel
theorem dX3_add_36 : decode cX3_add 36 = .ok (.aload_n 0, 1) := by decide +kernel
theorem dX3_add_37 : decode cX3_add 37 = .ok (.getfield 26, 3) := by decide +kernel
theorem dX3_add_40 : decode cX3_add 40 = .ok (.iload 6, 2) := by decide +kernel
theorem dX3_add_42 : decode cX3_add 42 = .ok (.iload 4, 2) := by decide +kernel
theorem dX3_add_44 : decode cX3_add 44 = .ok (.invokevirtual 39, 3) := by decide +kernel
theorem dX3_add_47 : decode cX3_add 47 = .ok (.aload_n 0, 1) := by decide +kernel
theorem dX3_add_48 : decode cX3_add 48 = .ok (.getfield 29, 3) := by decide +kernel
theorem dX3_add_51 : decode cX3_add 51 = .ok (.iload 6, 2) := by decide +kernel
theorem dX3_add_53 : decode cX3_add 53 = .ok (.iload 5, 2) := by decide +kernel
theorem dX3_add_55 : decode cX3_add 55 = .ok (.invokevirtual 39, 3) := by decide +kernel
theorem dX3_add_58 : decode cX3_add 58 = .ok (.aload_n 0, 1) := by decide +kernel
theorem dX3_add_59 : decode cX3_add 59 = .ok (.dup, 1) := by decide +kernel
theorem dX3_add_60 : decode cX3_add 60 = .ok (.getfield 35, 3) := by decide +kernel
theorem dX3_add_63 : decode cX3_add 63 = .ok (.iconst 1, 1) := by decide +kernel
theorem dX3_add_64 : decode cX3_add 64 = .ok (.iadd, 1) := by decide +kernel
theorem dX3_add_65 : decode cX3_add 65 = .ok (.putfield 35, 3) := by decide +kernel
theorem dX3_add_68 : decode cX3_add 68 = .ok (.iload 6, 2) := by decide +kernel
theorem dX3_add_70 : decode cX3_add 70 = .ok (.ireturn, 1) := by decide +kernel
set_option maxRecDepth 20000 in
theorem ggX3_addCancel_X3_add : GoodIn wsX3_addCancel wsX3_add := goodIn_r _ [6, 7, 8, 9, 10, 11, 12, 13, 14, 15, 16, 17, 18, 23, 24, 25, 26, 27, 28, 29, 30] (by decide +kernel) (by decide +kernel)
set_option maxRecDepth 20000 in
theorem gX3_addCancel_X3_add : GoodIn wsX3_addCancel (wsV RX3 42 RX3 yX3_add wsX3_add) := goodIn_app (goodIn_of _ (by decide +kernel)) ggX3_addCancel_X3_add
set_option maxRecDepth 20000 in
theorem ggX3_addCancel_X6_at : GoodIn wsX3_addCancel wsX6_at := goodIn_r _ [22, 18, 30] (by decide +kernel) (by decide +kernel)
set_option maxRecDepth 20000 in
theorem gX3_addCancel_X6_at : GoodIn wsX3_addCancel (wsV RX3 46 RX6 yX6_at wsX6_at) := goodIn_app (goodIn_of _ (by decide +kernel)) ggX3_addCancel_X6_at
set_option maxRecDepth 20000 in
theorem ggX3_addCancel_X6_put : GoodIn wsX3_addCancel wsX6_put := goodIn_r _ [17, 18, 30] (by decide +kernel) (by decide +kernel)
set_option maxRecDepth 20000 in
theorem gX3_addCancel_X6_put : GoodIn wsX3_addCancel (wsV RX3 39 RX6 yX6_put wsX6_put) := goodIn_app (goodIn_of _ (by decide +kernel)) ggX3_addCancel_X6_put
theorem dX3_addCancel_0 : decode cX3_addCancel 0 = .ok (.aload_n 0, 1) := by decide +kernel
theorem dX3_addCancel_1 : decode cX3_addCancel 1 = .ok (.iconst 3, 1) := by decide +kernel
theorem dX3_addCancel_2 : decode cX3_addCancel 2 = .ok (.iload_n 1, 1) := by decide +kernel
theorem dX3_addCancel_3 : decode cX3_addCancel 3 = .ok (.iconst 0, 1) := by decide +kernel
theorem dX3_addCancel_4 : decode cX3_addCancel 4 = .ok (.iload_n 2, 1) := by decide +kernel
theorem dX3_addCancel_5 : decode cX3_addCancel 5 = .ok (.iconst (-1), 1) := by decide +kernel
theorem dX3_addCancel_6 : decode cX3_addCancel 6 = .ok (.invokevirtual 42, 3) := by decide +kernel
theorem dX3_addCancel_9 : decode cX3_addCancel 9 = .ok (.istore_n 3, 1) := by decide +kernel
theorem dX3_addCancel_10 : decode cX3_addCancel 10 = .ok (.aload_n 0, 1) := by decide +kernel
theorem dX3_addCancel_11 : decode cX3_addCancel 11 = .ok (.getfield 32, 3) := by decide +kernel
theorem dX3_addCancel_14 : decode cX3_addCancel 14 = .ok (.iload_n 1, 1) := by decide +kernel
theorem dX3_addCancel_15 : decode cX3_addCancel 15 = .ok (.invokevirtual 46, 3) := by decide +kernel
theorem dX3_addCancel_18 : decode cX3_addCancel 18 = .ok (.iconst (-1), 1) := by decide +kernel
theorem dX3_addCancel_19 : decode cX3_addCancel 19 = .ok (.if_icmp .ne 12, 3) := by decide +kernel
theorem dX3_addCancel_22 : decode cX3_addCancel 22 = .ok (.aload_n 0, 1) := by decide +kernel
theorem dX3_addCancel_23 : decode cX3_addCancel 23 = .ok (.getfield 32, 3) := by decide +kernel
theorem dX3_addCancel_26 : decode cX3_addCancel 26 = .ok (.iload_n 1, 1) := by decide +kernel
theorem dX3_addCancel_27 : decode cX3_addCancel 27 = .ok (.iload_n 3, 1) := by decide +kernel
theorem dX3_addCancel_28 : decode cX3_addCancel 28 = .ok (.invokevirtual 39, 3) := by decide +kernel
theorem dX3_addCancel_31 : decode cX3_addCancel 31 = .ok (.iload_n 3, 1) := by decide +kernel
theorem dX3_addCancel_32 : decode cX3_addCancel 32 = .ok (.ireturn, 1) := by decide +kernel
set_option maxRecDepth 20000 in
theorem ggX3_isActive_X6_at : GoodIn wsX3_isActive wsX6_at := goodIn_r _ [9, 10, 18] (by decide +kernel) (by decide +kernel)
set_option maxRecDepth 20000 in
theorem gX3_isActive_X6_at : GoodIn wsX3_isActive (wsV RX3 46 RX6 yX6_at wsX6_at) := goodIn_app (goodIn_of _ (by decide +kernel)) ggX3_isActive_X6_at
theorem dX3_isActive_0 : decode cX3_isActive 0 = .ok (.aload_n 0, 1) := by decide +kernel
theorem dX3_isActive_1 : decode cX3_isActive 1 = .ok (.getfield 14, 3) := by decide +kernel
theorem dX3_isActive_4 : decode cX3_isActive 4 = .ok (.iload_n 1, 1) := by decide +kernel
theorem dX3_isActive_5 : decode cX3_isActive 5 = .ok (.invokevirtual 46, 3) := by decide +kernel
theorem dX3_isActive_8 : decode cX3_isActive 8 = .ok (.iconst 3, 1) := by decide +kernel
theorem dX3_isActive_9 : decode cX3_isActive 9 = .ok (.if_icmp .eq 27, 3) := by decide +kernel
theorem dX3_isActive_12 : decode cX3_isActive 12 = .ok (.iload_n 2, 1) := by decide +kernel
theorem dX3_isActive_13 : decode cX3_isActive 13 = .ok (.aload_n 0, 1) := by decide +kernel
theorem dX3_isActive_14 : decode cX3_isActive 14 = .ok (.getfield 26, 3) := by decide +kernel
theorem dX3_isActive_17 : decode cX3_isActive 17 = .ok (.iload_n 1, 1) := by decide +kernel
theorem dX3_isActive_18 : decode cX3_isActive 18 = .ok (.invokevirtual 46, 3) := by decide +kernel
theorem dX3_isActive_21 : decode cX3_isActive 21 = .ok (.if_icmp .lt 15, 3) := by decide +kernel
theorem dX3_isActive_24 : decode cX3_isActive 24 = .ok (.iload_n 2, 1) := by decide +kernel
theorem dX3_isActive_25 : decode cX3_isActive 25 = .ok (.aload_n 0, 1) := by decide +kernel
theorem dX3_isActive_26 : decode cX3_isActive 26 = .ok (.getfield 29, 3) := by decide +kernel
theorem dX3_isActive_29 : decode cX3_isActive 29 = .ok (.iload_n 1, 1) := by decide +kernel
theorem dX3_isActive_30 : decode cX3_isActive 30 = .ok (.invokevirtual 46, 3) := by decide +kernel
theorem dX3_isActive_33 : decode cX3_isActive 33 = .ok (.if_icmp .le 5, 3) := by decide +kernel
theorem dX3_isActive_36 : decode cX3_isActive 36 = .ok (.iconst 0, 1) := by decide +kernel
theorem dX3_isActive_37 : decode cX3_isActive 37 = .ok (.ireturn, 1) := by decide +kernel
theorem dX3_isActive_38 : decode cX3_isActive 38 = .ok (.aload_n 0, 1) := by decide +kernel
theorem dX3_isActive_39 : decode cX3_isActive 39 = .ok (.getfield 32, 3) := by decide +kernel
theorem dX3_isActive_42 : decode cX3_isActive 42 = .ok (.iload_n 1, 1) := by decide +kernel
theorem dX3_isActive_43 : decode cX3_isActive 43 = .ok (.invokevirtual 46, 3) := by decide +kernel
theorem dX3_isActive_46 : decode cX3_isActive 46 = .ok (.istore 4, 2) := by decide +kernel
theorem dX3_isActive_48 : decode cX3_isActive 48 = .ok (.iload 4, 2) := by decide +kernel
theorem dX3_isActive_50 : decode cX3_isActive 50 = .ok (.iconst (-1), 1) := by decide +kernel
theorem dX3_isActive_51 : decode cX3_isActive 51 = .ok (.if_icmp .eq 22, 3) := by decide +kernel
theorem dX3_isActive_54 : decode cX3_isActive 54 = .ok (.iload 4, 2) := by decide +kernel
theorem dX3_isActive_56 : decode cX3_isActive 56 = .ok (.iload_n 3, 1) := by decide +kernel
theorem dX3_isActive_57 : decode cX3_isActive 57 = .ok (.if_icmp .ge 16, 3) := by decide +kernel
theorem dX3_isActive_60 : decode cX3_isActive 60 = .ok (.aload_n 0, 1) := by decide +kernel
theorem dX3_isActive_61 : decode cX3_isActive 61 = .ok (.getfield 26, 3) := by decide +kernel
theorem dX3_isActive_64 : decode cX3_isActive 64 = .ok (.iload 4, 2) := by decide +kernel
theorem dX3_isActive_66 : decode cX3_isActive 66 = .ok (.invokevirtual 46, 3) := by decide +kernel
theorem dX3_isActive_69 : decode cX3_isActive 69 = .ok (.iload_n 2, 1) := by decide +kernel
theorem dX3_isActive_70 : decode cX3_isActive 70 = .ok (.if_icmp .le 7, 3) := by decide +kernel
theorem dX3_isActive_73 : decode cX3_isActive 73 = .ok (.iconst 1, 1) := by decide +kernel
theorem dX3_isActive_74 : decode cX3_isActive 74 = .ok (.goto 4, 3) := by decide +kernel
theorem dX3_isActive_77 : decode cX3_isActive 77 = .ok (.iconst 0, 1) := by decide +kernel
theorem dX3_isActive_78 : decode cX3_isActive 78 = .ok (.ireturn, 1) := by decide +kernel
set_option maxRecDepth 20000 in
theorem ggX3_activeOn_X3_isActive : GoodIn wsX3_activeOn wsX3_isActive := goodIn_r _ [6, 7, 8, 9, 10, 11, 12, 13, 14, 15, 16, 17, 18, 19, 20, 21, 22, 23, 24] (by decide +kernel) (by decide +kernel)
set_option maxRecDepth 20000 in
theorem gX3_activeOn_X3_isActive : GoodIn wsX3_activeOn (wsV RX3 50 RX3 yX3_isActive wsX3_isActive) := goodIn_app (goodIn_of _ (by decide +kernel)) ggX3_activeOn_X3_isActive
theorem dX3_activeOn_0 : decode cX3_activeOn 0 = .ok (.iconst 0, 1) := by decide +kernel
theorem dX3_activeOn_1 : decode cX3_activeOn 1 = .ok (.istore_n 2, 1) := by decide +kernel
theorem dX3_activeOn_2 : decode cX3_activeOn 2 = .ok (.iconst 0, 1) := by decide +kernel
theorem dX3_activeOn_3 : decode cX3_activeOn 3 = .ok (.istore_n 3, 1) := by decide +kernel
theorem dX3_activeOn_4 : decode cX3_activeOn 4 = .ok (.iload_n 3, 1) := by decide +kernel
theorem dX3_activeOn_5 : decode cX3_activeOn 5 = .ok (.aload_n 0, 1) := by decide +kernel
theorem dX3_activeOn_6 : decode cX3_activeOn 6 = .ok (.getfield 35, 3) := by decide +kernel
theorem dX3_activeOn_9 : decode cX3_activeOn 9 = .ok (.if_icmp .ge 25, 3) := by decide +kernel
theorem dX3_activeOn_12 : decode cX3_activeOn 12 = .ok (.aload_n 0, 1) := by decide +kernel
theorem dX3_activeOn_13 : decode cX3_activeOn 13 = .ok (.iload_n 3, 1) := by decide +kernel
theorem dX3_activeOn_14 : decode cX3_activeOn 14 = .ok (.iload_n 1, 1) := by decide +kernel
theorem dX3_activeOn_15 : decode cX3_activeOn 15 = .ok (.aload_n 0, 1) := by decide +kernel
theorem dX3_activeOn_16 : decode cX3_activeOn 16 = .ok (.getfield 35, 3) := by decide +kernel
theorem dX3_activeOn_19 : decode cX3_activeOn 19 = .ok (.invokevirtual 50, 3) := by decide +kernel
theorem dX3_activeOn_22 : decode cX3_activeOn 22 = .ok (.ifCond .eq 6, 3) := by decide +kernel
theorem dX3_activeOn_25 : decode cX3_activeOn 25 = .ok (.iinc 2 1, 3) := by decide +kernel
theorem dX3_activeOn_28 : decode cX3_activeOn 28 = .ok (.iinc 3 1, 3) := by decide +kernel
theorem dX3_activeOn_31 : decode cX3_activeOn 31 = .ok (.goto (-27), 3) := by decide +kernel
theorem dX3_activeOn_34 : decode cX3_activeOn 34 = .ok (.iload_n 2, 1) := by decide +kernel
theorem dX3_activeOn_35 : decode cX3_activeOn 35 = .ok (.ireturn, 1) := by decide +kernel
set_option maxRecDepth 20000 in
theorem ggX3_applyTo_X3_isActive : GoodIn wsX3_applyTo wsX3_isActive := goodIn_r _ [12, 2, 13, 14, 15, 16, 17, 18, 19, 20, 21, 22, 23, 24, 25, 26, 27, 28, 29] (by decide +kernel) (by decide +kernel)
set_option maxRecDepth 20000 in
theorem gX3_applyTo_X3_isActive : GoodIn wsX3_applyTo (wsV RX3 50 RX3 yX3_isActive wsX3_isActive) := goodIn_app (goodIn_of _ (by decide +kernel)) ggX3_applyTo_X3_isActive
set_option maxRecDepth 20000 in
theorem ggX3_applyTo_X6_at : GoodIn wsX3_applyTo wsX6_at := goodIn_r _ [20, 21, 29] (by decide +kernel) (by decide +kernel)
set_option maxRecDepth 20000 in
theorem gX3_applyTo_X6_at : GoodIn wsX3_applyTo (wsV RX3 46 RX6 yX6_at wsX6_at) := goodIn_app (goodIn_of _ (by decide +kernel)) ggX3_applyTo_X6_at
theorem dX3_applyTo_0 : decode cX3_applyTo 0 = .ok (.iconst 0, 1) := by decide +kernel
theorem dX3_applyTo_1 : decode cX3_applyTo 1 = .ok (.istore 6, 2) := by decide +kernel
theorem dX3_applyTo_3 : decode cX3_applyTo 3 = .ok (.iconst 0, 1) := by decide +kernel
theorem dX3_applyTo_4 : decode cX3_applyTo 4 = .ok (.istore 7, 2) := by decide +kernel
theorem dX3_applyTo_6 : decode cX3_applyTo 6 = .ok (.iload 7, 2) := by decide +kernel
theorem dX3_applyTo_8 : decode cX3_applyTo 8 = .ok (.iload 5, 2) := by decide +kernel
theorem dX3_applyTo_10 : decode cX3_applyTo 10 = .ok (.if_icmp .ge 105, 3) := by decide +kernel
theorem dX3_applyTo_13 : decode cX3_applyTo 13 = .ok (.iload_n 1, 1) := by decide +kernel
theorem dX3_applyTo_14 : decode cX3_applyTo 14 = .ok (.iconst (-1), 1) := by decide +kernel
theorem dX3_applyTo_15 : decode cX3_applyTo 15 = .ok (.if_icmp .eq 100, 3) := by decide +kernel
theorem dX3_applyTo_18 : decode cX3_applyTo 18 = .ok (.aload_n 0, 1) := by decide +kernel
theorem dX3_applyTo_19 : decode cX3_applyTo 19 = .ok (.iload 7, 2) := by decide +kernel
theorem dX3_applyTo_21 : decode cX3_applyTo 21 = .ok (.iload 4, 2) := by decide +kernel
theorem dX3_applyTo_23 : decode cX3_applyTo 23 = .ok (.iload 5, 2) := by decide +kernel
theorem dX3_applyTo_25 : decode cX3_applyTo 25 = .ok (.invokevirtual 50, 3) := by decide +kernel
theorem dX3_applyTo_28 : decode cX3_applyTo 28 = .ok (.ifCond .ne 6, 3) := by decide +kernel
theorem dX3_applyTo_31 : decode cX3_applyTo 31 = .ok (.goto 78, 3) := by decide +kernel
theorem dX3_applyTo_34 : decode cX3_applyTo 34 = .ok (.aload_n 0, 1) := by decide +kernel
theorem dX3_applyTo_35 : decode cX3_applyTo 35 = .ok (.getfield 20, 3) := by decide +kernel
theorem dX3_applyTo_38 : decode cX3_applyTo 38 = .ok (.iload 7, 2) := by decide +kernel
theorem dX3_applyTo_40 : decode cX3_applyTo 40 = .ok (.invokevirtual 46, 3) := by decide +kernel
theorem dX3_applyTo_43 : decode cX3_applyTo 43 = .ok (.istore 8, 2) := by decide +kernel
theorem dX3_applyTo_45 : decode cX3_applyTo 45 = .ok (.aload_n 0, 1) := by decide +kernel
theorem dX3_applyTo_46 : decode cX3_applyTo 46 = .ok (.getfield 14, 3) := by decide +kernel
theorem dX3_applyTo_49 : decode cX3_applyTo 49 = .ok (.iload 7, 2) := by decide +kernel
theorem dX3_applyTo_51 : decode cX3_applyTo 51 = .ok (.invokevirtual 46, 3) := by decide +kernel
theorem dX3_applyTo_54 : decode cX3_applyTo 54 = .ok (.istore 9, 2) := by decide +kernel
theorem dX3_applyTo_56 : decode cX3_applyTo 56 = .ok (.iload 9, 2) := by decide +kernel
theorem dX3_applyTo_58 : decode cX3_applyTo 58 = .ok (.iconst 1, 1) := by decide +kernel
theorem dX3_applyTo_59 : decode cX3_applyTo 59 = .ok (.if_icmp .ne 9, 3) := by decide +kernel
theorem dX3_applyTo_62 : decode cX3_applyTo 62 = .ok (.iload 8, 2) := by decide +kernel
theorem dX3_applyTo_64 : decode cX3_applyTo 64 = .ok (.iload_n 3, 1) := by decide +kernel
theorem dX3_applyTo_65 : decode cX3_applyTo 65 = .ok (.if_icmp .eq 15, 3) := by decide +kernel
theorem dX3_applyTo_68 : decode cX3_applyTo 68 = .ok (.iload 9, 2) := by decide +kernel
theorem dX3_applyTo_70 : decode cX3_applyTo 70 = .ok (.iconst 2, 1) := by decide +kernel
theorem dX3_applyTo_71 : decode cX3_applyTo 71 = .ok (.if_icmp .ne 11, 3) := by decide +kernel
theorem dX3_applyTo_74 : decode cX3_applyTo 74 = .ok (.iload 8, 2) := by decide +kernel
theorem dX3_applyTo_76 : decode cX3_applyTo 76 = .ok (.iload_n 2, 1) := by decide +kernel
theorem dX3_applyTo_77 : decode cX3_applyTo 77 = .ok (.if_icmp .ne 5, 3) := by decide +kernel
theorem dX3_applyTo_80 : decode cX3_applyTo 80 = .ok (.iconst (-1), 1) := by decide +kernel
theorem dX3_applyTo_81 : decode cX3_applyTo 81 = .ok (.ireturn, 1) := by decide +kernel
theorem dX3_applyTo_82 : decode cX3_applyTo 82 = .ok (.iload 9, 2) := by decide +kernel
theorem dX3_applyTo_84 : decode cX3_applyTo 84 = .ok (.ifCond .ne 25, 3) := by decide +kernel
theorem dX3_applyTo_87 : decode cX3_applyTo 87 = .ok (.iload 8, 2) := by decide +kernel
theorem dX3_applyTo_89 : decode cX3_applyTo 89 = .ok (.iload_n 2, 1) := by decide +kernel
theorem dX3_applyTo_90 : decode cX3_applyTo 90 = .ok (.if_icmp .ne 19, 3) := by decide +kernel
theorem dX3_applyTo_93 : decode cX3_applyTo 93 = .ok (.iload 6, 2) := by decide +kernel
theorem dX3_applyTo_95 : decode cX3_applyTo 95 = .ok (.aload_n 0, 1) := by decide +kernel
theorem dX3_applyTo_96 : decode cX3_applyTo 96 = .ok (.getfield 23, 3) := by decide +kernel
theorem dX3_applyTo_99 : decode cX3_applyTo 99 = .ok (.iload 7, 2) := by decide +kernel
theorem dX3_applyTo_101 : decode cX3_applyTo 101 = .ok (.invokevirtual 46, 3) := by decide +kernel
theorem dX3_applyTo_104 : decode cX3_applyTo 104 = .ok (.invokestatic 54, 3) := by decide +kernel
theorem dX3_applyTo_107 : decode cX3_applyTo 107 = .ok (.istore 6, 2) := by decide +kernel
theorem dX3_applyTo_109 : decode cX3_applyTo 109 = .ok (.iinc 7 1, 3) := by decide +kernel
theorem dX3_applyTo_112 : decode cX3_applyTo 112 = .ok (.goto (-106), 3) := by decide +kernel
theorem dX3_applyTo_115 : decode cX3_applyTo 115 = .ok (.iload_n 1, 1) := by decide +kernel
theorem dX3_applyTo_116 : decode cX3_applyTo 116 = .ok (.iconst (-1), 1) := by decide +kernel
theorem dX3_applyTo_117 : decode cX3_applyTo 117 = .ok (.if_icmp .ne 7, 3) := by decide +kernel
theorem dX3_applyTo_120 : decode cX3_applyTo 120 = .ok (.iconst (-1), 1) := by decide +kernel
theorem dX3_applyTo_121 : decode cX3_applyTo 121 = .ok (.goto 7, 3) := by decide +kernel
theorem dX3_applyTo_124 : decode cX3_applyTo 124 = .ok (.iload_n 1, 1) := by decide +kernel
theorem dX3_applyTo_125 : decode cX3_applyTo 125 = .ok (.iload 6, 2) := by decide +kernel
theorem dX3_applyTo_127 : decode cX3_applyTo 127 = .ok (.iadd, 1) := by decide +kernel
theorem dX3_applyTo_128 : decode cX3_applyTo 128 = .ok (.ireturn, 1) := by decide +kernel
set_option maxRecDepth 20000 in
theorem ggX4_init_X6_init : GoodIn wsX4_init wsX6_init := goodIn_r _ [15, 16, 2, 3, 17, 18, 19] (by decide +kernel) (by decide +kernel)
set_option maxRecDepth 20000 in
theorem gX4_init_X6_init : GoodIn wsX4_init (wsX6_init) := ggX4_init_X6_init
theorem dX4_init_0 : decode cX4_init 0 = .ok (.aload_n 0, 1) := by decide +kernel
theorem dX4_init_1 : decode cX4_init 1 = .ok (.invokespecial 3, 3) := by decide +kernel
theorem dX4_init_4 : decode cX4_init 4 = .ok (.aload_n 0, 1) := by decide +kernel
theorem dX4_init_5 : decode cX4_init 5 = .ok (.new 9, 3) := by decide +kernel
theorem dX4_init_8 : decode cX4_init 8 = .ok (.dup, 1) := by decide +kernel
theorem dX4_init_9 : decode cX4_init 9 = .ok (.bipush 12, 2) := by decide +kernel
theorem dX4_init_11 : decode cX4_init 11 = .ok (.iconst 0, 1) := by decide +kernel
theorem dX4_init_12 : decode cX4_init 12 = .ok (.invokespecial 11, 3) := by decide +kernel
theorem dX4_init_15 : decode cX4_init 15 = .ok (.putfield 14, 3) := by decide +kernel
theorem dX4_init_18 : decode cX4_init 18 = .ok (.aload_n 0, 1) := by decide +kernel
theorem dX4_init_19 : decode cX4_init 19 = .ok (.new 9, 3) := by decide +kernel
theorem dX4_init_22 : decode cX4_init 22 = .ok (.dup, 1) := by decide +kernel
theorem dX4_init_23 : decode cX4_init 23 = .ok (.bipush 12, 2) := by decide +kernel
theorem dX4_init_25 : decode cX4_init 25 = .ok (.iconst 0, 1) := by decide +kernel
theorem dX4_init_26 : decode cX4_init 26 = .ok (.invokespecial 11, 3) := by decide +kernel
theorem dX4_init_29 : decode cX4_init 29 = .ok (.putfield 20, 3) := by decide +kernel
theorem dX4_init_32 : decode cX4_init 32 = .ok (.aload_n 0, 1) := by decide +kernel
theorem dX4_init_33 : decode cX4_init 33 = .ok (.new 9, 3) := by decide +kernel
theorem dX4_init_36 : decode cX4_init 36 = .ok (.dup, 1) := by decide +kernel
theorem dX4_init_37 : decode cX4_init 37 = .ok (.bipush 12, 2) := by decide +kernel
theorem dX4_init_39 : decode cX4_init 39 = .ok (.iconst 0, 1) := by decide +kernel
theorem dX4_init_40 : decode cX4_init 40 = .ok (.invokespecial 11, 3) := by decide +kernel
theorem dX4_init_43 : decode cX4_init 43 = .ok (.putfield 23, 3) := by decide +kernel
theorem dX4_init_46 : decode cX4_init 46 = .ok (.aload_n 0, 1) := by decide +kernel
theorem dX4_init_47 : decode cX4_init 47 = .ok (.new 9, 3) := by decide +kernel
theorem dX4_init_50 : decode cX4_init 50 = .ok (.dup, 1) := by decide +kernel
theorem dX4_init_51 : decode cX4_init 51 = .ok (.bipush 12, 2) := by decide +kernel
theorem dX4_init_53 : decode cX4_init 53 = .ok (.iconst 0, 1) := by decide +kernel
theorem dX4_init_54 : decode cX4_init 54 = .ok (.invokespecial 11, 3) := by decide +kernel
theorem dX4_init_57 : decode cX4_init 57 = .ok (.putfield 26, 3) := by decide +kernel
theorem dX4_init_60 : decode cX4_init 60 = .ok (.aload_n 0, 1) := by decide +kernel
theorem dX4_init_61 : decode cX4_init 61 = .ok (.new 9, 3) := by decide +kernel
theorem dX4_init_64 : decode cX4_init 64 = .ok (.dup, 1) := by decide +kernel
theorem dX4_init_65 : decode cX4_init 65 = .ok (.bipush 12, 2) := by decide +kernel
theorem dX4_init_67 : decode cX4_init 67 = .ok (.iconst 0, 1) := by decide +kernel
theorem dX4_init_68 : decode cX4_init 68 = .ok (.invokespecial 11, 3) := by decide +kernel
theorem dX4_init_71 : decode cX4_init 71 = .ok (.putfield 29, 3) := by decide +kernel
theorem dX4_init_74 : decode cX4_init 74 = .ok (.aload_n 0, 1) := by decide +kernel
theorem dX4_init_75 : decode cX4_init 75 = .ok (.iconst 0, 1) := by decide +kernel
theorem dX4_init_76 : decode cX4_init 76 = .ok (.putfield 32, 3) := by decide +kernel
theorem dX4_init_79 : decode cX4_init 79 = .ok (.return_, 1) := by decide +kernel
set_option maxRecDepth 20000 in
theorem ggX4_add_X6_put : GoodIn wsX4_add wsX6_put := goodIn_r _ [11, 12, 19] (by decide +kernel) (by decide +kernel)
set_option maxRecDepth 20000 in
theorem gX4_add_X6_put : GoodIn wsX4_add (wsV RX4 36 RX6 yX6_put wsX6_put) := goodIn_app (goodIn_of _ (by decide +kernel)) ggX4_add_X6_put
theorem dX4_add_0 : decode cX4_add 0 = .ok (.aload_n 0, 1) := by decide +kernel
theorem dX4_add_1 : decode cX4_add 1 = .ok (.getfield 32, 3) := by decide +kernel
theorem dX4_add_4 : decode cX4_add 4 = .ok (.istore 6, 2) := by decide +kernel
theorem dX4_add_6 : decode cX4_add 6 = .ok (.aload_n 0, 1) := by decide +kernel
theorem dX4_add_7 : decode cX4_add 7 = .ok (.getfield 14, 3) := by decide +kernel
theorem dX4_add_10 : decode cX4_add 10 = .ok (.iload 6, 2) := by decide +kernel
theorem dX4_add_12 : decode cX4_add 12 = .ok (.iload_n 1, 1) := by decide +kernel
theorem dX4_add_13 : decode cX4_add 13 = .ok (.invokevirtual 36, 3) := by decide +kernel
theorem dX4_add_16 : decode cX4_add 16 = .ok (.aload_n 0, 1) := by decide +kernel
theorem dX4_add_17 : decode cX4_add 17 = .ok (.getfield 20, 3) := by decide +kernel
theorem dX4_add_20 : decode cX4_add 20 = .ok (.iload 6, 2) := by decide +kernel
theorem dX4_add_22 : decode cX4_add 22 = .ok (.iload_n 2, 1) := by decide +kernel
theorem dX4_add_23 : decode cX4_add 23 = .ok (.invokevirtual 36, 3) := by decide +kernel
theorem dX4_add_26 : decode cX4_add 26 = .ok (.aload_n 0, 1) := by decide +kernel
theorem dX4_add_27 : decode cX4_add 27 = .ok (.getfield 23, 3) := by decide +kernel
theorem dX4_add_30 : decode cX4_add 30 = .ok (.iload 6, 2) := by decide +kernel
theorem dX4_add_32 : decode cX4_add 32 = .ok (.iload_n 3, 1) := by decide +kernel
theorem dX4_add_33 : decode cX4_add 33 = .ok (.invokevirtual 36, 3) := by decide +kernel
theorem dX4_add_36 : decode cX4_add 36 = .ok (.aload_n 0, 1) := by decide +kernel
theorem dX4_add_37 : decode cX4_add 37 = .ok (.getfield 26, 3) := by decide +kernel
theorem dX4_add_40 : decode cX4_add 40 = .ok (.iload 6, 2) := by decide +kernel
theorem dX4_add_42 : decode cX4_add 42 = .ok (.iload 4, 2) := by decide +kernel
theorem dX4_add_44 : decode cX4_add 44 = .ok (.invokevirtual 36, 3) := by decide +kernel
theorem dX4_add_47 : decode cX4_add 47 = .ok (.aload_n 0, 1) := by decide +kernel
theorem dX4_add_48 : decode cX4_add 48 = .ok (.getfield 29, 3) := by decide +kernel
theorem dX4_add_51 : decode cX4_add 51 = .ok (.iload 6, 2) := by decide +kernel
theorem dX4_add_53 : decode cX4_add 53 = .ok (.iload 5, 2) := by decide +kernel
theorem dX4_add_55 : decode cX4_add 55 = .ok (.invokevirtual 36, 3) := by decide +kernel
theorem dX4_add_58 : decode cX4_add 58 = .ok (.aload_n 0, 1) := by decide +kernel
theorem dX4_add_59 : decode cX4_add 59 = .ok (.dup, 1) := by decide +kernel
theorem dX4_add_60 : decode cX4_add 60 = .ok (.getfield 32, 3) := by decide +kernel
theorem dX4_add_63 : decode cX4_add 63 = .ok (.iconst 1, 1) := by decide +kernel
theorem dX4_add_64 : decode cX4_add 64 = .ok (.iadd, 1) := by decide +kernel
theorem dX4_add_65 : decode cX4_add 65 = .ok (.putfield 32, 3) := by decide +kernel
theorem dX4_add_68 : decode cX4_add 68 = .ok (.iload 6, 2) := by decide +kernel
theorem dX4_add_70 : decode cX4_add 70 = .ok (.ireturn, 1) := by decide +kernel
set_option maxRecDepth 20000 in
theorem ggX4_isThere_X6_at : GoodIn wsX4_isThere wsX6_at := goodIn_r _ [7, 8, 15] (by decide +kernel) (by decide +kernel)
set_option maxRecDepth 20000 in
theorem gX4_isThere_X6_at : GoodIn wsX4_isThere (wsV RX4 39 RX6 yX6_at wsX6_at) := goodIn_app (goodIn_of _ (by decide +kernel)) ggX4_isThere_X6_at
theorem dX4_isThere_0 : decode cX4_isThere 0 = .ok (.aload_n 0, 1) := by decide +kernel
theorem dX4_isThere_1 : decode cX4_isThere 1 = .ok (.getfield 29, 3) := by decide +kernel
theorem dX4_isThere_4 : decode cX4_isThere 4 = .ok (.iload_n 1, 1) := by decide +kernel
theorem dX4_isThere_5 : decode cX4_isThere 5 = .ok (.invokevirtual 39, 3) := by decide +kernel
theorem dX4_isThere_8 : decode cX4_isThere 8 = .ok (.istore_n 3, 1) := by decide +kernel
theorem dX4_isThere_9 : decode cX4_isThere 9 = .ok (.iload_n 2, 1) := by decide +kernel
theorem dX4_isThere_10 : decode cX4_isThere 10 = .ok (.aload_n 0, 1) := by decide +kernel
theorem dX4_isThere_11 : decode cX4_isThere 11 = .ok (.getfield 26, 3) := by decide +kernel
theorem dX4_isThere_14 : decode cX4_isThere 14 = .ok (.iload_n 1, 1) := by decide +kernel
theorem dX4_isThere_15 : decode cX4_isThere 15 = .ok (.invokevirtual 39, 3) := by decide +kernel
theorem dX4_isThere_18 : decode cX4_isThere 18 = .ok (.if_icmp .lt 17, 3) := by decide +kernel
theorem dX4_isThere_21 : decode cX4_isThere 21 = .ok (.iload_n 3, 1) := by decide +kernel
theorem dX4_isThere_22 : decode cX4_isThere 22 = .ok (.iconst (-1), 1) := by decide +kernel
theorem dX4_isThere_23 : decode cX4_isThere 23 = .ok (.if_icmp .eq 8, 3) := by decide +kernel
theorem dX4_isThere_26 : decode cX4_isThere 26 = .ok (.iload_n 2, 1) := by decide +kernel
theorem dX4_isThere_27 : decode cX4_isThere 27 = .ok (.iload_n 3, 1) := by decide +kernel
theorem dX4_isThere_28 : decode cX4_isThere 28 = .ok (.if_icmp .gt 7, 3) := by decide +kernel
theorem dX4_isThere_31 : decode cX4_isThere 31 = .ok (.iconst 1, 1) := by decide +kernel
theorem dX4_isThere_32 : decode cX4_isThere 32 = .ok (.goto 4, 3) := by decide +kernel
theorem dX4_isThere_35 : decode cX4_isThere 35 = .ok (.iconst 0, 1) := by decide +kernel
theorem dX4_isThere_36 : decode cX4_isThere 36 = .ok (.ireturn, 1) := by decide +kernel
set_option maxRecDepth 20000 in
theorem ggX5_init_X6_init : GoodIn wsX5_init wsX6_init := goodIn_r _ [12, 13, 2, 3, 14, 15, 16] (by decide +kernel) (by decide +kernel)
set_option maxRecDepth 20000 in
theorem gX5_init_X6_init : GoodIn wsX5_init (wsX6_init) := ggX5_init_X6_init
theorem dX5_init_0 : decode cX5_init 0 = .ok (.aload_n 0, 1) := by decide +kernel
theorem dX5_init_1 : decode cX5_init 1 = .ok (.invokespecial 3, 3) := by decide +kernel
theorem dX5_init_4 : decode cX5_init 4 = .ok (.aload_n 0, 1) := by decide +kernel
theorem dX5_init_5 : decode cX5_init 5 = .ok (.new 9, 3) := by decide +kernel
theorem dX5_init_8 : decode cX5_init 8 = .ok (.dup, 1) := by decide +kernel
theorem dX5_init_9 : decode cX5_init 9 = .ok (.iconst 4, 1) := by decide +kernel
theorem dX5_init_10 : decode cX5_init 10 = .ok (.iconst 0, 1) := by decide +kernel
theorem dX5_init_11 : decode cX5_init 11 = .ok (.invokespecial 11, 3) := by decide +kernel
theorem dX5_init_14 : decode cX5_init 14 = .ok (.putfield 14, 3) := by decide +kernel
theorem dX5_init_17 : decode cX5_init 17 = .ok (.aload_n 0, 1) := by decide +kernel
theorem dX5_init_18 : decode cX5_init 18 = .ok (.new 9, 3) := by decide +kernel
theorem dX5_init_21 : decode cX5_init 21 = .ok (.dup, 1) := by decide +kernel
theorem dX5_init_22 : decode cX5_init 22 = .ok (.iconst 4, 1) := by decide +kernel
theorem dX5_init_23 : decode cX5_init 23 = .ok (.iconst 0, 1) := by decide +kernel
theorem dX5_init_24 : decode cX5_init 24 = .ok (.invokespecial 11, 3) := by decide +kernel
theorem dX5_init_27 : decode cX5_init 27 = .ok (.putfield 20, 3) := by decide +kernel
theorem dX5_init_30 : decode cX5_init 30 = .ok (.aload_n 0, 1) := by decide +kernel
theorem dX5_init_31 : decode cX5_init 31 = .ok (.iconst 0, 1) := by decide +kernel
theorem dX5_init_32 : decode cX5_init 32 = .ok (.putfield 23, 3) := by decide +kernel
theorem dX5_init_35 : decode cX5_init 35 = .ok (.return_, 1) := by decide +kernel
set_option maxRecDepth 20000 in
theorem ggX5_add_X6_put : GoodIn wsX5_add wsX6_put := goodIn_r _ [8, 9, 13] (by decide +kernel) (by decide +kernel)
set_option maxRecDepth 20000 in
theorem gX5_add_X6_put : GoodIn wsX5_add (wsV RX5 27 RX6 yX6_put wsX6_put) := goodIn_app (goodIn_of _ (by decide +kernel)) ggX5_add_X6_put
theorem dX5_add_0 : decode cX5_add 0 = .ok (.aload_n 0, 1) := by decide +kernel
theorem dX5_add_1 : decode cX5_add 1 = .ok (.getfield 23, 3) := by decide +kernel
theorem dX5_add_4 : decode cX5_add 4 = .ok (.istore_n 3, 1) := by decide +kernel
theorem dX5_add_5 : decode cX5_add 5 = .ok (.aload_n 0, 1) := by decide +kernel
theorem dX5_add_6 : decode cX5_add 6 = .ok (.getfield 14, 3) := by decide +kernel
theorem dX5_add_9 : decode cX5_add 9 = .ok (.iload_n 3, 1) := by decide +kernel
theorem dX5_add_10 : decode cX5_add 10 = .ok (.iload_n 1, 1) := by decide +kernel
theorem dX5_add_11 : decode cX5_add 11 = .ok (.invokevirtual 27, 3) := by decide +kernel
theorem dX5_add_14 : decode cX5_add 14 = .ok (.aload_n 0, 1) := by decide +kernel
theorem dX5_add_15 : decode cX5_add 15 = .ok (.getfield 20, 3) := by decide +kernel
theorem dX5_add_18 : decode cX5_add 18 = .ok (.iload_n 3, 1) := by decide +kernel
theorem dX5_add_19 : decode cX5_add 19 = .ok (.iload_n 2, 1) := by decide +kernel
theorem dX5_add_20 : decode cX5_add 20 = .ok (.invokevirtual 27, 3) := by decide +kernel
theorem dX5_add_23 : decode cX5_add 23 = .ok (.aload_n 0, 1) := by decide +kernel
theorem dX5_add_24 : decode cX5_add 24 = .ok (.dup, 1) := by decide +kernel
theorem dX5_add_25 : decode cX5_add 25 = .ok (.getfield 23, 3) := by decide +kernel
theorem dX5_add_28 : decode cX5_add 28 = .ok (.iconst 1, 1) := by decide +kernel
theorem dX5_add_29 : decode cX5_add 29 = .ok (.iadd, 1) := by decide +kernel
theorem dX5_add_30 : decode cX5_add 30 = .ok (.putfield 23, 3) := by decide +kernel
theorem dX5_add_33 : decode cX5_add 33 = .ok (.iload_n 3, 1) := by decide +kernel
theorem dX5_add_34 : decode cX5_add 34 = .ok (.ireturn, 1) := by decide +kernel
theorem dX6_init_0 : decode cX6_init 0 = .ok (.aload_n 0, 1) := by decide +kernel
theorem dX6_init_1 : decode cX6_init 1 = .ok (.invokespecial 3, 3) := by decide +kernel
theorem dX6_init_4 : decode cX6_init 4 = .ok (.aload_n 0, 1) := by decide +kernel
theorem dX6_init_5 : decode cX6_init 5 = .ok (.iload_n 1, 1) := by decide +kernel
theorem dX6_init_6 : decode cX6_init 6 = .ok (.ifCond .ge 7, 3) := by decide +kernel
theorem dX6_init_9 : decode cX6_init 9 = .ok (.iconst 0, 1) := by decide +kernel
theorem dX6_init_10 : decode cX6_init 10 = .ok (.goto 4, 3) := by decide +kernel
theorem dX6_init_13 : decode cX6_init 13 = .ok (.iload_n 1, 1) := by decide +kernel
theorem dX6_init_14 : decode cX6_init 14 = .ok (.newarray .int, 2) := by decide +kernel
theorem dX6_init_16 : decode cX6_init 16 = .ok (.putfield 9, 3) := by decide +kernel
theorem dX6_init_19 : decode cX6_init 19 = .ok (.iconst 0, 1) := by decide +kernel
theorem dX6_init_20 : decode cX6_init 20 = .ok (.istore_n 3, 1) := by decide +kernel
theorem dX6_init_21 : decode cX6_init 21 = .ok (.iload_n 3, 1) := by decide +kernel
theorem dX6_init_22 : decode cX6_init 22 = .ok (.aload_n 0, 1) := by decide +kernel
theorem dX6_init_23 : decode cX6_init 23 = .ok (.getfield 9, 3) := by decide +kernel
theorem dX6_init_26 : decode cX6_init 26 = .ok (.arraylength, 1) := by decide +kernel
theorem dX6_init_27 : decode cX6_init 27 = .ok (.if_icmp .ge 16, 3) := by decide +kernel
theorem dX6_init_30 : decode cX6_init 30 = .ok (.aload_n 0, 1) := by decide +kernel
theorem dX6_init_31 : decode cX6_init 31 = .ok (.getfield 9, 3) := by decide +kernel
theorem dX6_init_34 : decode cX6_init 34 = .ok (.iload_n 3, 1) := by decide +kernel
theorem dX6_init_35 : decode cX6_init 35 = .ok (.iload_n 2, 1) := by decide +kernel
theorem dX6_init_36 : decode cX6_init 36 = .ok (.iastore, 1) := by decide +kernel
theorem dX6_init_37 : decode cX6_init 37 = .ok (.iinc 3 1, 3) := by decide +kernel
theorem dX6_init_40 : decode cX6_init 40 = .ok (.goto (-19), 3) := by decide +kernel
theorem dX6_init_43 : decode cX6_init 43 = .ok (.return_, 1) := by decide +kernel
theorem dX6_at_0 : decode cX6_at 0 = .ok (.iload_n 1, 1) := by decide +kernel
theorem dX6_at_1 : decode cX6_at 1 = .ok (.ifCond .lt 21, 3) := by decide +kernel
theorem dX6_at_4 : decode cX6_at 4 = .ok (.iload_n 1, 1) := by decide +kernel
theorem dX6_at_5 : decode cX6_at 5 = .ok (.aload_n 0, 1) := by decide +kernel
theorem dX6_at_6 : decode cX6_at 6 = .ok (.getfield 9, 3) := by decide +kernel
theorem dX6_at_9 : decode cX6_at 9 = .ok (.arraylength, 1) := by decide +kernel
theorem dX6_at_10 : decode cX6_at 10 = .ok (.if_icmp .ge 12, 3) := by decide +kernel
theorem dX6_at_13 : decode cX6_at 13 = .ok (.aload_n 0, 1) := by decide +kernel
theorem dX6_at_14 : decode cX6_at 14 = .ok (.getfield 9, 3) := by decide +kernel
theorem dX6_at_17 : decode cX6_at 17 = .ok (.iload_n 1, 1) := by decide +kernel
theorem dX6_at_18 : decode cX6_at 18 = .ok (.iaload, 1) := by decide +kernel
theorem dX6_at_19 : decode cX6_at 19 = .ok (.goto 4, 3) := by decide +kernel
theorem dX6_at_22 : decode cX6_at 22 = .ok (.iconst (-1), 1) := by decide +kernel
theorem dX6_at_23 : decode cX6_at 23 = .ok (.ireturn, 1) := by decide +kernel
theorem dX6_put_0 : decode cX6_put 0 = .ok (.iload_n 1, 1) := by decide +kernel
theorem dX6_put_1 : decode cX6_put 1 = .ok (.ifCond .lt 19, 3) := by decide +kernel
theorem dX6_put_4 : decode cX6_put 4 = .ok (.iload_n 1, 1) := by decide +kernel
theorem dX6_put_5 : decode cX6_put 5 = .ok (.aload_n 0, 1) := by decide +kernel
theorem dX6_put_6 : decode cX6_put 6 = .ok (.getfield 9, 3) := by decide +kernel
theorem dX6_put_9 : decode cX6_put 9 = .ok (.arraylength, 1) := by decide +kernel
theorem dX6_put_10 : decode cX6_put 10 = .ok (.if_icmp .ge 10, 3) := by decide +kernel
theorem dX6_put_13 : decode cX6_put 13 = .ok (.aload_n 0, 1) := by decide +kernel
theorem dX6_put_14 : decode cX6_put 14 = .ok (.getfield 9, 3) := by decide +kernel
theorem dX6_put_17 : decode cX6_put 17 = .ok (.iload_n 1, 1) := by decide +kernel
theorem dX6_put_18 : decode cX6_put 18 = .ok (.iload_n 2, 1) := by decide +kernel
theorem dX6_put_19 : decode cX6_put 19 = .ok (.iastore, 1) := by decide +kernel
theorem dX6_put_20 : decode cX6_put 20 = .ok (.return_, 1) := by decide +kernel
theorem dJ6_bitCount_0f7a4_0 : decode cJ6_bitCount_0f7a4 0 = .ok (.iload_n 0, 1) := by decide +kernel
theorem dJ6_bitCount_0f7a4_1 : decode cJ6_bitCount_0f7a4 1 = .ok (.iload_n 0, 1) := by decide +kernel
theorem dJ6_bitCount_0f7a4_2 : decode cJ6_bitCount_0f7a4 2 = .ok (.iconst 1, 1) := by decide +kernel
theorem dJ6_bitCount_0f7a4_3 : decode cJ6_bitCount_0f7a4 3 = .ok (.iushr, 1) := by decide +kernel
theorem dJ6_bitCount_0f7a4_4 : decode cJ6_bitCount_0f7a4 4 = .ok (.ldc_w 265, 3) := by decide +kernel
theorem dJ6_bitCount_0f7a4_7 : decode cJ6_bitCount_0f7a4 7 = .ok (.iand, 1) := by decide +kernel
theorem dJ6_bitCount_0f7a4_8 : decode cJ6_bitCount_0f7a4 8 = .ok (.isub, 1) := by decide +kernel
theorem dJ6_bitCount_0f7a4_9 : decode cJ6_bitCount_0f7a4 9 = .ok (.istore_n 0, 1) := by decide +kernel
theorem dJ6_bitCount_0f7a4_10 : decode cJ6_bitCount_0f7a4 10 = .ok (.iload_n 0, 1) := by decide +kernel
theorem dJ6_bitCount_0f7a4_11 : decode cJ6_bitCount_0f7a4 11 = .ok (.ldc_w 266, 3) := by decide +kernel
theorem dJ6_bitCount_0f7a4_14 : decode cJ6_bitCount_0f7a4 14 = .ok (.iand, 1) := by decide +kernel
theorem dJ6_bitCount_0f7a4_15 : decode cJ6_bitCount_0f7a4 15 = .ok (.iload_n 0, 1) := by decide +kernel
theorem dJ6_bitCount_0f7a4_16 : decode cJ6_bitCount_0f7a4 16 = .ok (.iconst 2, 1) := by decide +kernel
theorem dJ6_bitCount_0f7a4_17 : decode cJ6_bitCount_0f7a4 17 = .ok (.iushr, 1) := by decide +kernel
theorem dJ6_bitCount_0f7a4_18 : decode cJ6_bitCount_0f7a4 18 = .ok (.ldc_w 266, 3) := by decide +kernel
theorem dJ6_bitCount_0f7a4_21 : decode cJ6_bitCount_0f7a4 21 = .ok (.iand, 1) := by decide +kernel
theorem dJ6_bitCount_0f7a4_22 : decode cJ6_bitCount_0f7a4 22 = .ok (.iadd, 1) := by decide +kernel
theorem dJ6_bitCount_0f7a4_23 : decode cJ6_bitCount_0f7a4 23 = .ok (.istore_n 0, 1) := by decide +kernel
theorem dJ6_bitCount_0f7a4_24 : decode cJ6_bitCount_0f7a4 24 = .ok (.iload_n 0, 1) := by decide +kernel
theorem dJ6_bitCount_0f7a4_25 : decode cJ6_bitCount_0f7a4 25 = .ok (.iload_n 0, 1) := by decide +kernel
theorem dJ6_bitCount_0f7a4_26 : decode cJ6_bitCount_0f7a4 26 = .ok (.iconst 4, 1) := by decide +kernel
theorem dJ6_bitCount_0f7a4_27 : decode cJ6_bitCount_0f7a4 27 = .ok (.iushr, 1) := by decide +kernel
theorem dJ6_bitCount_0f7a4_28 : decode cJ6_bitCount_0f7a4 28 = .ok (.iadd, 1) := by decide +kernel
theorem dJ6_bitCount_0f7a4_29 : decode cJ6_bitCount_0f7a4 29 = .ok (.ldc_w 267, 3) := by decide +kernel
theorem dJ6_bitCount_0f7a4_32 : decode cJ6_bitCount_0f7a4 32 = .ok (.iand, 1) := by decide +kernel
theorem dJ6_bitCount_0f7a4_33 : decode cJ6_bitCount_0f7a4 33 = .ok (.istore_n 0, 1) := by decide +kernel
theorem dJ6_bitCount_0f7a4_34 : decode cJ6_bitCount_0f7a4 34 = .ok (.iload_n 0, 1) := by decide +kernel
theorem dJ6_bitCount_0f7a4_35 : decode cJ6_bitCount_0f7a4 35 = .ok (.iload_n 0, 1) := by decide +kernel
theorem dJ6_bitCount_0f7a4_36 : decode cJ6_bitCount_0f7a4 36 = .ok (.bipush 8, 2) := by decide +kernel
theorem dJ6_bitCount_0f7a4_38 : decode cJ6_bitCount_0f7a4 38 = .ok (.iushr, 1) := by decide +kernel
theorem dJ6_bitCount_0f7a4_39 : decode cJ6_bitCount_0f7a4 39 = .ok (.iadd, 1) := by decide +kernel
theorem dJ6_bitCount_0f7a4_40 : decode cJ6_bitCount_0f7a4 40 = .ok (.istore_n 0, 1) := by decide +kernel
theorem dJ6_bitCount_0f7a4_41 : decode cJ6_bitCount_0f7a4 41 = .ok (.iload_n 0, 1) := by decide +kernel
theorem dJ6_bitCount_0f7a4_42 : decode cJ6_bitCount_0f7a4 42 = .ok (.iload_n 0, 1) := by decide +kernel
theorem dJ6_bitCount_0f7a4_43 : decode cJ6_bitCount_0f7a4 43 = .ok (.bipush 16, 2) := by decide +kernel
theorem dJ6_bitCount_0f7a4_45 : decode cJ6_bitCount_0f7a4 45 = .ok (.iushr, 1) := by decide +kernel
theorem dJ6_bitCount_0f7a4_46 : decode cJ6_bitCount_0f7a4 46 = .ok (.iadd, 1) := by decide +kernel
theorem dJ6_bitCount_0f7a4_47 : decode cJ6_bitCount_0f7a4 47 = .ok (.istore_n 0, 1) := by decide +kernel
theorem dJ6_bitCount_0f7a4_48 : decode cJ6_bitCount_0f7a4 48 = .ok (.iload_n 0, 1) := by decide +kernel
theorem dJ6_bitCount_0f7a4_49 : decode cJ6_bitCount_0f7a4 49 = .ok (.bipush 63, 2) := by decide +kernel
theorem dJ6_bitCount_0f7a4_51 : decode cJ6_bitCount_0f7a4 51 = .ok (.iand, 1) := by decide +kernel
theorem dJ6_bitCount_0f7a4_52 : decode cJ6_bitCount_0f7a4 52 = .ok (.ireturn, 1) := by decide +kernel
theorem dJ9_abs_0f7a4_0 : decode cJ9_abs_0f7a4 0 = .ok (.iload_n 0, 1) := by decide +kernel
theorem dJ9_abs_0f7a4_1 : decode cJ9_abs_0f7a4 1 = .ok (.ifCond .ge 8, 3) := by decide +kernel
theorem dJ9_abs_0f7a4_4 : decode cJ9_abs_0f7a4 4 = .ok (.iload_n 0, 1) := by decide +kernel
theorem dJ9_abs_0f7a4_5 : decode cJ9_abs_0f7a4 5 = .ok (.ineg, 1) := by decide +kernel
theorem dJ9_abs_0f7a4_6 : decode cJ9_abs_0f7a4 6 = .ok (.goto 4, 3) := by decide +kernel
theorem dJ9_abs_0f7a4_9 : decode cJ9_abs_0f7a4 9 = .ok (.iload_n 0, 1) := by decide +kernel
theorem dJ9_abs_0f7a4_10 : decode cJ9_abs_0f7a4 10 = .ok (.ireturn, 1) := by decide +kernel
theorem dJ9_max_7cf53_0 : decode cJ9_max_7cf53 0 = .ok (.iload_n 0, 1) := by decide +kernel
theorem dJ9_max_7cf53_1 : decode cJ9_max_7cf53 1 = .ok (.iload_n 1, 1) := by decide +kernel
theorem dJ9_max_7cf53_2 : decode cJ9_max_7cf53 2 = .ok (.if_icmp .lt 7, 3) := by decide +kernel
theorem dJ9_max_7cf53_5 : decode cJ9_max_7cf53 5 = .ok (.iload_n 0, 1) := by decide +kernel
theorem dJ9_max_7cf53_6 : decode cJ9_max_7cf53 6 = .ok (.goto 4, 3) := by decide +kernel
theorem dJ9_max_7cf53_9 : decode cJ9_max_7cf53 9 = .ok (.iload_n 1, 1) := by decide +kernel
theorem dJ9_max_7cf53_10 : decode cJ9_max_7cf53 10 = .ok (.ireturn, 1) := by decide +kernel
theorem dJ9_min_7cf53_0 : decode cJ9_min_7cf53 0 = .ok (.iload_n 0, 1) := by decide +kernel
theorem dJ9_min_7cf53_1 : decode cJ9_min_7cf53 1 = .ok (.iload_n 1, 1) := by decide +kernel
theorem dJ9_min_7cf53_2 : decode cJ9_min_7cf53 2 = .ok (.if_icmp .gt 7, 3) := by decide +kernel
theorem dJ9_min_7cf53_5 : decode cJ9_min_7cf53 5 = .ok (.iload_n 0, 1) := by decide +kernel
theorem dJ9_min_7cf53_6 : decode cJ9_min_7cf53 6 = .ok (.goto 4, 3) := by decide +kernel
theorem dJ9_min_7cf53_9 : decode cJ9_min_7cf53 9 = .ok (.iload_n 1, 1) := by decide +kernel
theorem dJ9_min_7cf53_10 : decode cJ9_min_7cf53 10 = .ok (.ireturn, 1) := by decide +kernel
