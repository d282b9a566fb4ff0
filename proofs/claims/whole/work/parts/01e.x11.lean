theorem dX11_isIn_0 : decode cX11_isIn 0 = .ok (.iload_n 0, 1) := by decide +kernel
theorem dX11_isIn_1 : decode cX11_isIn 1 = .ok (.iload_n 1, 1) := by decide +kernel
theorem dX11_isIn_2 : decode cX11_isIn 2 = .ok (.if_icmp .lt 12, 3) := by decide +kernel
theorem dX11_isIn_5 : decode cX11_isIn 5 = .ok (.iload_n 0, 1) := by decide +kernel
theorem dX11_isIn_6 : decode cX11_isIn 6 = .ok (.iload_n 2, 1) := by decide +kernel
theorem dX11_isIn_7 : decode cX11_isIn 7 = .ok (.if_icmp .gt 7, 3) := by decide +kernel
theorem dX11_isIn_10 : decode cX11_isIn 10 = .ok (.iconst 1, 1) := by decide +kernel
theorem dX11_isIn_11 : decode cX11_isIn 11 = .ok (.goto 4, 3) := by decide +kernel
theorem dX11_isIn_14 : decode cX11_isIn 14 = .ok (.iconst 0, 1) := by decide +kernel
theorem dX11_isIn_15 : decode cX11_isIn 15 = .ok (.ireturn, 1) := by decide +kernel
set_option maxRecDepth 20000 in
theorem ggX11_init_Jx4a65c_init_da8c8 : GoodIn wsX11_init wsJx4a65c_init_da8c8 := goodIn_r _ [17, 18, 19, 20, 21, 22, 23, 24, 25, 26, 27, 28, 29, 2, 3, 30, 31, 32] (by decide +kernel) (by decide +kernel)
set_option maxRecDepth 20000 in
theorem gX11_init_Jx4a65c_init_da8c8 : GoodIn wsX11_init (wsJx4a65c_init_da8c8) := ggX11_init_Jx4a65c_init_da8c8
theorem dX11_init_0 : decode cX11_init 0 = .ok (.aload_n 0, 1) := by decide +kernel
theorem dX11_init_1 : decode cX11_init 1 = .ok (.invokespecial 1, 3) := by decide +kernel
theorem dX11_init_4 : decode cX11_init 4 = .ok (.aload_n 0, 1) := by decide +kernel
theorem dX11_init_5 : decode cX11_init 5 = .ok (.new 7, 3) := by decide +kernel
theorem dX11_init_8 : decode cX11_init 8 = .ok (.dup, 1) := by decide +kernel
theorem dX11_init_9 : decode cX11_init 9 = .ok (.invokespecial 9, 3) := by decide +kernel
theorem dX11_init_12 : decode cX11_init 12 = .ok (.putfield 10, 3) := by decide +kernel
theorem dX11_init_15 : decode cX11_init 15 = .ok (.aload_n 0, 1) := by decide +kernel
theorem dX11_init_16 : decode cX11_init 16 = .ok (.iconst 3, 1) := by decide +kernel
theorem dX11_init_17 : decode cX11_init 17 = .ok (.newarray .int, 2) := by decide +kernel
theorem dX11_init_19 : decode cX11_init 19 = .ok (.dup, 1) := by decide +kernel
theorem dX11_init_20 : decode cX11_init 20 = .ok (.iconst 0, 1) := by decide +kernel
theorem dX11_init_21 : decode cX11_init 21 = .ok (.iconst 0, 1) := by decide +kernel
theorem dX11_init_22 : decode cX11_init 22 = .ok (.iastore, 1) := by decide +kernel
theorem dX11_init_23 : decode cX11_init 23 = .ok (.dup, 1) := by decide +kernel
theorem dX11_init_24 : decode cX11_init 24 = .ok (.iconst 1, 1) := by decide +kernel
theorem dX11_init_25 : decode cX11_init 25 = .ok (.iconst 1, 1) := by decide +kernel
theorem dX11_init_26 : decode cX11_init 26 = .ok (.iastore, 1) := by decide +kernel
theorem dX11_init_27 : decode cX11_init 27 = .ok (.dup, 1) := by decide +kernel
theorem dX11_init_28 : decode cX11_init 28 = .ok (.iconst 2, 1) := by decide +kernel
theorem dX11_init_29 : decode cX11_init 29 = .ok (.iconst 2, 1) := by decide +kernel
theorem dX11_init_30 : decode cX11_init 30 = .ok (.iastore, 1) := by decide +kernel
theorem dX11_init_31 : decode cX11_init 31 = .ok (.putfield 16, 3) := by decide +kernel
theorem dX11_init_34 : decode cX11_init 34 = .ok (.aload_n 0, 1) := by decide +kernel
theorem dX11_init_35 : decode cX11_init 35 = .ok (.iconst 3, 1) := by decide +kernel
theorem dX11_init_36 : decode cX11_init 36 = .ok (.newarray .int, 2) := by decide +kernel
theorem dX11_init_38 : decode cX11_init 38 = .ok (.dup, 1) := by decide +kernel
theorem dX11_init_39 : decode cX11_init 39 = .ok (.iconst 0, 1) := by decide +kernel
theorem dX11_init_40 : decode cX11_init 40 = .ok (.bipush 27, 2) := by decide +kernel
theorem dX11_init_42 : decode cX11_init 42 = .ok (.iastore, 1) := by decide +kernel
theorem dX11_init_43 : decode cX11_init 43 = .ok (.dup, 1) := by decide +kernel
theorem dX11_init_44 : decode cX11_init 44 = .ok (.iconst 1, 1) := by decide +kernel
theorem dX11_init_45 : decode cX11_init 45 = .ok (.bipush 27, 2) := by decide +kernel
theorem dX11_init_47 : decode cX11_init 47 = .ok (.iastore, 1) := by decide +kernel
theorem dX11_init_48 : decode cX11_init 48 = .ok (.dup, 1) := by decide +kernel
theorem dX11_init_49 : decode cX11_init 49 = .ok (.iconst 2, 1) := by decide +kernel
theorem dX11_init_50 : decode cX11_init 50 = .ok (.bipush 27, 2) := by decide +kernel
theorem dX11_init_52 : decode cX11_init 52 = .ok (.iastore, 1) := by decide +kernel
theorem dX11_init_53 : decode cX11_init 53 = .ok (.putfield 20, 3) := by decide +kernel
theorem dX11_init_56 : decode cX11_init 56 = .ok (.aload_n 0, 1) := by decide +kernel
theorem dX11_init_57 : decode cX11_init 57 = .ok (.new 7, 3) := by decide +kernel
theorem dX11_init_60 : decode cX11_init 60 = .ok (.dup, 1) := by decide +kernel
theorem dX11_init_61 : decode cX11_init 61 = .ok (.invokespecial 9, 3) := by decide +kernel
theorem dX11_init_64 : decode cX11_init 64 = .ok (.putfield 23, 3) := by decide +kernel
theorem dX11_init_67 : decode cX11_init 67 = .ok (.aload_n 0, 1) := by decide +kernel
theorem dX11_init_68 : decode cX11_init 68 = .ok (.new 7, 3) := by decide +kernel
theorem dX11_init_71 : decode cX11_init 71 = .ok (.dup, 1) := by decide +kernel
theorem dX11_init_72 : decode cX11_init 72 = .ok (.invokespecial 9, 3) := by decide +kernel
theorem dX11_init_75 : decode cX11_init 75 = .ok (.putfield 26, 3) := by decide +kernel
theorem dX11_init_78 : decode cX11_init 78 = .ok (.aload_n 0, 1) := by decide +kernel
theorem dX11_init_79 : decode cX11_init 79 = .ok (.iconst 4, 1) := by decide +kernel
theorem dX11_init_80 : decode cX11_init 80 = .ok (.newarray .int, 2) := by decide +kernel
theorem dX11_init_82 : decode cX11_init 82 = .ok (.dup, 1) := by decide +kernel
theorem dX11_init_83 : decode cX11_init 83 = .ok (.iconst 0, 1) := by decide +kernel
theorem dX11_init_84 : decode cX11_init 84 = .ok (.iconst (-1), 1) := by decide +kernel
theorem dX11_init_85 : decode cX11_init 85 = .ok (.iastore, 1) := by decide +kernel
theorem dX11_init_86 : decode cX11_init 86 = .ok (.dup, 1) := by decide +kernel
theorem dX11_init_87 : decode cX11_init 87 = .ok (.iconst 1, 1) := by decide +kernel
theorem dX11_init_88 : decode cX11_init 88 = .ok (.iconst (-1), 1) := by decide +kernel
theorem dX11_init_89 : decode cX11_init 89 = .ok (.iastore, 1) := by decide +kernel
theorem dX11_init_90 : decode cX11_init 90 = .ok (.dup, 1) := by decide +kernel
theorem dX11_init_91 : decode cX11_init 91 = .ok (.iconst 2, 1) := by decide +kernel
theorem dX11_init_92 : decode cX11_init 92 = .ok (.iconst (-1), 1) := by decide +kernel
theorem dX11_init_93 : decode cX11_init 93 = .ok (.iastore, 1) := by decide +kernel
theorem dX11_init_94 : decode cX11_init 94 = .ok (.dup, 1) := by decide +kernel
theorem dX11_init_95 : decode cX11_init 95 = .ok (.iconst 3, 1) := by decide +kernel
theorem dX11_init_96 : decode cX11_init 96 = .ok (.iconst (-1), 1) := by decide +kernel
theorem dX11_init_97 : decode cX11_init 97 = .ok (.iastore, 1) := by decide +kernel
theorem dX11_init_98 : decode cX11_init 98 = .ok (.putfield 29, 3) := by decide +kernel
theorem dX11_init_101 : decode cX11_init 101 = .ok (.aload_n 0, 1) := by decide +kernel
theorem dX11_init_102 : decode cX11_init 102 = .ok (.iconst 4, 1) := by decide +kernel
theorem dX11_init_103 : decode cX11_init 103 = .ok (.newarray .int, 2) := by decide +kernel
theorem dX11_init_105 : decode cX11_init 105 = .ok (.putfield 32, 3) := by decide +kernel
theorem dX11_init_108 : decode cX11_init 108 = .ok (.return_, 1) := by decide +kernel
theorem dX11_thrown_0 : decode cX11_thrown 0 = .ok (.aload_n 0, 1) := by decide +kernel
theorem dX11_thrown_1 : decode cX11_thrown 1 = .ok (.getfield 35, 3) := by decide +kernel
theorem dX11_thrown_4 : decode cX11_thrown 4 = .ok (.ireturn, 1) := by decide +kernel
theorem dX11_refuse_0 : decode cX11_refuse 0 = .ok (.iload_n 1, 1) := by decide +kernel
theorem dX11_refuse_1 : decode cX11_refuse 1 = .ok (.ifCond .eq 15, 3) := by decide +kernel
theorem dX11_refuse_4 : decode cX11_refuse 4 = .ok (.aload_n 0, 1) := by decide +kernel
theorem dX11_refuse_5 : decode cX11_refuse 5 = .ok (.getfield 35, 3) := by decide +kernel
theorem dX11_refuse_8 : decode cX11_refuse 8 = .ok (.ifCond .ne 8, 3) := by decide +kernel
theorem dX11_refuse_11 : decode cX11_refuse 11 = .ok (.aload_n 0, 1) := by decide +kernel
theorem dX11_refuse_12 : decode cX11_refuse 12 = .ok (.iload_n 2, 1) := by decide +kernel
theorem dX11_refuse_13 : decode cX11_refuse 13 = .ok (.putfield 35, 3) := by decide +kernel
theorem dX11_refuse_16 : decode cX11_refuse 16 = .ok (.aload_n 0, 1) := by decide +kernel
theorem dX11_refuse_17 : decode cX11_refuse 17 = .ok (.getfield 35, 3) := by decide +kernel
theorem dX11_refuse_20 : decode cX11_refuse 20 = .ok (.ifCond .le 7, 3) := by decide +kernel
theorem dX11_refuse_23 : decode cX11_refuse 23 = .ok (.iconst 1, 1) := by decide +kernel
theorem dX11_refuse_24 : decode cX11_refuse 24 = .ok (.goto 4, 3) := by decide +kernel
theorem dX11_refuse_27 : decode cX11_refuse 27 = .ok (.iconst 0, 1) := by decide +kernel
theorem dX11_refuse_28 : decode cX11_refuse 28 = .ok (.ireturn, 1) := by decide +kernel
set_option maxRecDepth 20000 in
theorem ggX11_start_X11_refuse : GoodIn wsX11_start wsX11_refuse := goodIn_r _ [6, 1, 7, 8, 9, 10, 11, 12, 13, 14, 15, 16, 17] (by decide +kernel) (by decide +kernel)
set_option maxRecDepth 20000 in
theorem gX11_start_X11_refuse : GoodIn wsX11_start (wsV RX11 39 RX11 yX11_refuse wsX11_refuse) := goodIn_app (goodIn_of _ (by decide +kernel)) ggX11_start_X11_refuse
theorem dX11_start_0 : decode cX11_start 0 = .ok (.aload_n 0, 1) := by decide +kernel
theorem dX11_start_1 : decode cX11_start 1 = .ok (.iconst 0, 1) := by decide +kernel
theorem dX11_start_2 : decode cX11_start 2 = .ok (.putfield 35, 3) := by decide +kernel
theorem dX11_start_5 : decode cX11_start 5 = .ok (.aload_n 0, 1) := by decide +kernel
theorem dX11_start_6 : decode cX11_start 6 = .ok (.iload_n 1, 1) := by decide +kernel
theorem dX11_start_7 : decode cX11_start 7 = .ok (.iload_n 2, 1) := by decide +kernel
theorem dX11_start_8 : decode cX11_start 8 = .ok (.invokevirtual 39, 3) := by decide +kernel
theorem dX11_start_11 : decode cX11_start 11 = .ok (.ireturn, 1) := by decide +kernel
set_option maxRecDepth 20000 in
theorem ggX11_isNoObstacle_Jx4a65c_size_8abf5 : GoodIn wsX11_isNoObstacle wsJx4a65c_size_8abf5 := goodIn_r _ [6, 7, 23, 24, 25] (by decide +kernel) (by decide +kernel)
set_option maxRecDepth 20000 in
theorem gX11_isNoObstacle_Jx4a65c_size_8abf5 : GoodIn wsX11_isNoObstacle (wsV RX11 43 RJx4a65c yJx4a65c_size_8abf5 wsJx4a65c_size_8abf5) := goodIn_app (goodIn_of _ (by decide +kernel)) ggX11_isNoObstacle_Jx4a65c_size_8abf5
set_option maxRecDepth 20000 in
theorem ggX11_isNoObstacle_X11_isIn : GoodIn wsX11_isNoObstacle wsX11_isIn := goodIn_r _ [11] (by decide +kernel) (by decide +kernel)
set_option maxRecDepth 20000 in
theorem gX11_isNoObstacle_X11_isIn : GoodIn wsX11_isNoObstacle (va_wsS RX11 47 yX11_isIn wsX11_isIn) := goodIn_app (goodIn_of _ (by decide +kernel)) ggX11_isNoObstacle_X11_isIn
theorem dX11_isNoObstacle_0 : decode cX11_isNoObstacle 0 = .ok (.iload_n 1, 1) := by decide +kernel
theorem dX11_isNoObstacle_1 : decode cX11_isNoObstacle 1 = .ok (.iconst 0, 1) := by decide +kernel
theorem dX11_isNoObstacle_2 : decode cX11_isNoObstacle 2 = .ok (.aload_n 0, 1) := by decide +kernel
theorem dX11_isNoObstacle_3 : decode cX11_isNoObstacle 3 = .ok (.getfield 10, 3) := by decide +kernel
theorem dX11_isNoObstacle_6 : decode cX11_isNoObstacle 6 = .ok (.invokevirtual 43, 3) := by decide +kernel
theorem dX11_isNoObstacle_9 : decode cX11_isNoObstacle 9 = .ok (.iconst 1, 1) := by decide +kernel
theorem dX11_isNoObstacle_10 : decode cX11_isNoObstacle 10 = .ok (.isub, 1) := by decide +kernel
theorem dX11_isNoObstacle_11 : decode cX11_isNoObstacle 11 = .ok (.invokestatic 47, 3) := by decide +kernel
theorem dX11_isNoObstacle_14 : decode cX11_isNoObstacle 14 = .ok (.ifCond .ne 7, 3) := by decide +kernel
theorem dX11_isNoObstacle_17 : decode cX11_isNoObstacle 17 = .ok (.iconst 1, 1) := by decide +kernel
theorem dX11_isNoObstacle_18 : decode cX11_isNoObstacle 18 = .ok (.goto 4, 3) := by decide +kernel
theorem dX11_isNoObstacle_21 : decode cX11_isNoObstacle 21 = .ok (.iconst 0, 1) := by decide +kernel
theorem dX11_isNoObstacle_22 : decode cX11_isNoObstacle 22 = .ok (.ireturn, 1) := by decide +kernel
set_option maxRecDepth 20000 in
theorem ggX11_isNoProcedure_Jx4a65c_size_8abf5 : GoodIn wsX11_isNoProcedure wsJx4a65c_size_8abf5 := goodIn_r _ [6, 7, 23, 24, 25] (by decide +kernel) (by decide +kernel)
set_option maxRecDepth 20000 in
theorem gX11_isNoProcedure_Jx4a65c_size_8abf5 : GoodIn wsX11_isNoProcedure (wsV RX11 43 RJx4a65c yJx4a65c_size_8abf5 wsJx4a65c_size_8abf5) := goodIn_app (goodIn_of _ (by decide +kernel)) ggX11_isNoProcedure_Jx4a65c_size_8abf5
set_option maxRecDepth 20000 in
theorem ggX11_isNoProcedure_X11_isIn : GoodIn wsX11_isNoProcedure wsX11_isIn := goodIn_r _ [11] (by decide +kernel) (by decide +kernel)
set_option maxRecDepth 20000 in
theorem gX11_isNoProcedure_X11_isIn : GoodIn wsX11_isNoProcedure (va_wsS RX11 47 yX11_isIn wsX11_isIn) := goodIn_app (goodIn_of _ (by decide +kernel)) ggX11_isNoProcedure_X11_isIn
theorem dX11_isNoProcedure_0 : decode cX11_isNoProcedure 0 = .ok (.iload_n 1, 1) := by decide +kernel
theorem dX11_isNoProcedure_1 : decode cX11_isNoProcedure 1 = .ok (.iconst 0, 1) := by decide +kernel
theorem dX11_isNoProcedure_2 : decode cX11_isNoProcedure 2 = .ok (.aload_n 0, 1) := by decide +kernel
theorem dX11_isNoProcedure_3 : decode cX11_isNoProcedure 3 = .ok (.getfield 23, 3) := by decide +kernel
theorem dX11_isNoProcedure_6 : decode cX11_isNoProcedure 6 = .ok (.invokevirtual 43, 3) := by decide +kernel
theorem dX11_isNoProcedure_9 : decode cX11_isNoProcedure 9 = .ok (.iconst 1, 1) := by decide +kernel
theorem dX11_isNoProcedure_10 : decode cX11_isNoProcedure 10 = .ok (.isub, 1) := by decide +kernel
theorem dX11_isNoProcedure_11 : decode cX11_isNoProcedure 11 = .ok (.invokestatic 47, 3) := by decide +kernel
theorem dX11_isNoProcedure_14 : decode cX11_isNoProcedure 14 = .ok (.ifCond .ne 7, 3) := by decide +kernel
theorem dX11_isNoProcedure_17 : decode cX11_isNoProcedure 17 = .ok (.iconst 1, 1) := by decide +kernel
theorem dX11_isNoProcedure_18 : decode cX11_isNoProcedure 18 = .ok (.goto 4, 3) := by decide +kernel
theorem dX11_isNoProcedure_21 : decode cX11_isNoProcedure 21 = .ok (.iconst 0, 1) := by decide +kernel
theorem dX11_isNoProcedure_22 : decode cX11_isNoProcedure 22 = .ok (.ireturn, 1) := by decide +kernel
set_option maxRecDepth 20000 in
theorem ggX11_isNoAid_X11_isIn : GoodIn wsX11_isNoAid wsX11_isIn := goodIn_r _ [4] (by decide +kernel) (by decide +kernel)
set_option maxRecDepth 20000 in
theorem gX11_isNoAid_X11_isIn : GoodIn wsX11_isNoAid (va_wsS RX11 47 yX11_isIn wsX11_isIn) := goodIn_app (goodIn_of _ (by decide +kernel)) ggX11_isNoAid_X11_isIn
theorem dX11_isNoAid_0 : decode cX11_isNoAid 0 = .ok (.iload_n 0, 1) := by decide +kernel
theorem dX11_isNoAid_1 : decode cX11_isNoAid 1 = .ok (.iconst 0, 1) := by decide +kernel
theorem dX11_isNoAid_2 : decode cX11_isNoAid 2 = .ok (.iconst 2, 1) := by decide +kernel
theorem dX11_isNoAid_3 : decode cX11_isNoAid 3 = .ok (.invokestatic 47, 3) := by decide +kernel
theorem dX11_isNoAid_6 : decode cX11_isNoAid 6 = .ok (.ifCond .ne 7, 3) := by decide +kernel
theorem dX11_isNoAid_9 : decode cX11_isNoAid 9 = .ok (.iconst 1, 1) := by decide +kernel
theorem dX11_isNoAid_10 : decode cX11_isNoAid 10 = .ok (.goto 4, 3) := by decide +kernel
theorem dX11_isNoAid_13 : decode cX11_isNoAid 13 = .ok (.iconst 0, 1) := by decide +kernel
theorem dX11_isNoAid_14 : decode cX11_isNoAid 14 = .ok (.ireturn, 1) := by decide +kernel
set_option maxRecDepth 20000 in
theorem ggX11_isNoCrew_X11_isIn : GoodIn wsX11_isNoCrew wsX11_isIn := goodIn_r _ [4] (by decide +kernel) (by decide +kernel)
set_option maxRecDepth 20000 in
theorem gX11_isNoCrew_X11_isIn : GoodIn wsX11_isNoCrew (va_wsS RX11 47 yX11_isIn wsX11_isIn) := goodIn_app (goodIn_of _ (by decide +kernel)) ggX11_isNoCrew_X11_isIn
theorem dX11_isNoCrew_0 : decode cX11_isNoCrew 0 = .ok (.iload_n 0, 1) := by decide +kernel
theorem dX11_isNoCrew_1 : decode cX11_isNoCrew 1 = .ok (.iconst 0, 1) := by decide +kernel
theorem dX11_isNoCrew_2 : decode cX11_isNoCrew 2 = .ok (.iconst 3, 1) := by decide +kernel
theorem dX11_isNoCrew_3 : decode cX11_isNoCrew 3 = .ok (.invokestatic 47, 3) := by decide +kernel
theorem dX11_isNoCrew_6 : decode cX11_isNoCrew 6 = .ok (.ifCond .ne 7, 3) := by decide +kernel
theorem dX11_isNoCrew_9 : decode cX11_isNoCrew 9 = .ok (.iconst 1, 1) := by decide +kernel
theorem dX11_isNoCrew_10 : decode cX11_isNoCrew 10 = .ok (.goto 4, 3) := by decide +kernel
theorem dX11_isNoCrew_13 : decode cX11_isNoCrew 13 = .ok (.iconst 0, 1) := by decide +kernel
theorem dX11_isNoCrew_14 : decode cX11_isNoCrew 14 = .ok (.ireturn, 1) := by decide +kernel
set_option maxRecDepth 20000 in
theorem ggX11_isNoDay_X11_isIn : GoodIn wsX11_isNoDay wsX11_isIn := goodIn_r _ [4] (by decide +kernel) (by decide +kernel)
set_option maxRecDepth 20000 in
theorem gX11_isNoDay_X11_isIn : GoodIn wsX11_isNoDay (va_wsS RX11 47 yX11_isIn wsX11_isIn) := goodIn_app (goodIn_of _ (by decide +kernel)) ggX11_isNoDay_X11_isIn
theorem dX11_isNoDay_0 : decode cX11_isNoDay 0 = .ok (.iload_n 0, 1) := by decide +kernel
theorem dX11_isNoDay_1 : decode cX11_isNoDay 1 = .ok (.iconst 0, 1) := by decide +kernel
theorem dX11_isNoDay_2 : decode cX11_isNoDay 2 = .ok (.sipush 399, 3) := by decide +kernel
theorem dX11_isNoDay_5 : decode cX11_isNoDay 5 = .ok (.invokestatic 47, 3) := by decide +kernel
theorem dX11_isNoDay_8 : decode cX11_isNoDay 8 = .ok (.ifCond .ne 7, 3) := by decide +kernel
theorem dX11_isNoDay_11 : decode cX11_isNoDay 11 = .ok (.iconst 1, 1) := by decide +kernel
theorem dX11_isNoDay_12 : decode cX11_isNoDay 12 = .ok (.goto 4, 3) := by decide +kernel
theorem dX11_isNoDay_15 : decode cX11_isNoDay 15 = .ok (.iconst 0, 1) := by decide +kernel
theorem dX11_isNoDay_16 : decode cX11_isNoDay 16 = .ok (.ireturn, 1) := by decide +kernel
set_option maxRecDepth 20000 in
theorem ggX11_isNoCategory_X11_isIn : GoodIn wsX11_isNoCategory wsX11_isIn := goodIn_r _ [4] (by decide +kernel) (by decide +kernel)
set_option maxRecDepth 20000 in
theorem gX11_isNoCategory_X11_isIn : GoodIn wsX11_isNoCategory (va_wsS RX11 47 yX11_isIn wsX11_isIn) := goodIn_app (goodIn_of _ (by decide +kernel)) ggX11_isNoCategory_X11_isIn
theorem dX11_isNoCategory_0 : decode cX11_isNoCategory 0 = .ok (.iload_n 0, 1) := by decide +kernel
theorem dX11_isNoCategory_1 : decode cX11_isNoCategory 1 = .ok (.iconst 0, 1) := by decide +kernel
theorem dX11_isNoCategory_2 : decode cX11_isNoCategory 2 = .ok (.iconst 3, 1) := by decide +kernel
theorem dX11_isNoCategory_3 : decode cX11_isNoCategory 3 = .ok (.invokestatic 47, 3) := by decide +kernel
theorem dX11_isNoCategory_6 : decode cX11_isNoCategory 6 = .ok (.ifCond .ne 7, 3) := by decide +kernel
theorem dX11_isNoCategory_9 : decode cX11_isNoCategory 9 = .ok (.iconst 1, 1) := by decide +kernel
theorem dX11_isNoCategory_10 : decode cX11_isNoCategory 10 = .ok (.goto 4, 3) := by decide +kernel
theorem dX11_isNoCategory_13 : decode cX11_isNoCategory 13 = .ok (.iconst 0, 1) := by decide +kernel
theorem dX11_isNoCategory_14 : decode cX11_isNoCategory 14 = .ok (.ireturn, 1) := by decide +kernel
set_option maxRecDepth 20000 in
theorem ggX11_isNoPlace_X11_isIn : GoodIn wsX11_isNoPlace wsX11_isIn := goodIn_r _ [4] (by decide +kernel) (by decide +kernel)
set_option maxRecDepth 20000 in
theorem gX11_isNoPlace_X11_isIn : GoodIn wsX11_isNoPlace (va_wsS RX11 47 yX11_isIn wsX11_isIn) := goodIn_app (goodIn_of _ (by decide +kernel)) ggX11_isNoPlace_X11_isIn
set_option maxRecDepth 20000 in
theorem ggX11_isNoPlace_X11_isNoDay : GoodIn wsX11_isNoPlace wsX11_isNoDay := goodIn_r _ [7, 1, 2, 3, 4] (by decide +kernel) (by decide +kernel)
set_option maxRecDepth 20000 in
theorem gX11_isNoPlace_X11_isNoDay : GoodIn wsX11_isNoPlace (va_wsS RX11 51 yX11_isNoDay wsX11_isNoDay) := goodIn_app (goodIn_of _ (by decide +kernel)) ggX11_isNoPlace_X11_isNoDay
theorem dX11_isNoPlace_0 : decode cX11_isNoPlace 0 = .ok (.iload_n 0, 1) := by decide +kernel
theorem dX11_isNoPlace_1 : decode cX11_isNoPlace 1 = .ok (.bipush (-20), 2) := by decide +kernel
theorem dX11_isNoPlace_3 : decode cX11_isNoPlace 3 = .ok (.bipush 60, 2) := by decide +kernel
theorem dX11_isNoPlace_5 : decode cX11_isNoPlace 5 = .ok (.invokestatic 47, 3) := by decide +kernel
theorem dX11_isNoPlace_8 : decode cX11_isNoPlace 8 = .ok (.ifCond .eq 37, 3) := by decide +kernel
theorem dX11_isNoPlace_11 : decode cX11_isNoPlace 11 = .ok (.iload_n 1, 1) := by decide +kernel
theorem dX11_isNoPlace_12 : decode cX11_isNoPlace 12 = .ok (.bipush (-9), 2) := by decide +kernel
theorem dX11_isNoPlace_14 : decode cX11_isNoPlace 14 = .ok (.bipush 9, 2) := by decide +kernel
theorem dX11_isNoPlace_16 : decode cX11_isNoPlace 16 = .ok (.invokestatic 47, 3) := by decide +kernel
theorem dX11_isNoPlace_19 : decode cX11_isNoPlace 19 = .ok (.ifCond .eq 26, 3) := by decide +kernel
theorem dX11_isNoPlace_22 : decode cX11_isNoPlace 22 = .ok (.iload_n 2, 1) := by decide +kernel
theorem dX11_isNoPlace_23 : decode cX11_isNoPlace 23 = .ok (.invokestatic 51, 3) := by decide +kernel
theorem dX11_isNoPlace_26 : decode cX11_isNoPlace 26 = .ok (.ifCond .ne 19, 3) := by decide +kernel
theorem dX11_isNoPlace_29 : decode cX11_isNoPlace 29 = .ok (.iload_n 3, 1) := by decide +kernel
theorem dX11_isNoPlace_30 : decode cX11_isNoPlace 30 = .ok (.iconst (-1), 1) := by decide +kernel
theorem dX11_isNoPlace_31 : decode cX11_isNoPlace 31 = .ok (.if_icmp .eq 18, 3) := by decide +kernel
theorem dX11_isNoPlace_34 : decode cX11_isNoPlace 34 = .ok (.iload_n 3, 1) := by decide +kernel
theorem dX11_isNoPlace_35 : decode cX11_isNoPlace 35 = .ok (.iload_n 2, 1) := by decide +kernel
theorem dX11_isNoPlace_36 : decode cX11_isNoPlace 36 = .ok (.sipush 399, 3) := by decide +kernel
theorem dX11_isNoPlace_39 : decode cX11_isNoPlace 39 = .ok (.invokestatic 47, 3) := by decide +kernel
theorem dX11_isNoPlace_42 : decode cX11_isNoPlace 42 = .ok (.ifCond .ne 7, 3) := by decide +kernel
theorem dX11_isNoPlace_45 : decode cX11_isNoPlace 45 = .ok (.iconst 1, 1) := by decide +kernel
theorem dX11_isNoPlace_46 : decode cX11_isNoPlace 46 = .ok (.goto 4, 3) := by decide +kernel
theorem dX11_isNoPlace_49 : decode cX11_isNoPlace 49 = .ok (.iconst 0, 1) := by decide +kernel
theorem dX11_isNoPlace_50 : decode cX11_isNoPlace 50 = .ok (.ireturn, 1) := by decide +kernel
set_option maxRecDepth 20000 in
theorem ggX11_demandedNow_Jx4a65c_get_915e3 : GoodIn wsX11_demandedNow wsJx4a65c_get_915e3 := goodIn_r _ [18, 19, 20, 21, 22, 23, 24, 25, 26, 27, 28, 29, 30, 17, 31, 32, 83, 84, 85] (by decide +kernel) (by decide +kernel)
set_option maxRecDepth 20000 in
theorem gX11_demandedNow_Jx4a65c_get_915e3 : GoodIn wsX11_demandedNow (wsV RX11 55 RJx4a65c yJx4a65c_get_915e3 wsJx4a65c_get_915e3) := goodIn_app (goodIn_of _ (by decide +kernel)) ggX11_demandedNow_Jx4a65c_get_915e3
set_option maxRecDepth 20000 in
theorem ggX11_demandedNow_Jx4a65c_size_8abf5 : GoodIn wsX11_demandedNow wsJx4a65c_size_8abf5 := goodIn_r _ [36, 19, 83, 84, 85] (by decide +kernel) (by decide +kernel)
set_option maxRecDepth 20000 in
theorem gX11_demandedNow_Jx4a65c_size_8abf5 : GoodIn wsX11_demandedNow (wsV RX11 43 RJx4a65c yJx4a65c_size_8abf5 wsJx4a65c_size_8abf5) := goodIn_app (goodIn_of _ (by decide +kernel)) ggX11_demandedNow_Jx4a65c_size_8abf5
set_option maxRecDepth 20000 in
theorem ggX11_demandedNow_X11_at : GoodIn wsX11_demandedNow wsX11_at := goodIn_r _ [41, 7, 42, 33, 34, 35, 17, 36, 19, 14, 15, 16, 18, 20, 21, 22, 23, 24, 25, 26, 27, 28, 29, 30, 31, 32, 43, 44, 45, 46, 47, 48, 49, 64, 65, 66, 67, 68, 69, 70, 71, 72, 73, 74, 83, 84, 85, 78, 79, 80, 81, 82] (by decide +kernel) (by decide +kernel)
set_option maxRecDepth 20000 in
theorem gX11_demandedNow_X11_at : GoodIn wsX11_demandedNow (wsV RX11 70 RX11 yX11_at wsX11_at) := goodIn_app (goodIn_of _ (by decide +kernel)) ggX11_demandedNow_X11_at
set_option maxRecDepth 20000 in
theorem ggX11_demandedNow_X9_needs : GoodIn wsX11_demandedNow wsX9_needs := goodIn_r _ [53, 54, 55, 56, 57, 12, 58, 59, 78, 79, 80, 81, 82] (by decide +kernel) (by decide +kernel)
set_option maxRecDepth 20000 in
theorem gX11_demandedNow_X9_needs : GoodIn wsX11_demandedNow (wsV RX11 82 RX9 yX9_needs wsX9_needs) := goodIn_app (goodIn_of _ (by decide +kernel)) ggX11_demandedNow_X9_needs
set_option maxRecDepth 20000 in
theorem ggX11_demandedNow_X9_above : GoodIn wsX11_demandedNow wsX9_above := goodIn_r _ [63, 59, 54, 78, 79, 80, 81, 82] (by decide +kernel) (by decide +kernel)
set_option maxRecDepth 20000 in
theorem gX11_demandedNow_X9_above : GoodIn wsX11_demandedNow (wsV RX11 91 RX9 yX9_above wsX9_above) := goodIn_app (goodIn_of _ (by decide +kernel)) ggX11_demandedNow_X9_above
theorem dX11_demandedNow_0 : decode cX11_demandedNow 0 = .ok (.aload_n 0, 1) := by decide +kernel
theorem dX11_demandedNow_1 : decode cX11_demandedNow 1 = .ok (.getfield 23, 3) := by decide +kernel
theorem dX11_demandedNow_4 : decode cX11_demandedNow 4 = .ok (.iload_n 1, 1) := by decide +kernel
theorem dX11_demandedNow_5 : decode cX11_demandedNow 5 = .ok (.invokevirtual 55, 3) := by decide +kernel
theorem dX11_demandedNow_8 : decode cX11_demandedNow 8 = .ok (.checkcast 59, 3) := by decide +kernel
theorem dX11_demandedNow_11 : decode cX11_demandedNow 11 = .ok (.astore 5, 2) := by decide +kernel
theorem dX11_demandedNow_13 : decode cX11_demandedNow 13 = .ok (.aload_n 0, 1) := by decide +kernel
theorem dX11_demandedNow_14 : decode cX11_demandedNow 14 = .ok (.getfield 16, 3) := by decide +kernel
theorem dX11_demandedNow_17 : decode cX11_demandedNow 17 = .ok (.aload 5, 2) := by decide +kernel
theorem dX11_demandedNow_19 : decode cX11_demandedNow 19 = .ok (.getfield 61, 3) := by decide +kernel
theorem dX11_demandedNow_22 : decode cX11_demandedNow 22 = .ok (.iaload, 1) := by decide +kernel
theorem dX11_demandedNow_23 : decode cX11_demandedNow 23 = .ok (.istore 6, 2) := by decide +kernel
theorem dX11_demandedNow_25 : decode cX11_demandedNow 25 = .ok (.iload 6, 2) := by decide +kernel
theorem dX11_demandedNow_27 : decode cX11_demandedNow 27 = .ok (.ifCond .ne 11, 3) := by decide +kernel
theorem dX11_demandedNow_30 : decode cX11_demandedNow 30 = .ok (.aload 5, 2) := by decide +kernel
theorem dX11_demandedNow_32 : decode cX11_demandedNow 32 = .ok (.getfield 64, 3) := by decide +kernel
theorem dX11_demandedNow_35 : decode cX11_demandedNow 35 = .ok (.goto 4, 3) := by decide +kernel
theorem dX11_demandedNow_38 : decode cX11_demandedNow 38 = .ok (.iconst (-1), 1) := by decide +kernel
theorem dX11_demandedNow_39 : decode cX11_demandedNow 39 = .ok (.istore 7, 2) := by decide +kernel
theorem dX11_demandedNow_41 : decode cX11_demandedNow 41 = .ok (.getstatic 67, 3) := by decide +kernel
theorem dX11_demandedNow_44 : decode cX11_demandedNow 44 = .ok (.iload 6, 2) := by decide +kernel
theorem dX11_demandedNow_46 : decode cX11_demandedNow 46 = .ok (.iaload, 1) := by decide +kernel
theorem dX11_demandedNow_47 : decode cX11_demandedNow 47 = .ok (.istore 8, 2) := by decide +kernel
theorem dX11_demandedNow_49 : decode cX11_demandedNow 49 = .ok (.iconst 0, 1) := by decide +kernel
theorem dX11_demandedNow_50 : decode cX11_demandedNow 50 = .ok (.istore 9, 2) := by decide +kernel
theorem dX11_demandedNow_52 : decode cX11_demandedNow 52 = .ok (.iload 9, 2) := by decide +kernel
theorem dX11_demandedNow_54 : decode cX11_demandedNow 54 = .ok (.aload_n 0, 1) := by decide +kernel
theorem dX11_demandedNow_55 : decode cX11_demandedNow 55 = .ok (.getfield 10, 3) := by decide +kernel
theorem dX11_demandedNow_58 : decode cX11_demandedNow 58 = .ok (.invokevirtual 43, 3) := by decide +kernel
theorem dX11_demandedNow_61 : decode cX11_demandedNow 61 = .ok (.if_icmp .gt 54, 3) := by decide +kernel
theorem dX11_demandedNow_64 : decode cX11_demandedNow 64 = .ok (.aload_n 0, 1) := by decide +kernel
theorem dX11_demandedNow_65 : decode cX11_demandedNow 65 = .ok (.iload 9, 2) := by decide +kernel
theorem dX11_demandedNow_67 : decode cX11_demandedNow 67 = .ok (.iload_n 2, 1) := by decide +kernel
theorem dX11_demandedNow_68 : decode cX11_demandedNow 68 = .ok (.iload_n 3, 1) := by decide +kernel
theorem dX11_demandedNow_69 : decode cX11_demandedNow 69 = .ok (.aload 4, 2) := by decide +kernel
theorem dX11_demandedNow_71 : decode cX11_demandedNow 71 = .ok (.invokevirtual 70, 3) := by decide +kernel
theorem dX11_demandedNow_74 : decode cX11_demandedNow 74 = .ok (.astore 10, 2) := by decide +kernel
theorem dX11_demandedNow_76 : decode cX11_demandedNow 76 = .ok (.aload 10, 2) := by decide +kernel
theorem dX11_demandedNow_78 : decode cX11_demandedNow 78 = .ok (.ifnull 31, 3) := by decide +kernel
theorem dX11_demandedNow_81 : decode cX11_demandedNow 81 = .ok (.aload 10, 2) := by decide +kernel
theorem dX11_demandedNow_83 : decode cX11_demandedNow 83 = .ok (.getfield 74, 3) := by decide +kernel
theorem dX11_demandedNow_86 : decode cX11_demandedNow 86 = .ok (.ifCond .lt 23, 3) := by decide +kernel
theorem dX11_demandedNow_89 : decode cX11_demandedNow 89 = .ok (.iload 8, 2) := by decide +kernel
theorem dX11_demandedNow_91 : decode cX11_demandedNow 91 = .ok (.aload 10, 2) := by decide +kernel
theorem dX11_demandedNow_93 : decode cX11_demandedNow 93 = .ok (.getstatic 79, 3) := by decide +kernel
theorem dX11_demandedNow_96 : decode cX11_demandedNow 96 = .ok (.iload 6, 2) := by decide +kernel
theorem dX11_demandedNow_98 : decode cX11_demandedNow 98 = .ok (.iaload, 1) := by decide +kernel
theorem dX11_demandedNow_99 : decode cX11_demandedNow 99 = .ok (.iload 7, 2) := by decide +kernel
theorem dX11_demandedNow_101 : decode cX11_demandedNow 101 = .ok (.invokevirtual 82, 3) := by decide +kernel
theorem dX11_demandedNow_104 : decode cX11_demandedNow 104 = .ok (.invokestatic 86, 3) := by decide +kernel
theorem dX11_demandedNow_107 : decode cX11_demandedNow 107 = .ok (.istore 8, 2) := by decide +kernel
theorem dX11_demandedNow_109 : decode cX11_demandedNow 109 = .ok (.iinc 9 1, 3) := by decide +kernel
theorem dX11_demandedNow_112 : decode cX11_demandedNow 112 = .ok (.goto (-60), 3) := by decide +kernel
theorem dX11_demandedNow_115 : decode cX11_demandedNow 115 = .ok (.iconst 0, 1) := by decide +kernel
theorem dX11_demandedNow_116 : decode cX11_demandedNow 116 = .ok (.istore 9, 2) := by decide +kernel
theorem dX11_demandedNow_118 : decode cX11_demandedNow 118 = .ok (.iconst 0, 1) := by decide +kernel
theorem dX11_demandedNow_119 : decode cX11_demandedNow 119 = .ok (.istore 10, 2) := by decide +kernel
theorem dX11_demandedNow_121 : decode cX11_demandedNow 121 = .ok (.iload 10, 2) := by decide +kernel
theorem dX11_demandedNow_123 : decode cX11_demandedNow 123 = .ok (.aload_n 0, 1) := by decide +kernel
theorem dX11_demandedNow_124 : decode cX11_demandedNow 124 = .ok (.getfield 10, 3) := by decide +kernel
theorem dX11_demandedNow_127 : decode cX11_demandedNow 127 = .ok (.invokevirtual 43, 3) := by decide +kernel
theorem dX11_demandedNow_130 : decode cX11_demandedNow 130 = .ok (.if_icmp .gt 48, 3) := by decide +kernel
theorem dX11_demandedNow_133 : decode cX11_demandedNow 133 = .ok (.aload_n 0, 1) := by decide +kernel
theorem dX11_demandedNow_134 : decode cX11_demandedNow 134 = .ok (.iload 10, 2) := by decide +kernel
theorem dX11_demandedNow_136 : decode cX11_demandedNow 136 = .ok (.iload_n 2, 1) := by decide +kernel
theorem dX11_demandedNow_137 : decode cX11_demandedNow 137 = .ok (.iload_n 3, 1) := by decide +kernel
theorem dX11_demandedNow_138 : decode cX11_demandedNow 138 = .ok (.aload 4, 2) := by decide +kernel
theorem dX11_demandedNow_140 : decode cX11_demandedNow 140 = .ok (.invokevirtual 70, 3) := by decide +kernel
theorem dX11_demandedNow_143 : decode cX11_demandedNow 143 = .ok (.astore 11, 2) := by decide +kernel
theorem dX11_demandedNow_145 : decode cX11_demandedNow 145 = .ok (.aload 11, 2) := by decide +kernel
theorem dX11_demandedNow_147 : decode cX11_demandedNow 147 = .ok (.ifnull 25, 3) := by decide +kernel
theorem dX11_demandedNow_150 : decode cX11_demandedNow 150 = .ok (.aload 11, 2) := by decide +kernel
theorem dX11_demandedNow_152 : decode cX11_demandedNow 152 = .ok (.getfield 74, 3) := by decide +kernel
theorem dX11_demandedNow_155 : decode cX11_demandedNow 155 = .ok (.ifCond .ge 17, 3) := by decide +kernel
theorem dX11_demandedNow_158 : decode cX11_demandedNow 158 = .ok (.iload 9, 2) := by decide +kernel
theorem dX11_demandedNow_160 : decode cX11_demandedNow 160 = .ok (.aload 11, 2) := by decide +kernel
theorem dX11_demandedNow_162 : decode cX11_demandedNow 162 = .ok (.iload 8, 2) := by decide +kernel
theorem dX11_demandedNow_164 : decode cX11_demandedNow 164 = .ok (.invokevirtual 91, 3) := by decide +kernel
theorem dX11_demandedNow_167 : decode cX11_demandedNow 167 = .ok (.invokestatic 86, 3) := by decide +kernel
theorem dX11_demandedNow_170 : decode cX11_demandedNow 170 = .ok (.istore 9, 2) := by decide +kernel
theorem dX11_demandedNow_172 : decode cX11_demandedNow 172 = .ok (.iinc 10 1, 3) := by decide +kernel
theorem dX11_demandedNow_175 : decode cX11_demandedNow 175 = .ok (.goto (-54), 3) := by decide +kernel
theorem dX11_demandedNow_178 : decode cX11_demandedNow 178 = .ok (.iload 8, 2) := by decide +kernel
theorem dX11_demandedNow_180 : decode cX11_demandedNow 180 = .ok (.iload 9, 2) := by decide +kernel
theorem dX11_demandedNow_182 : decode cX11_demandedNow 182 = .ok (.iadd, 1) := by decide +kernel
theorem dX11_demandedNow_183 : decode cX11_demandedNow 183 = .ok (.bipush 9, 2) := by decide +kernel
theorem dX11_demandedNow_185 : decode cX11_demandedNow 185 = .ok (.iadd, 1) := by decide +kernel
theorem dX11_demandedNow_186 : decode cX11_demandedNow 186 = .ok (.bipush 10, 2) := by decide +kernel
theorem dX11_demandedNow_188 : decode cX11_demandedNow 188 = .ok (.idiv, 1) := by decide +kernel
theorem dX11_demandedNow_189 : decode cX11_demandedNow 189 = .ok (.bipush 10, 2) := by decide +kernel
theorem dX11_demandedNow_191 : decode cX11_demandedNow 191 = .ok (.imul, 1) := by decide +kernel
theorem dX11_demandedNow_192 : decode cX11_demandedNow 192 = .ok (.ireturn, 1) := by decide +kernel
set_option maxRecDepth 20000 in
theorem ggX11_at_Jx4a65c_size_8abf5 : GoodIn wsX11_at wsJx4a65c_size_8abf5 := goodIn_r _ [7, 8, 44, 45, 46] (by decide +kernel) (by decide +kernel)
set_option maxRecDepth 20000 in
theorem gX11_at_Jx4a65c_size_8abf5 : GoodIn wsX11_at (wsV RX11 43 RJx4a65c yJx4a65c_size_8abf5 wsJx4a65c_size_8abf5) := goodIn_app (goodIn_of _ (by decide +kernel)) ggX11_at_Jx4a65c_size_8abf5
set_option maxRecDepth 20000 in
theorem ggX11_at_Jx4a65c_get_915e3 : GoodIn wsX11_at wsJx4a65c_get_915e3 := goodIn_r _ [12, 8, 13, 14, 15, 16, 17, 18, 19, 20, 21, 22, 23, 6, 24, 25, 44, 45, 46] (by decide +kernel) (by decide +kernel)
set_option maxRecDepth 20000 in
theorem gX11_at_Jx4a65c_get_915e3 : GoodIn wsX11_at (wsV RX11 55 RJx4a65c yJx4a65c_get_915e3 wsJx4a65c_get_915e3) := goodIn_app (goodIn_of _ (by decide +kernel)) ggX11_at_Jx4a65c_get_915e3
set_option maxRecDepth 20000 in
theorem ggX11_at_X9_isThere : GoodIn wsX11_at wsX9_isThere := goodIn_r _ [30, 31, 32, 47, 48, 49, 50, 51] (by decide +kernel) (by decide +kernel)
set_option maxRecDepth 20000 in
theorem gX11_at_X9_isThere : GoodIn wsX11_at (wsV RX11 95 RX9 yX9_isThere wsX9_isThere) := goodIn_app (goodIn_of _ (by decide +kernel)) ggX11_at_X9_isThere
theorem dX11_at_0 : decode cX11_at 0 = .ok (.iload_n 1, 1) := by decide +kernel
theorem dX11_at_1 : decode cX11_at 1 = .ok (.aload_n 0, 1) := by decide +kernel
theorem dX11_at_2 : decode cX11_at 2 = .ok (.getfield 10, 3) := by decide +kernel
theorem dX11_at_5 : decode cX11_at 5 = .ok (.invokevirtual 43, 3) := by decide +kernel
theorem dX11_at_8 : decode cX11_at 8 = .ok (.if_icmp .ne 8, 3) := by decide +kernel
theorem dX11_at_11 : decode cX11_at 11 = .ok (.aload 4, 2) := by decide +kernel
theorem dX11_at_13 : decode cX11_at 13 = .ok (.goto 14, 3) := by decide +kernel
theorem dX11_at_16 : decode cX11_at 16 = .ok (.aload_n 0, 1) := by decide +kernel
theorem dX11_at_17 : decode cX11_at 17 = .ok (.getfield 10, 3) := by decide +kernel
theorem dX11_at_20 : decode cX11_at 20 = .ok (.iload_n 1, 1) := by decide +kernel
theorem dX11_at_21 : decode cX11_at 21 = .ok (.invokevirtual 55, 3) := by decide +kernel
theorem dX11_at_24 : decode cX11_at 24 = .ok (.checkcast 75, 3) := by decide +kernel
theorem dX11_at_27 : decode cX11_at 27 = .ok (.astore 5, 2) := by decide +kernel
theorem dX11_at_29 : decode cX11_at 29 = .ok (.aload 5, 2) := by decide +kernel
theorem dX11_at_31 : decode cX11_at 31 = .ok (.ifnull 17, 3) := by decide +kernel
theorem dX11_at_34 : decode cX11_at 34 = .ok (.iload_n 1, 1) := by decide +kernel
theorem dX11_at_35 : decode cX11_at 35 = .ok (.iload_n 3, 1) := by decide +kernel
theorem dX11_at_36 : decode cX11_at 36 = .ok (.if_icmp .eq 12, 3) := by decide +kernel
theorem dX11_at_39 : decode cX11_at 39 = .ok (.aload 5, 2) := by decide +kernel
theorem dX11_at_41 : decode cX11_at 41 = .ok (.iload_n 2, 1) := by decide +kernel
theorem dX11_at_42 : decode cX11_at 42 = .ok (.invokevirtual 95, 3) := by decide +kernel
theorem dX11_at_45 : decode cX11_at 45 = .ok (.ifCond .ne 7, 3) := by decide +kernel
theorem dX11_at_48 : decode cX11_at 48 = .ok (.aconst_null, 1) := by decide +kernel
theorem dX11_at_49 : decode cX11_at 49 = .ok (.goto 5, 3) := by decide +kernel
theorem dX11_at_52 : decode cX11_at 52 = .ok (.aload 5, 2) := by decide +kernel
theorem dX11_at_54 : decode cX11_at 54 = .ok (.areturn, 1) := by decide +kernel
set_option maxRecDepth 20000 in
theorem ggX11_demandedNow__X11_demandedNow : GoodIn wsX11_demandedNow_ wsX11_demandedNow := goodIn_r _ [5, 6, 7, 8, 9, 10, 11, 12, 13, 14, 15, 16, 17, 18, 19, 20, 21, 22, 23, 24, 25, 26, 27, 28, 29, 30, 31, 32, 33, 34, 35, 36, 37, 38, 39, 40, 41, 42, 43, 44, 4, 45, 46, 47, 48, 49, 50, 51, 52, 53, 54, 55, 56, 57, 58, 59, 60, 61, 62, 63, 64, 65, 66, 67, 68, 69, 70, 71, 72, 73, 74, 75, 76, 77, 78, 79, 80, 81, 82, 83, 84, 85, 86, 87, 88, 89] (by decide +kernel) (by decide +kernel)
set_option maxRecDepth 20000 in
theorem gX11_demandedNow__X11_demandedNow : GoodIn wsX11_demandedNow_ (wsV RX11 98 RX11 yX11_demandedNow wsX11_demandedNow) := goodIn_app (goodIn_of _ (by decide +kernel)) ggX11_demandedNow__X11_demandedNow
theorem dX11_demandedNow__0 : decode cX11_demandedNow_ 0 = .ok (.aload_n 0, 1) := by decide +kernel
theorem dX11_demandedNow__1 : decode cX11_demandedNow_ 1 = .ok (.iload_n 1, 1) := by decide +kernel
theorem dX11_demandedNow__2 : decode cX11_demandedNow_ 2 = .ok (.iload_n 2, 1) := by decide +kernel
theorem dX11_demandedNow__3 : decode cX11_demandedNow_ 3 = .ok (.iconst (-1), 1) := by decide +kernel
theorem dX11_demandedNow__4 : decode cX11_demandedNow_ 4 = .ok (.aconst_null, 1) := by decide +kernel
theorem dX11_demandedNow__5 : decode cX11_demandedNow_ 5 = .ok (.invokevirtual 98, 3) := by decide +kernel
theorem dX11_demandedNow__8 : decode cX11_demandedNow_ 8 = .ok (.ireturn, 1) := by decide +kernel
set_option maxRecDepth 20000 in
theorem ggX11_counts_Jx4a65c_get_915e3 : GoodIn wsX11_counts wsJx4a65c_get_915e3 := goodIn_r _ [11, 12, 13, 14, 15, 16, 17, 18, 19, 20, 21, 22, 23, 10, 24, 25, 42, 43, 44] (by decide +kernel) (by decide +kernel)
set_option maxRecDepth 20000 in
theorem gX11_counts_Jx4a65c_get_915e3 : GoodIn wsX11_counts (wsV RX11 55 RJx4a65c yJx4a65c_get_915e3 wsJx4a65c_get_915e3) := goodIn_app (goodIn_of _ (by decide +kernel)) ggX11_counts_Jx4a65c_get_915e3
theorem dX11_counts_0 : decode cX11_counts 0 = .ok (.aload_n 0, 1) := by decide +kernel
theorem dX11_counts_1 : decode cX11_counts 1 = .ok (.getfield 26, 3) := by decide +kernel
theorem dX11_counts_4 : decode cX11_counts 4 = .ok (.iload_n 1, 1) := by decide +kernel
theorem dX11_counts_5 : decode cX11_counts 5 = .ok (.invokevirtual 55, 3) := by decide +kernel
theorem dX11_counts_8 : decode cX11_counts 8 = .ok (.checkcast 102, 3) := by decide +kernel
theorem dX11_counts_11 : decode cX11_counts 11 = .ok (.astore 4, 2) := by decide +kernel
theorem dX11_counts_13 : decode cX11_counts 13 = .ok (.aload 4, 2) := by decide +kernel
theorem dX11_counts_15 : decode cX11_counts 15 = .ok (.getfield 104, 3) := by decide +kernel
theorem dX11_counts_18 : decode cX11_counts 18 = .ok (.iconst 3, 1) := by decide +kernel
theorem dX11_counts_19 : decode cX11_counts 19 = .ok (.if_icmp .eq 21, 3) := by decide +kernel
theorem dX11_counts_22 : decode cX11_counts 22 = .ok (.iload_n 2, 1) := by decide +kernel
theorem dX11_counts_23 : decode cX11_counts 23 = .ok (.aload 4, 2) := by decide +kernel
theorem dX11_counts_25 : decode cX11_counts 25 = .ok (.getfield 107, 3) := by decide +kernel
theorem dX11_counts_28 : decode cX11_counts 28 = .ok (.if_icmp .lt 12, 3) := by decide +kernel
theorem dX11_counts_31 : decode cX11_counts 31 = .ok (.iload_n 2, 1) := by decide +kernel
theorem dX11_counts_32 : decode cX11_counts 32 = .ok (.aload 4, 2) := by decide +kernel
theorem dX11_counts_34 : decode cX11_counts 34 = .ok (.getfield 110, 3) := by decide +kernel
theorem dX11_counts_37 : decode cX11_counts 37 = .ok (.if_icmp .le 5, 3) := by decide +kernel
theorem dX11_counts_40 : decode cX11_counts 40 = .ok (.iconst 0, 1) := by decide +kernel
theorem dX11_counts_41 : decode cX11_counts 41 = .ok (.ireturn, 1) := by decide +kernel
theorem dX11_counts_42 : decode cX11_counts 42 = .ok (.iload_n 1, 1) := by decide +kernel
theorem dX11_counts_43 : decode cX11_counts 43 = .ok (.iconst 1, 1) := by decide +kernel
theorem dX11_counts_44 : decode cX11_counts 44 = .ok (.iadd, 1) := by decide +kernel
theorem dX11_counts_45 : decode cX11_counts 45 = .ok (.istore 5, 2) := by decide +kernel
theorem dX11_counts_47 : decode cX11_counts 47 = .ok (.iload 5, 2) := by decide +kernel
theorem dX11_counts_49 : decode cX11_counts 49 = .ok (.iload_n 3, 1) := by decide +kernel
theorem dX11_counts_50 : decode cX11_counts 50 = .ok (.if_icmp .ge 68, 3) := by decide +kernel
theorem dX11_counts_53 : decode cX11_counts 53 = .ok (.aload_n 0, 1) := by decide +kernel
theorem dX11_counts_54 : decode cX11_counts 54 = .ok (.getfield 26, 3) := by decide +kernel
theorem dX11_counts_57 : decode cX11_counts 57 = .ok (.iload 5, 2) := by decide +kernel
theorem dX11_counts_59 : decode cX11_counts 59 = .ok (.invokevirtual 55, 3) := by decide +kernel
theorem dX11_counts_62 : decode cX11_counts 62 = .ok (.checkcast 102, 3) := by decide +kernel
theorem dX11_counts_65 : decode cX11_counts 65 = .ok (.getfield 104, 3) := by decide +kernel
theorem dX11_counts_68 : decode cX11_counts 68 = .ok (.iconst 3, 1) := by decide +kernel
theorem dX11_counts_69 : decode cX11_counts 69 = .ok (.if_icmp .ne 43, 3) := by decide +kernel
theorem dX11_counts_72 : decode cX11_counts 72 = .ok (.aload_n 0, 1) := by decide +kernel
theorem dX11_counts_73 : decode cX11_counts 73 = .ok (.getfield 26, 3) := by decide +kernel
theorem dX11_counts_76 : decode cX11_counts 76 = .ok (.iload 5, 2) := by decide +kernel
theorem dX11_counts_78 : decode cX11_counts 78 = .ok (.invokevirtual 55, 3) := by decide +kernel
theorem dX11_counts_81 : decode cX11_counts 81 = .ok (.checkcast 102, 3) := by decide +kernel
theorem dX11_counts_84 : decode cX11_counts 84 = .ok (.getfield 113, 3) := by decide +kernel
theorem dX11_counts_87 : decode cX11_counts 87 = .ok (.iload_n 1, 1) := by decide +kernel
theorem dX11_counts_88 : decode cX11_counts 88 = .ok (.if_icmp .ne 24, 3) := by decide +kernel
theorem dX11_counts_91 : decode cX11_counts 91 = .ok (.aload_n 0, 1) := by decide +kernel
theorem dX11_counts_92 : decode cX11_counts 92 = .ok (.getfield 26, 3) := by decide +kernel
theorem dX11_counts_95 : decode cX11_counts 95 = .ok (.iload 5, 2) := by decide +kernel
theorem dX11_counts_97 : decode cX11_counts 97 = .ok (.invokevirtual 55, 3) := by decide +kernel
theorem dX11_counts_100 : decode cX11_counts 100 = .ok (.checkcast 102, 3) := by decide +kernel
theorem dX11_counts_103 : decode cX11_counts 103 = .ok (.getfield 107, 3) := by decide +kernel
theorem dX11_counts_106 : decode cX11_counts 106 = .ok (.iload_n 2, 1) := by decide +kernel
theorem dX11_counts_107 : decode cX11_counts 107 = .ok (.if_icmp .gt 5, 3) := by decide +kernel
theorem dX11_counts_110 : decode cX11_counts 110 = .ok (.iconst 0, 1) := by decide +kernel
theorem dX11_counts_111 : decode cX11_counts 111 = .ok (.ireturn, 1) := by decide +kernel
theorem dX11_counts_112 : decode cX11_counts 112 = .ok (.iinc 5 1, 3) := by decide +kernel
theorem dX11_counts_115 : decode cX11_counts 115 = .ok (.goto (-68), 3) := by decide +kernel
theorem dX11_counts_118 : decode cX11_counts 118 = .ok (.iconst 1, 1) := by decide +kernel
theorem dX11_counts_119 : decode cX11_counts 119 = .ok (.ireturn, 1) := by decide +kernel
set_option maxRecDepth 20000 in
theorem ggX11_noticed_Jx4a65c_get_915e3 : GoodIn wsX11_noticed wsJx4a65c_get_915e3 := goodIn_r _ [17, 18, 19, 20, 21, 22, 23, 24, 25, 26, 27, 28, 29, 16, 30, 31, 58, 59, 60] (by decide +kernel) (by decide +kernel)
set_option maxRecDepth 20000 in
theorem gX11_noticed_Jx4a65c_get_915e3 : GoodIn wsX11_noticed (wsV RX11 55 RJx4a65c yJx4a65c_get_915e3 wsJx4a65c_get_915e3) := goodIn_app (goodIn_of _ (by decide +kernel)) ggX11_noticed_Jx4a65c_get_915e3
set_option maxRecDepth 20000 in
theorem ggX11_noticed_X11_counts : GoodIn wsX11_noticed wsX11_counts := goodIn_r _ [36, 1, 2, 3, 37, 38, 4, 13, 14, 15, 16, 17, 18, 19, 20, 21, 22, 23, 24, 25, 26, 27, 28, 29, 30, 31, 39, 40, 41, 42, 43, 44, 45, 46, 47, 48, 49, 50, 51, 52, 53, 54, 58, 59, 60] (by decide +kernel) (by decide +kernel)
set_option maxRecDepth 20000 in
theorem gX11_noticed_X11_counts : GoodIn wsX11_noticed (wsV RX11 116 RX11 yX11_counts wsX11_counts) := goodIn_app (goodIn_of _ (by decide +kernel)) ggX11_noticed_X11_counts
theorem dX11_noticed_0 : decode cX11_noticed 0 = .ok (.iconst 0, 1) := by decide +kernel
theorem dX11_noticed_1 : decode cX11_noticed 1 = .ok (.istore 5, 2) := by decide +kernel
theorem dX11_noticed_3 : decode cX11_noticed 3 = .ok (.iconst 0, 1) := by decide +kernel
theorem dX11_noticed_4 : decode cX11_noticed 4 = .ok (.istore 6, 2) := by decide +kernel
theorem dX11_noticed_6 : decode cX11_noticed 6 = .ok (.iload 6, 2) := by decide +kernel
theorem dX11_noticed_8 : decode cX11_noticed 8 = .ok (.iload 4, 2) := by decide +kernel
theorem dX11_noticed_10 : decode cX11_noticed 10 = .ok (.if_icmp .ge 118, 3) := by decide +kernel
theorem dX11_noticed_13 : decode cX11_noticed 13 = .ok (.aload_n 0, 1) := by decide +kernel
theorem dX11_noticed_14 : decode cX11_noticed 14 = .ok (.getfield 26, 3) := by decide +kernel
theorem dX11_noticed_17 : decode cX11_noticed 17 = .ok (.iload 6, 2) := by decide +kernel
theorem dX11_noticed_19 : decode cX11_noticed 19 = .ok (.invokevirtual 55, 3) := by decide +kernel
theorem dX11_noticed_22 : decode cX11_noticed 22 = .ok (.checkcast 102, 3) := by decide +kernel
theorem dX11_noticed_25 : decode cX11_noticed 25 = .ok (.astore 7, 2) := by decide +kernel
theorem dX11_noticed_27 : decode cX11_noticed 27 = .ok (.aload_n 0, 1) := by decide +kernel
theorem dX11_noticed_28 : decode cX11_noticed 28 = .ok (.iload 6, 2) := by decide +kernel
theorem dX11_noticed_30 : decode cX11_noticed 30 = .ok (.iload_n 2, 1) := by decide +kernel
theorem dX11_noticed_31 : decode cX11_noticed 31 = .ok (.iload 4, 2) := by decide +kernel
theorem dX11_noticed_33 : decode cX11_noticed 33 = .ok (.invokevirtual 116, 3) := by decide +kernel
theorem dX11_noticed_36 : decode cX11_noticed 36 = .ok (.ifCond .ne 6, 3) := by decide +kernel
theorem dX11_noticed_39 : decode cX11_noticed 39 = .ok (.goto 83, 3) := by decide +kernel
theorem dX11_noticed_42 : decode cX11_noticed 42 = .ok (.aload 7, 2) := by decide +kernel
theorem dX11_noticed_44 : decode cX11_noticed 44 = .ok (.getfield 104, 3) := by decide +kernel
theorem dX11_noticed_47 : decode cX11_noticed 47 = .ok (.iconst 1, 1) := by decide +kernel
theorem dX11_noticed_48 : decode cX11_noticed 48 = .ok (.if_icmp .ne 25, 3) := by decide +kernel
theorem dX11_noticed_51 : decode cX11_noticed 51 = .ok (.aload 7, 2) := by decide +kernel
theorem dX11_noticed_53 : decode cX11_noticed 53 = .ok (.getfield 113, 3) := by decide +kernel
theorem dX11_noticed_56 : decode cX11_noticed 56 = .ok (.aload_n 0, 1) := by decide +kernel
theorem dX11_noticed_57 : decode cX11_noticed 57 = .ok (.getfield 23, 3) := by decide +kernel
theorem dX11_noticed_60 : decode cX11_noticed 60 = .ok (.iload_n 1, 1) := by decide +kernel
theorem dX11_noticed_61 : decode cX11_noticed 61 = .ok (.invokevirtual 55, 3) := by decide +kernel
theorem dX11_noticed_64 : decode cX11_noticed 64 = .ok (.checkcast 59, 3) := by decide +kernel
theorem dX11_noticed_67 : decode cX11_noticed 67 = .ok (.getfield 61, 3) := by decide +kernel
theorem dX11_noticed_70 : decode cX11_noticed 70 = .ok (.if_icmp .eq 21, 3) := by decide +kernel
theorem dX11_noticed_73 : decode cX11_noticed 73 = .ok (.aload 7, 2) := by decide +kernel
theorem dX11_noticed_75 : decode cX11_noticed 75 = .ok (.getfield 104, 3) := by decide +kernel
theorem dX11_noticed_78 : decode cX11_noticed 78 = .ok (.iconst 2, 1) := by decide +kernel
theorem dX11_noticed_79 : decode cX11_noticed 79 = .ok (.if_icmp .ne 14, 3) := by decide +kernel
theorem dX11_noticed_82 : decode cX11_noticed 82 = .ok (.aload 7, 2) := by decide +kernel
theorem dX11_noticed_84 : decode cX11_noticed 84 = .ok (.getfield 113, 3) := by decide +kernel
theorem dX11_noticed_87 : decode cX11_noticed 87 = .ok (.iload_n 1, 1) := by decide +kernel
theorem dX11_noticed_88 : decode cX11_noticed 88 = .ok (.if_icmp .ne 5, 3) := by decide +kernel
theorem dX11_noticed_91 : decode cX11_noticed 91 = .ok (.iconst (-1), 1) := by decide +kernel
theorem dX11_noticed_92 : decode cX11_noticed 92 = .ok (.ireturn, 1) := by decide +kernel
theorem dX11_noticed_93 : decode cX11_noticed 93 = .ok (.aload 7, 2) := by decide +kernel
theorem dX11_noticed_95 : decode cX11_noticed 95 = .ok (.getfield 104, 3) := by decide +kernel
theorem dX11_noticed_98 : decode cX11_noticed 98 = .ok (.ifCond .ne 24, 3) := by decide +kernel
theorem dX11_noticed_101 : decode cX11_noticed 101 = .ok (.aload 7, 2) := by decide +kernel
theorem dX11_noticed_103 : decode cX11_noticed 103 = .ok (.getfield 113, 3) := by decide +kernel
theorem dX11_noticed_106 : decode cX11_noticed 106 = .ok (.iload_n 1, 1) := by decide +kernel
theorem dX11_noticed_107 : decode cX11_noticed 107 = .ok (.if_icmp .ne 15, 3) := by decide +kernel
theorem dX11_noticed_110 : decode cX11_noticed 110 = .ok (.iload 5, 2) := by decide +kernel
theorem dX11_noticed_112 : decode cX11_noticed 112 = .ok (.aload 7, 2) := by decide +kernel
theorem dX11_noticed_114 : decode cX11_noticed 114 = .ok (.getfield 119, 3) := by decide +kernel
theorem dX11_noticed_117 : decode cX11_noticed 117 = .ok (.invokestatic 86, 3) := by decide +kernel
theorem dX11_noticed_120 : decode cX11_noticed 120 = .ok (.istore 5, 2) := by decide +kernel
theorem dX11_noticed_122 : decode cX11_noticed 122 = .ok (.iinc 6 1, 3) := by decide +kernel
theorem dX11_noticed_125 : decode cX11_noticed 125 = .ok (.goto (-119), 3) := by decide +kernel
theorem dX11_noticed_128 : decode cX11_noticed 128 = .ok (.iload_n 3, 1) := by decide +kernel
theorem dX11_noticed_129 : decode cX11_noticed 129 = .ok (.iconst (-1), 1) := by decide +kernel
theorem dX11_noticed_130 : decode cX11_noticed 130 = .ok (.if_icmp .ne 7, 3) := by decide +kernel
theorem dX11_noticed_133 : decode cX11_noticed 133 = .ok (.iconst (-1), 1) := by decide +kernel
theorem dX11_noticed_134 : decode cX11_noticed 134 = .ok (.goto 7, 3) := by decide +kernel
theorem dX11_noticed_137 : decode cX11_noticed 137 = .ok (.iload_n 3, 1) := by decide +kernel
theorem dX11_noticed_138 : decode cX11_noticed 138 = .ok (.iload 5, 2) := by decide +kernel
theorem dX11_noticed_140 : decode cX11_noticed 140 = .ok (.iadd, 1) := by decide +kernel
theorem dX11_noticed_141 : decode cX11_noticed 141 = .ok (.ireturn, 1) := by decide +kernel
theorem dX11_isGood_0 : decode cX11_isGood 0 = .ok (.iload_n 2, 1) := by decide +kernel
theorem dX11_isGood_1 : decode cX11_isGood 1 = .ok (.aload_n 0, 1) := by decide +kernel
theorem dX11_isGood_2 : decode cX11_isGood 2 = .ok (.getfield 20, 3) := by decide +kernel
theorem dX11_isGood_5 : decode cX11_isGood 5 = .ok (.iload_n 1, 1) := by decide +kernel
theorem dX11_isGood_6 : decode cX11_isGood 6 = .ok (.iaload, 1) := by decide +kernel
theorem dX11_isGood_7 : decode cX11_isGood 7 = .ok (.if_icmp .gt 7, 3) := by decide +kernel
theorem dX11_isGood_10 : decode cX11_isGood 10 = .ok (.iconst 1, 1) := by decide +kernel
theorem dX11_isGood_11 : decode cX11_isGood 11 = .ok (.goto 4, 3) := by decide +kernel
theorem dX11_isGood_14 : decode cX11_isGood 14 = .ok (.iconst 0, 1) := by decide +kernel
theorem dX11_isGood_15 : decode cX11_isGood 15 = .ok (.ireturn, 1) := by decide +kernel
set_option maxRecDepth 20000 in
theorem ggX11_inForceNow_Jx4a65c_get_915e3 : GoodIn wsX11_inForceNow wsJx4a65c_get_915e3 := goodIn_r _ [9, 10, 11, 12, 13, 14, 15, 16, 17, 18, 19, 20, 21, 8, 22, 23, 75, 76, 77] (by decide +kernel) (by decide +kernel)
set_option maxRecDepth 20000 in
theorem gX11_inForceNow_Jx4a65c_get_915e3 : GoodIn wsX11_inForceNow (wsV RX11 55 RJx4a65c yJx4a65c_get_915e3 wsJx4a65c_get_915e3) := goodIn_app (goodIn_of _ (by decide +kernel)) ggX11_inForceNow_Jx4a65c_get_915e3
set_option maxRecDepth 20000 in
theorem ggX11_inForceNow_X11_isGood : GoodIn wsX11_inForceNow wsX11_isGood := goodIn_r _ [28, 29, 61, 62, 63, 64, 65, 66, 67, 68, 69, 70, 71] (by decide +kernel) (by decide +kernel)
set_option maxRecDepth 20000 in
theorem gX11_inForceNow_X11_isGood : GoodIn wsX11_inForceNow (wsV RX11 122 RX11 yX11_isGood wsX11_isGood) := goodIn_app (goodIn_of _ (by decide +kernel)) ggX11_inForceNow_X11_isGood
set_option maxRecDepth 20000 in
theorem ggX11_inForceNow_X10_chart : GoodIn wsX11_inForceNow wsX10_chart := goodIn_r _ [34, 35, 36, 37, 38, 39, 8, 40, 10, 41, 6, 7, 9, 11, 12, 13, 14, 15, 16, 17, 18, 19, 20, 21, 22, 23, 72, 73, 74, 75, 76, 77] (by decide +kernel) (by decide +kernel)
set_option maxRecDepth 20000 in
theorem gX11_inForceNow_X10_chart : GoodIn wsX11_inForceNow (wsV RX11 126 RX10 yX10_chart wsX10_chart) := goodIn_app (goodIn_of _ (by decide +kernel)) ggX11_inForceNow_X10_chart
set_option maxRecDepth 20000 in
theorem ggX11_inForceNow_Jx4a65c_size_8abf5 : GoodIn wsX11_inForceNow wsJx4a65c_size_8abf5 := goodIn_r _ [40, 10, 75, 76, 77] (by decide +kernel) (by decide +kernel)
set_option maxRecDepth 20000 in
theorem gX11_inForceNow_Jx4a65c_size_8abf5 : GoodIn wsX11_inForceNow (wsV RX11 43 RJx4a65c yJx4a65c_size_8abf5 wsJx4a65c_size_8abf5) := goodIn_app (goodIn_of _ (by decide +kernel)) ggX11_inForceNow_Jx4a65c_size_8abf5
set_option maxRecDepth 20000 in
theorem ggX11_inForceNow_X11_noticed : GoodIn wsX11_inForceNow wsX11_noticed := goodIn_r _ [46, 4, 47, 48, 49, 1, 2, 3, 50, 51, 52, 53, 54, 5, 6, 7, 8, 9, 10, 11, 12, 13, 14, 15, 16, 17, 18, 19, 20, 21, 22, 23, 55, 56, 57, 27, 58, 59, 60, 61, 62, 63, 64, 65, 66, 67, 68, 69, 70, 71, 78, 79, 80, 81, 82, 72, 73, 74, 75, 76, 77] (by decide +kernel) (by decide +kernel)
set_option maxRecDepth 20000 in
theorem gX11_inForceNow_X11_noticed : GoodIn wsX11_inForceNow (wsV RX11 129 RX11 yX11_noticed wsX11_noticed) := goodIn_app (goodIn_of _ (by decide +kernel)) ggX11_inForceNow_X11_noticed
theorem dX11_inForceNow_0 : decode cX11_inForceNow 0 = .ok (.aload_n 0, 1) := by decide +kernel
theorem dX11_inForceNow_1 : decode cX11_inForceNow 1 = .ok (.aload_n 0, 1) := by decide +kernel
theorem dX11_inForceNow_2 : decode cX11_inForceNow 2 = .ok (.getfield 23, 3) := by decide +kernel
theorem dX11_inForceNow_5 : decode cX11_inForceNow 5 = .ok (.iload_n 1, 1) := by decide +kernel
theorem dX11_inForceNow_6 : decode cX11_inForceNow 6 = .ok (.invokevirtual 55, 3) := by decide +kernel
theorem dX11_inForceNow_9 : decode cX11_inForceNow 9 = .ok (.checkcast 59, 3) := by decide +kernel
theorem dX11_inForceNow_12 : decode cX11_inForceNow 12 = .ok (.getfield 61, 3) := by decide +kernel
theorem dX11_inForceNow_15 : decode cX11_inForceNow 15 = .ok (.iload_n 2, 1) := by decide +kernel
theorem dX11_inForceNow_16 : decode cX11_inForceNow 16 = .ok (.invokevirtual 122, 3) := by decide +kernel
theorem dX11_inForceNow_19 : decode cX11_inForceNow 19 = .ok (.ifCond .eq 34, 3) := by decide +kernel
theorem dX11_inForceNow_22 : decode cX11_inForceNow 22 = .ok (.aload_n 0, 1) := by decide +kernel
theorem dX11_inForceNow_23 : decode cX11_inForceNow 23 = .ok (.iload_n 1, 1) := by decide +kernel
theorem dX11_inForceNow_24 : decode cX11_inForceNow 24 = .ok (.iload_n 2, 1) := by decide +kernel
theorem dX11_inForceNow_25 : decode cX11_inForceNow 25 = .ok (.aload_n 0, 1) := by decide +kernel
theorem dX11_inForceNow_26 : decode cX11_inForceNow 26 = .ok (.getfield 23, 3) := by decide +kernel
theorem dX11_inForceNow_29 : decode cX11_inForceNow 29 = .ok (.iload_n 1, 1) := by decide +kernel
theorem dX11_inForceNow_30 : decode cX11_inForceNow 30 = .ok (.invokevirtual 55, 3) := by decide +kernel
theorem dX11_inForceNow_33 : decode cX11_inForceNow 33 = .ok (.checkcast 59, 3) := by decide +kernel
theorem dX11_inForceNow_36 : decode cX11_inForceNow 36 = .ok (.iload_n 2, 1) := by decide +kernel
theorem dX11_inForceNow_37 : decode cX11_inForceNow 37 = .ok (.invokevirtual 126, 3) := by decide +kernel
theorem dX11_inForceNow_40 : decode cX11_inForceNow 40 = .ok (.aload_n 0, 1) := by decide +kernel
theorem dX11_inForceNow_41 : decode cX11_inForceNow 41 = .ok (.getfield 26, 3) := by decide +kernel
theorem dX11_inForceNow_44 : decode cX11_inForceNow 44 = .ok (.invokevirtual 43, 3) := by decide +kernel
theorem dX11_inForceNow_47 : decode cX11_inForceNow 47 = .ok (.invokevirtual 129, 3) := by decide +kernel
theorem dX11_inForceNow_50 : decode cX11_inForceNow 50 = .ok (.goto 4, 3) := by decide +kernel
theorem dX11_inForceNow_53 : decode cX11_inForceNow 53 = .ok (.iconst (-1), 1) := by decide +kernel
theorem dX11_inForceNow_54 : decode cX11_inForceNow 54 = .ok (.ireturn, 1) := by decide +kernel
set_option maxRecDepth 20000 in
theorem ggX11_believesNow_Jx4a65c_get_915e3 : GoodIn wsX11_believesNow wsJx4a65c_get_915e3 := goodIn_r _ [9, 10, 11, 12, 13, 14, 15, 16, 17, 18, 19, 20, 21, 8, 22, 23, 68, 69, 70] (by decide +kernel) (by decide +kernel)
set_option maxRecDepth 20000 in
theorem gX11_believesNow_Jx4a65c_get_915e3 : GoodIn wsX11_believesNow (wsV RX11 55 RJx4a65c yJx4a65c_get_915e3 wsJx4a65c_get_915e3) := goodIn_app (goodIn_of _ (by decide +kernel)) ggX11_believesNow_Jx4a65c_get_915e3
set_option maxRecDepth 20000 in
theorem ggX11_believesNow_X10_chart : GoodIn wsX11_believesNow wsX10_chart := goodIn_r _ [28, 29, 30, 31, 32, 33, 8, 34, 10, 35, 6, 7, 9, 11, 12, 13, 14, 15, 16, 17, 18, 19, 20, 21, 22, 23, 71, 72, 73, 68, 69, 70] (by decide +kernel) (by decide +kernel)
set_option maxRecDepth 20000 in
theorem gX11_believesNow_X10_chart : GoodIn wsX11_believesNow (wsV RX11 126 RX10 yX10_chart wsX10_chart) := goodIn_app (goodIn_of _ (by decide +kernel)) ggX11_believesNow_X10_chart
set_option maxRecDepth 20000 in
theorem ggX11_believesNow_X11_noticed : GoodIn wsX11_believesNow wsX11_noticed := goodIn_r _ [40, 41, 42, 43, 44, 2, 3, 45, 46, 47, 48, 49, 50, 5, 6, 7, 8, 9, 10, 11, 12, 13, 14, 15, 16, 17, 18, 19, 20, 21, 22, 23, 51, 52, 53, 39, 54, 55, 56, 57, 58, 59, 60, 61, 62, 63, 64, 65, 66, 67, 74, 75, 76, 77, 78, 71, 72, 73, 68, 69, 70] (by decide +kernel) (by decide +kernel)
set_option maxRecDepth 20000 in
theorem gX11_believesNow_X11_noticed : GoodIn wsX11_believesNow (wsV RX11 129 RX11 yX11_noticed wsX11_noticed) := goodIn_app (goodIn_of _ (by decide +kernel)) ggX11_believesNow_X11_noticed
theorem dX11_believesNow_0 : decode cX11_believesNow 0 = .ok (.aload_n 0, 1) := by decide +kernel
theorem dX11_believesNow_1 : decode cX11_believesNow 1 = .ok (.getfield 29, 3) := by decide +kernel
theorem dX11_believesNow_4 : decode cX11_believesNow 4 = .ok (.iload_n 1, 1) := by decide +kernel
theorem dX11_believesNow_5 : decode cX11_believesNow 5 = .ok (.iaload, 1) := by decide +kernel
theorem dX11_believesNow_6 : decode cX11_believesNow 6 = .ok (.iconst (-1), 1) := by decide +kernel
theorem dX11_believesNow_7 : decode cX11_believesNow 7 = .ok (.if_icmp .ne 7, 3) := by decide +kernel
theorem dX11_believesNow_10 : decode cX11_believesNow 10 = .ok (.iconst (-1), 1) := by decide +kernel
theorem dX11_believesNow_11 : decode cX11_believesNow 11 = .ok (.goto 35, 3) := by decide +kernel
theorem dX11_believesNow_14 : decode cX11_believesNow 14 = .ok (.aload_n 0, 1) := by decide +kernel
theorem dX11_believesNow_15 : decode cX11_believesNow 15 = .ok (.iload_n 2, 1) := by decide +kernel
theorem dX11_believesNow_16 : decode cX11_believesNow 16 = .ok (.iload_n 3, 1) := by decide +kernel
theorem dX11_believesNow_17 : decode cX11_believesNow 17 = .ok (.aload_n 0, 1) := by decide +kernel
theorem dX11_believesNow_18 : decode cX11_believesNow 18 = .ok (.getfield 23, 3) := by decide +kernel
theorem dX11_believesNow_21 : decode cX11_believesNow 21 = .ok (.iload_n 2, 1) := by decide +kernel
theorem dX11_believesNow_22 : decode cX11_believesNow 22 = .ok (.invokevirtual 55, 3) := by decide +kernel
theorem dX11_believesNow_25 : decode cX11_believesNow 25 = .ok (.checkcast 59, 3) := by decide +kernel
theorem dX11_believesNow_28 : decode cX11_believesNow 28 = .ok (.aload_n 0, 1) := by decide +kernel
theorem dX11_believesNow_29 : decode cX11_believesNow 29 = .ok (.getfield 29, 3) := by decide +kernel
theorem dX11_believesNow_32 : decode cX11_believesNow 32 = .ok (.iload_n 1, 1) := by decide +kernel
theorem dX11_believesNow_33 : decode cX11_believesNow 33 = .ok (.iaload, 1) := by decide +kernel
theorem dX11_believesNow_34 : decode cX11_believesNow 34 = .ok (.invokevirtual 126, 3) := by decide +kernel
theorem dX11_believesNow_37 : decode cX11_believesNow 37 = .ok (.aload_n 0, 1) := by decide +kernel
theorem dX11_believesNow_38 : decode cX11_believesNow 38 = .ok (.getfield 32, 3) := by decide +kernel
theorem dX11_believesNow_41 : decode cX11_believesNow 41 = .ok (.iload_n 1, 1) := by decide +kernel
theorem dX11_believesNow_42 : decode cX11_believesNow 42 = .ok (.iaload, 1) := by decide +kernel
theorem dX11_believesNow_43 : decode cX11_believesNow 43 = .ok (.invokevirtual 129, 3) := by decide +kernel
theorem dX11_believesNow_46 : decode cX11_believesNow 46 = .ok (.ireturn, 1) := by decide +kernel
theorem dX11_by_0 : decode cX11_by 0 = .ok (.iload_n 0, 1) := by decide +kernel
theorem dX11_by_1 : decode cX11_by 1 = .ok (.iconst (-1), 1) := by decide +kernel
theorem dX11_by_2 : decode cX11_by 2 = .ok (.if_icmp .ne 7, 3) := by decide +kernel
theorem dX11_by_5 : decode cX11_by 5 = .ok (.iconst (-1), 1) := by decide +kernel
theorem dX11_by_6 : decode cX11_by 6 = .ok (.goto 9, 3) := by decide +kernel
theorem dX11_by_9 : decode cX11_by 9 = .ok (.iload_n 0, 1) := by decide +kernel
theorem dX11_by_10 : decode cX11_by 10 = .ok (.bipush 10, 2) := by decide +kernel
theorem dX11_by_12 : decode cX11_by 12 = .ok (.iload_n 1, 1) := by decide +kernel
theorem dX11_by_13 : decode cX11_by 13 = .ok (.imul, 1) := by decide +kernel
theorem dX11_by_14 : decode cX11_by 14 = .ok (.iadd, 1) := by decide +kernel
theorem dX11_by_15 : decode cX11_by 15 = .ok (.ireturn, 1) := by decide +kernel
set_option maxRecDepth 20000 in
theorem ggX11_isUnsafe_X11_inForceNow : GoodIn wsX11_isUnsafe wsX11_inForceNow := goodIn_r _ [5, 6, 7, 8, 9, 10, 11, 12, 13, 14, 15, 16, 17, 18, 19, 20, 21, 22, 23, 24, 25, 26, 27, 28, 29, 30, 31, 4, 32, 33, 34, 35, 36, 37, 38, 39, 40, 41, 42, 43, 44, 45, 46, 47, 48, 49, 50, 51, 52, 53, 54, 55, 56, 57, 58, 59, 60, 61, 62, 63, 64, 105, 106, 107, 108, 109, 110, 111, 112, 113, 114, 115, 116, 117, 118, 119, 120, 121, 122, 123, 124, 125, 126] (by decide +kernel) (by decide +kernel)
set_option maxRecDepth 20000 in
theorem gX11_isUnsafe_X11_inForceNow : GoodIn wsX11_isUnsafe (wsV RX11 133 RX11 yX11_inForceNow wsX11_inForceNow) := goodIn_app (goodIn_of _ (by decide +kernel)) ggX11_isUnsafe_X11_inForceNow
set_option maxRecDepth 20000 in
theorem ggX11_isUnsafe_X11_demandedNow_ : GoodIn wsX11_isUnsafe wsX11_demandedNow_ := goodIn_r _ [68, 69, 70, 71, 4, 72, 6, 7, 73, 8, 74, 75, 76, 77, 78, 55, 56, 57, 58, 10, 11, 12, 13, 14, 15, 16, 17, 18, 19, 20, 21, 22, 23, 24, 25, 26, 27, 28, 46, 42, 43, 44, 79, 80, 81, 82, 83, 84, 85, 86, 87, 88, 89, 90, 91, 92, 93, 94, 95, 96, 97, 98, 99, 100, 101, 102, 103, 104, 105, 106, 107, 108, 109, 110, 111, 112, 113, 114, 115, 116, 117, 118, 127, 128, 129, 130, 131, 119, 120, 121] (by decide +kernel) (by decide +kernel)
set_option maxRecDepth 20000 in
theorem gX11_isUnsafe_X11_demandedNow_ : GoodIn wsX11_isUnsafe (wsV RX11 136 RX11 yX11_demandedNow_ wsX11_demandedNow_) := goodIn_app (goodIn_of _ (by decide +kernel)) ggX11_isUnsafe_X11_demandedNow_
theorem dX11_isUnsafe_0 : decode cX11_isUnsafe 0 = .ok (.aload_n 0, 1) := by decide +kernel
theorem dX11_isUnsafe_1 : decode cX11_isUnsafe 1 = .ok (.iload_n 1, 1) := by decide +kernel
theorem dX11_isUnsafe_2 : decode cX11_isUnsafe 2 = .ok (.iload_n 2, 1) := by decide +kernel
theorem dX11_isUnsafe_3 : decode cX11_isUnsafe 3 = .ok (.invokevirtual 133, 3) := by decide +kernel
theorem dX11_isUnsafe_6 : decode cX11_isUnsafe 6 = .ok (.istore_n 3, 1) := by decide +kernel
theorem dX11_isUnsafe_7 : decode cX11_isUnsafe 7 = .ok (.iload_n 3, 1) := by decide +kernel
theorem dX11_isUnsafe_8 : decode cX11_isUnsafe 8 = .ok (.iconst (-1), 1) := by decide +kernel
theorem dX11_isUnsafe_9 : decode cX11_isUnsafe 9 = .ok (.if_icmp .eq 17, 3) := by decide +kernel
theorem dX11_isUnsafe_12 : decode cX11_isUnsafe 12 = .ok (.iload_n 3, 1) := by decide +kernel
theorem dX11_isUnsafe_13 : decode cX11_isUnsafe 13 = .ok (.aload_n 0, 1) := by decide +kernel
theorem dX11_isUnsafe_14 : decode cX11_isUnsafe 14 = .ok (.iload_n 1, 1) := by decide +kernel
theorem dX11_isUnsafe_15 : decode cX11_isUnsafe 15 = .ok (.iload_n 2, 1) := by decide +kernel
theorem dX11_isUnsafe_16 : decode cX11_isUnsafe 16 = .ok (.invokevirtual 136, 3) := by decide +kernel
theorem dX11_isUnsafe_19 : decode cX11_isUnsafe 19 = .ok (.if_icmp .ge 7, 3) := by decide +kernel
theorem dX11_isUnsafe_22 : decode cX11_isUnsafe 22 = .ok (.iconst 1, 1) := by decide +kernel
theorem dX11_isUnsafe_23 : decode cX11_isUnsafe 23 = .ok (.goto 4, 3) := by decide +kernel
theorem dX11_isUnsafe_26 : decode cX11_isUnsafe 26 = .ok (.iconst 0, 1) := by decide +kernel
theorem dX11_isUnsafe_27 : decode cX11_isUnsafe 27 = .ok (.ireturn, 1) := by decide +kernel
set_option maxRecDepth 20000 in
theorem ggX11_obstacle_X11_isNoPlace : GoodIn wsX11_obstacle wsX11_isNoPlace := goodIn_r _ [8, 9, 10, 7, 11, 12, 13, 14] (by decide +kernel) (by decide +kernel)
set_option maxRecDepth 20000 in
theorem gX11_obstacle_X11_isNoPlace : GoodIn wsX11_obstacle (va_wsS RX11 138 yX11_isNoPlace wsX11_isNoPlace) := goodIn_app (goodIn_of _ (by decide +kernel)) ggX11_obstacle_X11_isNoPlace
set_option maxRecDepth 20000 in
theorem ggX11_obstacle_X11_isIn : GoodIn wsX11_obstacle wsX11_isIn := goodIn_r _ [11] (by decide +kernel) (by decide +kernel)
set_option maxRecDepth 20000 in
theorem gX11_obstacle_X11_isIn : GoodIn wsX11_obstacle (va_wsS RX11 47 yX11_isIn wsX11_isIn) := goodIn_app (goodIn_of _ (by decide +kernel)) ggX11_obstacle_X11_isIn
set_option maxRecDepth 20000 in
theorem ggX11_obstacle_X11_start : GoodIn wsX11_obstacle wsX11_start := goodIn_r _ [18, 19, 20, 21, 22, 7, 23, 95, 96, 97, 98, 99, 100, 101, 102, 103, 104, 105] (by decide +kernel) (by decide +kernel)
set_option maxRecDepth 20000 in
theorem gX11_obstacle_X11_start : GoodIn wsX11_obstacle (wsV RX11 142 RX11 yX11_start wsX11_start) := goodIn_app (goodIn_of _ (by decide +kernel)) ggX11_obstacle_X11_start
set_option maxRecDepth 20000 in
theorem ggX11_obstacle_Jx4a65c_size_8abf5 : GoodIn wsX11_obstacle wsJx4a65c_size_8abf5 := goodIn_r _ [28, 29, 111, 112, 113] (by decide +kernel) (by decide +kernel)
set_option maxRecDepth 20000 in
theorem gX11_obstacle_Jx4a65c_size_8abf5 : GoodIn wsX11_obstacle (wsV RX11 43 RJx4a65c yJx4a65c_size_8abf5 wsJx4a65c_size_8abf5) := goodIn_app (goodIn_of _ (by decide +kernel)) ggX11_obstacle_Jx4a65c_size_8abf5
set_option maxRecDepth 20000 in
theorem ggX11_obstacle_X11_refuse : GoodIn wsX11_obstacle wsX11_refuse := goodIn_r _ [23, 19, 95, 96, 97, 98, 99, 100, 101, 102, 103, 104, 105] (by decide +kernel) (by decide +kernel)
set_option maxRecDepth 20000 in
theorem gX11_obstacle_X11_refuse : GoodIn wsX11_obstacle (wsV RX11 39 RX11 yX11_refuse wsX11_refuse) := goodIn_app (goodIn_of _ (by decide +kernel)) ggX11_obstacle_X11_refuse
set_option maxRecDepth 20000 in
theorem ggX11_obstacle_X9_init : GoodIn wsX11_obstacle wsX9_init := goodIn_r _ [32, 33, 34, 35, 36, 37, 38, 39, 40, 106, 107, 108, 109, 110] (by decide +kernel) (by decide +kernel)
set_option maxRecDepth 20000 in
theorem gX11_obstacle_X9_init : GoodIn wsX11_obstacle (wsX9_init) := ggX11_obstacle_X9_init
set_option maxRecDepth 20000 in
theorem ggX11_obstacle_Jx4a65c_add_9ea2d : GoodIn wsX11_obstacle wsJx4a65c_add_9ea2d := goodIn_r _ [44, 45, 46, 47, 29, 48, 49, 50, 27, 51, 52, 53, 54, 55, 56, 57, 58, 59, 60, 61, 62, 63, 64, 65, 66, 67, 68, 69, 70, 71, 72, 73, 74, 75, 76, 77, 78, 79, 80, 81, 82, 83, 84, 85, 86, 87, 88, 89, 90, 91, 92, 93, 94, 111, 112, 113] (by decide +kernel) (by decide +kernel)
set_option maxRecDepth 20000 in
theorem gX11_obstacle_Jx4a65c_add_9ea2d : GoodIn wsX11_obstacle (wsV RX11 148 RJx4a65c yJx4a65c_add_9ea2d wsJx4a65c_add_9ea2d) := goodIn_app (goodIn_of _ (by decide +kernel)) ggX11_obstacle_Jx4a65c_add_9ea2d
theorem dX11_obstacle_0 : decode cX11_obstacle 0 = .ok (.aload_n 0, 1) := by decide +kernel
theorem dX11_obstacle_1 : decode cX11_obstacle 1 = .ok (.iload_n 1, 1) := by decide +kernel
theorem dX11_obstacle_2 : decode cX11_obstacle 2 = .ok (.iload_n 2, 1) := by decide +kernel
theorem dX11_obstacle_3 : decode cX11_obstacle 3 = .ok (.iload 4, 2) := by decide +kernel
theorem dX11_obstacle_5 : decode cX11_obstacle 5 = .ok (.iload 5, 2) := by decide +kernel
theorem dX11_obstacle_7 : decode cX11_obstacle 7 = .ok (.invokestatic 138, 3) := by decide +kernel
theorem dX11_obstacle_10 : decode cX11_obstacle 10 = .ok (.ifCond .ne 14, 3) := by decide +kernel
theorem dX11_obstacle_13 : decode cX11_obstacle 13 = .ok (.iload_n 3, 1) := by decide +kernel
theorem dX11_obstacle_14 : decode cX11_obstacle 14 = .ok (.iconst 0, 1) := by decide +kernel
theorem dX11_obstacle_15 : decode cX11_obstacle 15 = .ok (.sipush 999, 3) := by decide +kernel
theorem dX11_obstacle_18 : decode cX11_obstacle 18 = .ok (.invokestatic 47, 3) := by decide +kernel
theorem dX11_obstacle_21 : decode cX11_obstacle 21 = .ok (.ifCond .ne 7, 3) := by decide +kernel
theorem dX11_obstacle_24 : decode cX11_obstacle 24 = .ok (.iconst 1, 1) := by decide +kernel
theorem dX11_obstacle_25 : decode cX11_obstacle 25 = .ok (.goto 4, 3) := by decide +kernel
theorem dX11_obstacle_28 : decode cX11_obstacle 28 = .ok (.iconst 0, 1) := by decide +kernel
theorem dX11_obstacle_29 : decode cX11_obstacle 29 = .ok (.iconst 1, 1) := by decide +kernel
theorem dX11_obstacle_30 : decode cX11_obstacle 30 = .ok (.invokevirtual 142, 3) := by decide +kernel
theorem dX11_obstacle_33 : decode cX11_obstacle 33 = .ok (.ifCond .ne 28, 3) := by decide +kernel
theorem dX11_obstacle_36 : decode cX11_obstacle 36 = .ok (.aload_n 0, 1) := by decide +kernel
theorem dX11_obstacle_37 : decode cX11_obstacle 37 = .ok (.aload_n 0, 1) := by decide +kernel
theorem dX11_obstacle_38 : decode cX11_obstacle 38 = .ok (.getfield 10, 3) := by decide +kernel
theorem dX11_obstacle_41 : decode cX11_obstacle 41 = .ok (.invokevirtual 43, 3) := by decide +kernel
theorem dX11_obstacle_44 : decode cX11_obstacle 44 = .ok (.bipush 12, 2) := by decide +kernel
theorem dX11_obstacle_46 : decode cX11_obstacle 46 = .ok (.if_icmp .ne 7, 3) := by decide +kernel
theorem dX11_obstacle_49 : decode cX11_obstacle 49 = .ok (.iconst 1, 1) := by decide +kernel
theorem dX11_obstacle_50 : decode cX11_obstacle 50 = .ok (.goto 4, 3) := by decide +kernel
theorem dX11_obstacle_53 : decode cX11_obstacle 53 = .ok (.iconst 0, 1) := by decide +kernel
theorem dX11_obstacle_54 : decode cX11_obstacle 54 = .ok (.iconst 2, 1) := by decide +kernel
theorem dX11_obstacle_55 : decode cX11_obstacle 55 = .ok (.invokevirtual 39, 3) := by decide +kernel
theorem dX11_obstacle_58 : decode cX11_obstacle 58 = .ok (.ifCond .eq 5, 3) := by decide +kernel
theorem dX11_obstacle_61 : decode cX11_obstacle 61 = .ok (.iconst 0, 1) := by decide +kernel
theorem dX11_obstacle_62 : decode cX11_obstacle 62 = .ok (.ireturn, 1) := by decide +kernel
theorem dX11_obstacle_63 : decode cX11_obstacle 63 = .ok (.aload_n 0, 1) := by decide +kernel
theorem dX11_obstacle_64 : decode cX11_obstacle 64 = .ok (.getfield 10, 3) := by decide +kernel
theorem dX11_obstacle_67 : decode cX11_obstacle 67 = .ok (.new 75, 3) := by decide +kernel
theorem dX11_obstacle_70 : decode cX11_obstacle 70 = .ok (.dup, 1) := by decide +kernel
theorem dX11_obstacle_71 : decode cX11_obstacle 71 = .ok (.iload_n 1, 1) := by decide +kernel
theorem dX11_obstacle_72 : decode cX11_obstacle 72 = .ok (.iload_n 2, 1) := by decide +kernel
theorem dX11_obstacle_73 : decode cX11_obstacle 73 = .ok (.iload_n 3, 1) := by decide +kernel
theorem dX11_obstacle_74 : decode cX11_obstacle 74 = .ok (.iload 4, 2) := by decide +kernel
theorem dX11_obstacle_76 : decode cX11_obstacle 76 = .ok (.iload 5, 2) := by decide +kernel
theorem dX11_obstacle_78 : decode cX11_obstacle 78 = .ok (.invokespecial 145, 3) := by decide +kernel
theorem dX11_obstacle_81 : decode cX11_obstacle 81 = .ok (.invokevirtual 148, 3) := by decide +kernel
theorem dX11_obstacle_84 : decode cX11_obstacle 84 = .ok (.pop, 1) := by decide +kernel
theorem dX11_obstacle_85 : decode cX11_obstacle 85 = .ok (.aload_n 0, 1) := by decide +kernel
theorem dX11_obstacle_86 : decode cX11_obstacle 86 = .ok (.getfield 10, 3) := by decide +kernel
theorem dX11_obstacle_89 : decode cX11_obstacle 89 = .ok (.invokevirtual 43, 3) := by decide +kernel
theorem dX11_obstacle_92 : decode cX11_obstacle 92 = .ok (.iconst 1, 1) := by decide +kernel
theorem dX11_obstacle_93 : decode cX11_obstacle 93 = .ok (.isub, 1) := by decide +kernel
theorem dX11_obstacle_94 : decode cX11_obstacle 94 = .ok (.ireturn, 1) := by decide +kernel
set_option maxRecDepth 20000 in
theorem ggX11_end_X11_isNoObstacle : GoodIn wsX11_end wsX11_isNoObstacle := goodIn_r _ [14, 1, 15, 16, 17, 18, 19, 20, 21, 22, 13, 23, 50, 51, 52, 53, 54, 55, 56, 57, 58, 59, 60, 66, 67, 68] (by decide +kernel) (by decide +kernel)
set_option maxRecDepth 20000 in
theorem gX11_end_X11_isNoObstacle : GoodIn wsX11_end (wsV RX11 152 RX11 yX11_isNoObstacle wsX11_isNoObstacle) := goodIn_app (goodIn_of _ (by decide +kernel)) ggX11_end_X11_isNoObstacle
set_option maxRecDepth 20000 in
theorem ggX11_end_X11_start : GoodIn wsX11_end wsX11_start := goodIn_r _ [27, 28, 29, 30, 31, 13, 32, 50, 51, 52, 53, 54, 55, 56, 57, 58, 59, 60] (by decide +kernel) (by decide +kernel)
set_option maxRecDepth 20000 in
theorem gX11_end_X11_start : GoodIn wsX11_end (wsV RX11 142 RX11 yX11_start wsX11_start) := goodIn_app (goodIn_of _ (by decide +kernel)) ggX11_end_X11_start
set_option maxRecDepth 20000 in
theorem ggX11_end_Jx4a65c_get_915e3 : GoodIn wsX11_end wsJx4a65c_get_915e3 := goodIn_r _ [36, 20, 37, 38, 39, 40, 41, 42, 43, 44, 45, 46, 47, 18, 48, 49, 66, 67, 68] (by decide +kernel) (by decide +kernel)
set_option maxRecDepth 20000 in
theorem gX11_end_Jx4a65c_get_915e3 : GoodIn wsX11_end (wsV RX11 55 RJx4a65c yJx4a65c_get_915e3 wsJx4a65c_get_915e3) := goodIn_app (goodIn_of _ (by decide +kernel)) ggX11_end_Jx4a65c_get_915e3
set_option maxRecDepth 20000 in
theorem ggX11_end_X11_refuse : GoodIn wsX11_end wsX11_refuse := goodIn_r _ [32, 28, 50, 51, 52, 53, 54, 55, 56, 57, 58, 59, 60] (by decide +kernel) (by decide +kernel)
set_option maxRecDepth 20000 in
theorem gX11_end_X11_refuse : GoodIn wsX11_end (wsV RX11 39 RX11 yX11_refuse wsX11_refuse) := goodIn_app (goodIn_of _ (by decide +kernel)) ggX11_end_X11_refuse
theorem dX11_end_0 : decode cX11_end 0 = .ok (.aload_n 0, 1) := by decide +kernel
theorem dX11_end_1 : decode cX11_end 1 = .ok (.aload_n 0, 1) := by decide +kernel
theorem dX11_end_2 : decode cX11_end 2 = .ok (.iload_n 1, 1) := by decide +kernel
theorem dX11_end_3 : decode cX11_end 3 = .ok (.invokevirtual 152, 3) := by decide +kernel
theorem dX11_end_6 : decode cX11_end 6 = .ok (.iconst 1, 1) := by decide +kernel
theorem dX11_end_7 : decode cX11_end 7 = .ok (.invokevirtual 142, 3) := by decide +kernel
theorem dX11_end_10 : decode cX11_end 10 = .ok (.ifCond .eq 5, 3) := by decide +kernel
theorem dX11_end_13 : decode cX11_end 13 = .ok (.iconst 0, 1) := by decide +kernel
theorem dX11_end_14 : decode cX11_end 14 = .ok (.ireturn, 1) := by decide +kernel
theorem dX11_end_15 : decode cX11_end 15 = .ok (.aload_n 0, 1) := by decide +kernel
theorem dX11_end_16 : decode cX11_end 16 = .ok (.getfield 10, 3) := by decide +kernel
theorem dX11_end_19 : decode cX11_end 19 = .ok (.iload_n 1, 1) := by decide +kernel
theorem dX11_end_20 : decode cX11_end 20 = .ok (.invokevirtual 55, 3) := by decide +kernel
theorem dX11_end_23 : decode cX11_end 23 = .ok (.checkcast 75, 3) := by decide +kernel
theorem dX11_end_26 : decode cX11_end 26 = .ok (.astore_n 2, 1) := by decide +kernel
theorem dX11_end_27 : decode cX11_end 27 = .ok (.aload_n 0, 1) := by decide +kernel
theorem dX11_end_28 : decode cX11_end 28 = .ok (.aload_n 2, 1) := by decide +kernel
theorem dX11_end_29 : decode cX11_end 29 = .ok (.getfield 155, 3) := by decide +kernel
theorem dX11_end_32 : decode cX11_end 32 = .ok (.iconst (-1), 1) := by decide +kernel
theorem dX11_end_33 : decode cX11_end 33 = .ok (.if_icmp .eq 18, 3) := by decide +kernel
theorem dX11_end_36 : decode cX11_end 36 = .ok (.aload_n 2, 1) := by decide +kernel
theorem dX11_end_37 : decode cX11_end 37 = .ok (.getfield 155, 3) := by decide +kernel
theorem dX11_end_40 : decode cX11_end 40 = .ok (.aload_n 0, 1) := by decide +kernel
theorem dX11_end_41 : decode cX11_end 41 = .ok (.getfield 156, 3) := by decide +kernel
theorem dX11_end_44 : decode cX11_end 44 = .ok (.if_icmp .gt 7, 3) := by decide +kernel
theorem dX11_end_47 : decode cX11_end 47 = .ok (.iconst 1, 1) := by decide +kernel
theorem dX11_end_48 : decode cX11_end 48 = .ok (.goto 4, 3) := by decide +kernel
theorem dX11_end_51 : decode cX11_end 51 = .ok (.iconst 0, 1) := by decide +kernel
theorem dX11_end_52 : decode cX11_end 52 = .ok (.iconst 2, 1) := by decide +kernel
theorem dX11_end_53 : decode cX11_end 53 = .ok (.invokevirtual 39, 3) := by decide +kernel
theorem dX11_end_56 : decode cX11_end 56 = .ok (.ifCond .eq 5, 3) := by decide +kernel
theorem dX11_end_59 : decode cX11_end 59 = .ok (.iconst 0, 1) := by decide +kernel
theorem dX11_end_60 : decode cX11_end 60 = .ok (.ireturn, 1) := by decide +kernel
theorem dX11_end_61 : decode cX11_end 61 = .ok (.aload_n 2, 1) := by decide +kernel
theorem dX11_end_62 : decode cX11_end 62 = .ok (.getfield 155, 3) := by decide +kernel
theorem dX11_end_65 : decode cX11_end 65 = .ok (.istore_n 3, 1) := by decide +kernel
theorem dX11_end_66 : decode cX11_end 66 = .ok (.aload_n 2, 1) := by decide +kernel
theorem dX11_end_67 : decode cX11_end 67 = .ok (.aload_n 0, 1) := by decide +kernel
theorem dX11_end_68 : decode cX11_end 68 = .ok (.getfield 156, 3) := by decide +kernel
theorem dX11_end_71 : decode cX11_end 71 = .ok (.aload_n 2, 1) := by decide +kernel
theorem dX11_end_72 : decode cX11_end 72 = .ok (.getfield 159, 3) := by decide +kernel
theorem dX11_end_75 : decode cX11_end 75 = .ok (.invokestatic 86, 3) := by decide +kernel
theorem dX11_end_78 : decode cX11_end 78 = .ok (.putfield 155, 3) := by decide +kernel
theorem dX11_end_81 : decode cX11_end 81 = .ok (.iload_n 3, 1) := by decide +kernel
theorem dX11_end_82 : decode cX11_end 82 = .ok (.ireturn, 1) := by decide +kernel
set_option maxRecDepth 20000 in
theorem ggX11_aid_X11_isNoAid : GoodIn wsX11_aid wsX11_isNoAid := goodIn_r _ [5, 6, 7, 4, 8] (by decide +kernel) (by decide +kernel)
set_option maxRecDepth 20000 in
theorem gX11_aid_X11_isNoAid : GoodIn wsX11_aid (va_wsS RX11 160 yX11_isNoAid wsX11_isNoAid) := goodIn_app (goodIn_of _ (by decide +kernel)) ggX11_aid_X11_isNoAid
set_option maxRecDepth 20000 in
theorem ggX11_aid_X11_start : GoodIn wsX11_aid wsX11_start := goodIn_r _ [12, 13, 14, 15, 16, 4, 17, 18, 19, 20, 21, 22, 23, 24, 25, 26, 27, 28] (by decide +kernel) (by decide +kernel)
set_option maxRecDepth 20000 in
theorem gX11_aid_X11_start : GoodIn wsX11_aid (wsV RX11 142 RX11 yX11_start wsX11_start) := goodIn_app (goodIn_of _ (by decide +kernel)) ggX11_aid_X11_start
set_option maxRecDepth 20000 in
theorem ggX11_aid_X11_isIn : GoodIn wsX11_aid wsX11_isIn := goodIn_r _ [8] (by decide +kernel) (by decide +kernel)
set_option maxRecDepth 20000 in
theorem gX11_aid_X11_isIn : GoodIn wsX11_aid (va_wsS RX11 47 yX11_isIn wsX11_isIn) := goodIn_app (goodIn_of _ (by decide +kernel)) ggX11_aid_X11_isIn
set_option maxRecDepth 20000 in
theorem ggX11_aid_X11_refuse : GoodIn wsX11_aid wsX11_refuse := goodIn_r _ [17, 13, 18, 19, 20, 21, 22, 23, 24, 25, 26, 27, 28] (by decide +kernel) (by decide +kernel)
set_option maxRecDepth 20000 in
theorem gX11_aid_X11_refuse : GoodIn wsX11_aid (wsV RX11 39 RX11 yX11_refuse wsX11_refuse) := goodIn_app (goodIn_of _ (by decide +kernel)) ggX11_aid_X11_refuse
theorem dX11_aid_0 : decode cX11_aid 0 = .ok (.aload_n 0, 1) := by decide +kernel
theorem dX11_aid_1 : decode cX11_aid 1 = .ok (.iload_n 1, 1) := by decide +kernel
theorem dX11_aid_2 : decode cX11_aid 2 = .ok (.invokestatic 160, 3) := by decide +kernel
theorem dX11_aid_5 : decode cX11_aid 5 = .ok (.iconst 1, 1) := by decide +kernel
theorem dX11_aid_6 : decode cX11_aid 6 = .ok (.invokevirtual 142, 3) := by decide +kernel
theorem dX11_aid_9 : decode cX11_aid 9 = .ok (.ifCond .ne 25, 3) := by decide +kernel
theorem dX11_aid_12 : decode cX11_aid 12 = .ok (.aload_n 0, 1) := by decide +kernel
theorem dX11_aid_13 : decode cX11_aid 13 = .ok (.iload_n 2, 1) := by decide +kernel
theorem dX11_aid_14 : decode cX11_aid 14 = .ok (.iconst 0, 1) := by decide +kernel
theorem dX11_aid_15 : decode cX11_aid 15 = .ok (.iconst 2, 1) := by decide +kernel
theorem dX11_aid_16 : decode cX11_aid 16 = .ok (.invokestatic 47, 3) := by decide +kernel
theorem dX11_aid_19 : decode cX11_aid 19 = .ok (.ifCond .ne 7, 3) := by decide +kernel
theorem dX11_aid_22 : decode cX11_aid 22 = .ok (.iconst 1, 1) := by decide +kernel
theorem dX11_aid_23 : decode cX11_aid 23 = .ok (.goto 4, 3) := by decide +kernel
theorem dX11_aid_26 : decode cX11_aid 26 = .ok (.iconst 0, 1) := by decide +kernel
theorem dX11_aid_27 : decode cX11_aid 27 = .ok (.iconst 2, 1) := by decide +kernel
theorem dX11_aid_28 : decode cX11_aid 28 = .ok (.invokevirtual 39, 3) := by decide +kernel
theorem dX11_aid_31 : decode cX11_aid 31 = .ok (.ifCond .eq 5, 3) := by decide +kernel
theorem dX11_aid_34 : decode cX11_aid 34 = .ok (.iconst 0, 1) := by decide +kernel
theorem dX11_aid_35 : decode cX11_aid 35 = .ok (.ireturn, 1) := by decide +kernel
theorem dX11_aid_36 : decode cX11_aid 36 = .ok (.aload_n 0, 1) := by decide +kernel
theorem dX11_aid_37 : decode cX11_aid 37 = .ok (.getfield 16, 3) := by decide +kernel
theorem dX11_aid_40 : decode cX11_aid 40 = .ok (.iload_n 1, 1) := by decide +kernel
theorem dX11_aid_41 : decode cX11_aid 41 = .ok (.iaload, 1) := by decide +kernel
theorem dX11_aid_42 : decode cX11_aid 42 = .ok (.istore_n 3, 1) := by decide +kernel
theorem dX11_aid_43 : decode cX11_aid 43 = .ok (.aload_n 0, 1) := by decide +kernel
theorem dX11_aid_44 : decode cX11_aid 44 = .ok (.getfield 16, 3) := by decide +kernel
theorem dX11_aid_47 : decode cX11_aid 47 = .ok (.iload_n 1, 1) := by decide +kernel
theorem dX11_aid_48 : decode cX11_aid 48 = .ok (.iload_n 2, 1) := by decide +kernel
theorem dX11_aid_49 : decode cX11_aid 49 = .ok (.iastore, 1) := by decide +kernel
theorem dX11_aid_50 : decode cX11_aid 50 = .ok (.iload_n 3, 1) := by decide +kernel
theorem dX11_aid_51 : decode cX11_aid 51 = .ok (.ireturn, 1) := by decide +kernel
set_option maxRecDepth 20000 in
theorem ggX11_check_X11_isNoAid : GoodIn wsX11_check wsX11_isNoAid := goodIn_r _ [10, 11, 12, 9, 13] (by decide +kernel) (by decide +kernel)
set_option maxRecDepth 20000 in
theorem gX11_check_X11_isNoAid : GoodIn wsX11_check (va_wsS RX11 160 yX11_isNoAid wsX11_isNoAid) := goodIn_app (goodIn_of _ (by decide +kernel)) ggX11_check_X11_isNoAid
set_option maxRecDepth 20000 in
theorem ggX11_check_X11_start : GoodIn wsX11_check wsX11_start := goodIn_r _ [17, 18, 19, 20, 21, 9, 22, 23, 24, 25, 26, 27, 28, 29, 30, 31, 32, 33] (by decide +kernel) (by decide +kernel)
set_option maxRecDepth 20000 in
theorem gX11_check_X11_start : GoodIn wsX11_check (wsV RX11 142 RX11 yX11_start wsX11_start) := goodIn_app (goodIn_of _ (by decide +kernel)) ggX11_check_X11_start
set_option maxRecDepth 20000 in
theorem ggX11_check_X11_isIn : GoodIn wsX11_check wsX11_isIn := goodIn_r _ [13] (by decide +kernel) (by decide +kernel)
set_option maxRecDepth 20000 in
theorem gX11_check_X11_isIn : GoodIn wsX11_check (va_wsS RX11 47 yX11_isIn wsX11_isIn) := goodIn_app (goodIn_of _ (by decide +kernel)) ggX11_check_X11_isIn
set_option maxRecDepth 20000 in
theorem ggX11_check_X11_refuse : GoodIn wsX11_check wsX11_refuse := goodIn_r _ [22, 18, 23, 24, 25, 26, 27, 28, 29, 30, 31, 32, 33] (by decide +kernel) (by decide +kernel)
set_option maxRecDepth 20000 in
theorem gX11_check_X11_refuse : GoodIn wsX11_check (wsV RX11 39 RX11 yX11_refuse wsX11_refuse) := goodIn_app (goodIn_of _ (by decide +kernel)) ggX11_check_X11_refuse
theorem dX11_check_0 : decode cX11_check 0 = .ok (.aload_n 0, 1) := by decide +kernel
theorem dX11_check_1 : decode cX11_check 1 = .ok (.iload_n 1, 1) := by decide +kernel
theorem dX11_check_2 : decode cX11_check 2 = .ok (.invokestatic 160, 3) := by decide +kernel
theorem dX11_check_5 : decode cX11_check 5 = .ok (.iconst 1, 1) := by decide +kernel
theorem dX11_check_6 : decode cX11_check 6 = .ok (.invokevirtual 142, 3) := by decide +kernel
theorem dX11_check_9 : decode cX11_check 9 = .ok (.ifCond .ne 27, 3) := by decide +kernel
theorem dX11_check_12 : decode cX11_check 12 = .ok (.aload_n 0, 1) := by decide +kernel
theorem dX11_check_13 : decode cX11_check 13 = .ok (.iload_n 2, 1) := by decide +kernel
theorem dX11_check_14 : decode cX11_check 14 = .ok (.iconst 0, 1) := by decide +kernel
theorem dX11_check_15 : decode cX11_check 15 = .ok (.sipush 200, 3) := by decide +kernel
theorem dX11_check_18 : decode cX11_check 18 = .ok (.invokestatic 47, 3) := by decide +kernel
theorem dX11_check_21 : decode cX11_check 21 = .ok (.ifCond .ne 7, 3) := by decide +kernel
theorem dX11_check_24 : decode cX11_check 24 = .ok (.iconst 1, 1) := by decide +kernel
theorem dX11_check_25 : decode cX11_check 25 = .ok (.goto 4, 3) := by decide +kernel
theorem dX11_check_28 : decode cX11_check 28 = .ok (.iconst 0, 1) := by decide +kernel
theorem dX11_check_29 : decode cX11_check 29 = .ok (.iconst 2, 1) := by decide +kernel
theorem dX11_check_30 : decode cX11_check 30 = .ok (.invokevirtual 39, 3) := by decide +kernel
theorem dX11_check_33 : decode cX11_check 33 = .ok (.ifCond .eq 5, 3) := by decide +kernel
theorem dX11_check_36 : decode cX11_check 36 = .ok (.iconst 0, 1) := by decide +kernel
theorem dX11_check_37 : decode cX11_check 37 = .ok (.ireturn, 1) := by decide +kernel
theorem dX11_check_38 : decode cX11_check 38 = .ok (.aload_n 0, 1) := by decide +kernel
theorem dX11_check_39 : decode cX11_check 39 = .ok (.getfield 20, 3) := by decide +kernel
theorem dX11_check_42 : decode cX11_check 42 = .ok (.iload_n 1, 1) := by decide +kernel
theorem dX11_check_43 : decode cX11_check 43 = .ok (.sipush 399, 3) := by decide +kernel
theorem dX11_check_46 : decode cX11_check 46 = .ok (.aload_n 0, 1) := by decide +kernel
theorem dX11_check_47 : decode cX11_check 47 = .ok (.getfield 156, 3) := by decide +kernel
theorem dX11_check_50 : decode cX11_check 50 = .ok (.iload_n 2, 1) := by decide +kernel
theorem dX11_check_51 : decode cX11_check 51 = .ok (.iadd, 1) := by decide +kernel
theorem dX11_check_52 : decode cX11_check 52 = .ok (.invokestatic 163, 3) := by decide +kernel
theorem dX11_check_55 : decode cX11_check 55 = .ok (.iastore, 1) := by decide +kernel
theorem dX11_check_56 : decode cX11_check 56 = .ok (.aload_n 0, 1) := by decide +kernel
theorem dX11_check_57 : decode cX11_check 57 = .ok (.getfield 20, 3) := by decide +kernel
theorem dX11_check_60 : decode cX11_check 60 = .ok (.iload_n 1, 1) := by decide +kernel
theorem dX11_check_61 : decode cX11_check 61 = .ok (.iaload, 1) := by decide +kernel
theorem dX11_check_62 : decode cX11_check 62 = .ok (.ireturn, 1) := by decide +kernel
set_option maxRecDepth 20000 in
theorem ggX11_procedure_X11_isNoAid : GoodIn wsX11_procedure wsX11_isNoAid := goodIn_r _ [8, 9, 10, 7, 11] (by decide +kernel) (by decide +kernel)
set_option maxRecDepth 20000 in
theorem gX11_procedure_X11_isNoAid : GoodIn wsX11_procedure (va_wsS RX11 160 yX11_isNoAid wsX11_isNoAid) := goodIn_app (goodIn_of _ (by decide +kernel)) ggX11_procedure_X11_isNoAid
set_option maxRecDepth 20000 in
theorem ggX11_procedure_X11_start : GoodIn wsX11_procedure wsX11_start := goodIn_r _ [15, 16, 17, 18, 19, 7, 20, 105, 106, 107, 108, 109, 110, 111, 112, 113, 114, 115] (by decide +kernel) (by decide +kernel)
set_option maxRecDepth 20000 in
theorem gX11_procedure_X11_start : GoodIn wsX11_procedure (wsV RX11 142 RX11 yX11_start wsX11_start) := goodIn_app (goodIn_of _ (by decide +kernel)) ggX11_procedure_X11_start
set_option maxRecDepth 20000 in
theorem ggX11_procedure_X11_isIn : GoodIn wsX11_procedure wsX11_isIn := goodIn_r _ [11] (by decide +kernel) (by decide +kernel)
set_option maxRecDepth 20000 in
theorem gX11_procedure_X11_isIn : GoodIn wsX11_procedure (va_wsS RX11 47 yX11_isIn wsX11_isIn) := goodIn_app (goodIn_of _ (by decide +kernel)) ggX11_procedure_X11_isIn
set_option maxRecDepth 20000 in
theorem ggX11_procedure_X11_refuse : GoodIn wsX11_procedure wsX11_refuse := goodIn_r _ [20, 16, 105, 106, 107, 108, 109, 110, 111, 112, 113, 114, 115] (by decide +kernel) (by decide +kernel)
set_option maxRecDepth 20000 in
theorem gX11_procedure_X11_refuse : GoodIn wsX11_procedure (wsV RX11 39 RX11 yX11_refuse wsX11_refuse) := goodIn_app (goodIn_of _ (by decide +kernel)) ggX11_procedure_X11_refuse
set_option maxRecDepth 20000 in
theorem ggX11_procedure_Jx4a65c_size_8abf5 : GoodIn wsX11_procedure wsJx4a65c_size_8abf5 := goodIn_r _ [25, 26, 119, 120, 121] (by decide +kernel) (by decide +kernel)
set_option maxRecDepth 20000 in
theorem gX11_procedure_Jx4a65c_size_8abf5 : GoodIn wsX11_procedure (wsV RX11 43 RJx4a65c yJx4a65c_size_8abf5 wsJx4a65c_size_8abf5) := goodIn_app (goodIn_of _ (by decide +kernel)) ggX11_procedure_Jx4a65c_size_8abf5
set_option maxRecDepth 20000 in
theorem ggX11_procedure_X10_init : GoodIn wsX11_procedure wsX10_init := goodIn_r _ [29, 30, 31, 32, 33, 34, 24, 35, 36, 37, 38, 39, 40, 41, 42, 43, 44, 45, 46, 47, 48, 49, 50, 51, 52, 119, 120, 121, 116, 117, 118] (by decide +kernel) (by decide +kernel)
set_option maxRecDepth 20000 in
theorem gX11_procedure_X10_init : GoodIn wsX11_procedure (wsX10_init) := ggX11_procedure_X10_init
set_option maxRecDepth 20000 in
theorem ggX11_procedure_Jx4a65c_add_9ea2d : GoodIn wsX11_procedure wsJx4a65c_add_9ea2d := goodIn_r _ [56, 57, 58, 42, 26, 59, 60, 61, 24, 62, 63, 64, 65, 66, 67, 68, 69, 70, 41, 71, 72, 73, 74, 75, 76, 77, 78, 79, 80, 81, 82, 83, 84, 85, 86, 87, 88, 89, 90, 91, 92, 93, 94, 95, 96, 97, 98, 99, 100, 101, 102, 103, 104, 119, 120, 121] (by decide +kernel) (by decide +kernel)
set_option maxRecDepth 20000 in
theorem gX11_procedure_Jx4a65c_add_9ea2d : GoodIn wsX11_procedure (wsV RX11 148 RJx4a65c yJx4a65c_add_9ea2d wsJx4a65c_add_9ea2d) := goodIn_app (goodIn_of _ (by decide +kernel)) ggX11_procedure_Jx4a65c_add_9ea2d
theorem dX11_procedure_0 : decode cX11_procedure 0 = .ok (.aload_n 0, 1) := by decide +kernel
theorem dX11_procedure_1 : decode cX11_procedure 1 = .ok (.iload_n 1, 1) := by decide +kernel
theorem dX11_procedure_2 : decode cX11_procedure 2 = .ok (.invokestatic 160, 3) := by decide +kernel
theorem dX11_procedure_5 : decode cX11_procedure 5 = .ok (.iconst 1, 1) := by decide +kernel
theorem dX11_procedure_6 : decode cX11_procedure 6 = .ok (.invokevirtual 142, 3) := by decide +kernel
theorem dX11_procedure_9 : decode cX11_procedure 9 = .ok (.ifCond .ne 51, 3) := by decide +kernel
theorem dX11_procedure_12 : decode cX11_procedure 12 = .ok (.aload_n 0, 1) := by decide +kernel
theorem dX11_procedure_13 : decode cX11_procedure 13 = .ok (.iload_n 2, 1) := by decide +kernel
theorem dX11_procedure_14 : decode cX11_procedure 14 = .ok (.bipush 10, 2) := by decide +kernel
theorem dX11_procedure_16 : decode cX11_procedure 16 = .ok (.bipush 40, 2) := by decide +kernel
theorem dX11_procedure_18 : decode cX11_procedure 18 = .ok (.invokestatic 47, 3) := by decide +kernel
theorem dX11_procedure_21 : decode cX11_procedure 21 = .ok (.ifCond .ne 7, 3) := by decide +kernel
theorem dX11_procedure_24 : decode cX11_procedure 24 = .ok (.iconst 1, 1) := by decide +kernel
theorem dX11_procedure_25 : decode cX11_procedure 25 = .ok (.goto 4, 3) := by decide +kernel
theorem dX11_procedure_28 : decode cX11_procedure 28 = .ok (.iconst 0, 1) := by decide +kernel
theorem dX11_procedure_29 : decode cX11_procedure 29 = .ok (.iconst 2, 1) := by decide +kernel
theorem dX11_procedure_30 : decode cX11_procedure 30 = .ok (.invokevirtual 39, 3) := by decide +kernel
theorem dX11_procedure_33 : decode cX11_procedure 33 = .ok (.ifCond .ne 27, 3) := by decide +kernel
theorem dX11_procedure_36 : decode cX11_procedure 36 = .ok (.aload_n 0, 1) := by decide +kernel
theorem dX11_procedure_37 : decode cX11_procedure 37 = .ok (.aload_n 0, 1) := by decide +kernel
theorem dX11_procedure_38 : decode cX11_procedure 38 = .ok (.getfield 23, 3) := by decide +kernel
theorem dX11_procedure_41 : decode cX11_procedure 41 = .ok (.invokevirtual 43, 3) := by decide +kernel
theorem dX11_procedure_44 : decode cX11_procedure 44 = .ok (.iconst 4, 1) := by decide +kernel
theorem dX11_procedure_45 : decode cX11_procedure 45 = .ok (.if_icmp .ne 7, 3) := by decide +kernel
theorem dX11_procedure_48 : decode cX11_procedure 48 = .ok (.iconst 1, 1) := by decide +kernel
theorem dX11_procedure_49 : decode cX11_procedure 49 = .ok (.goto 4, 3) := by decide +kernel
theorem dX11_procedure_52 : decode cX11_procedure 52 = .ok (.iconst 0, 1) := by decide +kernel
theorem dX11_procedure_53 : decode cX11_procedure 53 = .ok (.iconst 3, 1) := by decide +kernel
theorem dX11_procedure_54 : decode cX11_procedure 54 = .ok (.invokevirtual 39, 3) := by decide +kernel
theorem dX11_procedure_57 : decode cX11_procedure 57 = .ok (.ifCond .eq 5, 3) := by decide +kernel
theorem dX11_procedure_60 : decode cX11_procedure 60 = .ok (.iconst 0, 1) := by decide +kernel
theorem dX11_procedure_61 : decode cX11_procedure 61 = .ok (.ireturn, 1) := by decide +kernel
theorem dX11_procedure_62 : decode cX11_procedure 62 = .ok (.aload_n 0, 1) := by decide +kernel
theorem dX11_procedure_63 : decode cX11_procedure 63 = .ok (.getfield 23, 3) := by decide +kernel
theorem dX11_procedure_66 : decode cX11_procedure 66 = .ok (.new 59, 3) := by decide +kernel
theorem dX11_procedure_69 : decode cX11_procedure 69 = .ok (.dup, 1) := by decide +kernel
theorem dX11_procedure_70 : decode cX11_procedure 70 = .ok (.iload_n 1, 1) := by decide +kernel
theorem dX11_procedure_71 : decode cX11_procedure 71 = .ok (.iload_n 2, 1) := by decide +kernel
theorem dX11_procedure_72 : decode cX11_procedure 72 = .ok (.invokespecial 166, 3) := by decide +kernel
theorem dX11_procedure_75 : decode cX11_procedure 75 = .ok (.invokevirtual 148, 3) := by decide +kernel
theorem dX11_procedure_78 : decode cX11_procedure 78 = .ok (.pop, 1) := by decide +kernel
theorem dX11_procedure_79 : decode cX11_procedure 79 = .ok (.aload_n 0, 1) := by decide +kernel
theorem dX11_procedure_80 : decode cX11_procedure 80 = .ok (.getfield 23, 3) := by decide +kernel
theorem dX11_procedure_83 : decode cX11_procedure 83 = .ok (.invokevirtual 43, 3) := by decide +kernel
theorem dX11_procedure_86 : decode cX11_procedure 86 = .ok (.iconst 1, 1) := by decide +kernel
theorem dX11_procedure_87 : decode cX11_procedure 87 = .ok (.isub, 1) := by decide +kernel
theorem dX11_procedure_88 : decode cX11_procedure 88 = .ok (.ireturn, 1) := by decide +kernel
set_option maxRecDepth 20000 in
theorem ggX11_pass_X11_isIn : GoodIn wsX11_pass wsX11_isIn := goodIn_r _ [7] (by decide +kernel) (by decide +kernel)
set_option maxRecDepth 20000 in
theorem gX11_pass_X11_isIn : GoodIn wsX11_pass (va_wsS RX11 47 yX11_isIn wsX11_isIn) := goodIn_app (goodIn_of _ (by decide +kernel)) ggX11_pass_X11_isIn
set_option maxRecDepth 20000 in
theorem ggX11_pass_X11_start : GoodIn wsX11_pass wsX11_start := goodIn_r _ [11, 12, 13, 14, 15, 6, 16, 123, 124, 125, 126, 127, 128, 129, 130, 131, 132, 133] (by decide +kernel) (by decide +kernel)
set_option maxRecDepth 20000 in
theorem gX11_pass_X11_start : GoodIn wsX11_pass (wsV RX11 142 RX11 yX11_start wsX11_start) := goodIn_app (goodIn_of _ (by decide +kernel)) ggX11_pass_X11_start
set_option maxRecDepth 20000 in
theorem ggX11_pass_X11_refuse : GoodIn wsX11_pass wsX11_refuse := goodIn_r _ [16, 12, 123, 124, 125, 126, 127, 128, 129, 130, 131, 132, 133] (by decide +kernel) (by decide +kernel)
set_option maxRecDepth 20000 in
theorem gX11_pass_X11_refuse : GoodIn wsX11_pass (wsV RX11 39 RX11 yX11_refuse wsX11_refuse) := goodIn_app (goodIn_of _ (by decide +kernel)) ggX11_pass_X11_refuse
set_option maxRecDepth 20000 in
theorem ggX11_pass_Jx4a65c_size_8abf5 : GoodIn wsX11_pass wsJx4a65c_size_8abf5 := goodIn_r _ [21, 22, 134, 135, 136] (by decide +kernel) (by decide +kernel)
set_option maxRecDepth 20000 in
theorem gX11_pass_Jx4a65c_size_8abf5 : GoodIn wsX11_pass (wsV RX11 43 RJx4a65c yJx4a65c_size_8abf5 wsJx4a65c_size_8abf5) := goodIn_app (goodIn_of _ (by decide +kernel)) ggX11_pass_Jx4a65c_size_8abf5
set_option maxRecDepth 20000 in
theorem ggX11_pass_X11_isUnsafe : GoodIn wsX11_pass wsX11_isUnsafe := goodIn_r _ [26, 27, 28, 29, 6, 30, 2, 31, 32, 33, 34, 35, 36, 20, 37, 22, 38, 39, 40, 41, 42, 43, 44, 45, 46, 47, 48, 49, 50, 51, 52, 53, 54, 55, 56, 57, 58, 59, 60, 61, 62, 63, 18, 19, 21, 64, 17, 65, 66, 67, 68, 69, 70, 71, 72, 73, 74, 75, 76, 77, 78, 79, 80, 81, 82, 83, 84, 85, 86, 87, 88, 89, 90, 91, 92, 93, 94, 95, 96, 97, 98, 99, 100, 101, 102, 103, 104, 105, 106, 107, 108, 109, 110, 111, 112, 113, 114, 115, 116, 117, 118, 119, 120, 121, 122, 123, 124, 125, 126, 127, 128, 129, 130, 131, 132, 133, 137, 138, 139, 134, 135, 136, 140, 141, 142, 143, 144, 145, 146, 147, 148, 149] (by decide +kernel) (by decide +kernel)
set_option maxRecDepth 20000 in
theorem gX11_pass_X11_isUnsafe : GoodIn wsX11_pass (wsV RX11 169 RX11 yX11_isUnsafe wsX11_isUnsafe) := goodIn_app (goodIn_of _ (by decide +kernel)) ggX11_pass_X11_isUnsafe
theorem dX11_pass_0 : decode cX11_pass 0 = .ok (.aload_n 0, 1) := by decide +kernel
theorem dX11_pass_1 : decode cX11_pass 1 = .ok (.iload_n 1, 1) := by decide +kernel
theorem dX11_pass_2 : decode cX11_pass 2 = .ok (.iconst 1, 1) := by decide +kernel
theorem dX11_pass_3 : decode cX11_pass 3 = .ok (.bipush 60, 2) := by decide +kernel
theorem dX11_pass_5 : decode cX11_pass 5 = .ok (.invokestatic 47, 3) := by decide +kernel
theorem dX11_pass_8 : decode cX11_pass 8 = .ok (.ifCond .ne 7, 3) := by decide +kernel
theorem dX11_pass_11 : decode cX11_pass 11 = .ok (.iconst 1, 1) := by decide +kernel
theorem dX11_pass_12 : decode cX11_pass 12 = .ok (.goto 4, 3) := by decide +kernel
theorem dX11_pass_15 : decode cX11_pass 15 = .ok (.iconst 0, 1) := by decide +kernel
theorem dX11_pass_16 : decode cX11_pass 16 = .ok (.iconst 1, 1) := by decide +kernel
theorem dX11_pass_17 : decode cX11_pass 17 = .ok (.invokevirtual 142, 3) := by decide +kernel
theorem dX11_pass_20 : decode cX11_pass 20 = .ok (.ifCond .ne 28, 3) := by decide +kernel
theorem dX11_pass_23 : decode cX11_pass 23 = .ok (.aload_n 0, 1) := by decide +kernel
theorem dX11_pass_24 : decode cX11_pass 24 = .ok (.aload_n 0, 1) := by decide +kernel
theorem dX11_pass_25 : decode cX11_pass 25 = .ok (.getfield 156, 3) := by decide +kernel
theorem dX11_pass_28 : decode cX11_pass 28 = .ok (.iload_n 1, 1) := by decide +kernel
theorem dX11_pass_29 : decode cX11_pass 29 = .ok (.iadd, 1) := by decide +kernel
theorem dX11_pass_30 : decode cX11_pass 30 = .ok (.sipush 399, 3) := by decide +kernel
theorem dX11_pass_33 : decode cX11_pass 33 = .ok (.if_icmp .le 7, 3) := by decide +kernel
theorem dX11_pass_36 : decode cX11_pass 36 = .ok (.iconst 1, 1) := by decide +kernel
theorem dX11_pass_37 : decode cX11_pass 37 = .ok (.goto 4, 3) := by decide +kernel
theorem dX11_pass_40 : decode cX11_pass 40 = .ok (.iconst 0, 1) := by decide +kernel
theorem dX11_pass_41 : decode cX11_pass 41 = .ok (.iconst 2, 1) := by decide +kernel
theorem dX11_pass_42 : decode cX11_pass 42 = .ok (.invokevirtual 39, 3) := by decide +kernel
theorem dX11_pass_45 : decode cX11_pass 45 = .ok (.ifCond .eq 5, 3) := by decide +kernel
theorem dX11_pass_48 : decode cX11_pass 48 = .ok (.iconst 0, 1) := by decide +kernel
theorem dX11_pass_49 : decode cX11_pass 49 = .ok (.ireturn, 1) := by decide +kernel
theorem dX11_pass_50 : decode cX11_pass 50 = .ok (.iconst 0, 1) := by decide +kernel
theorem dX11_pass_51 : decode cX11_pass 51 = .ok (.istore_n 2, 1) := by decide +kernel
theorem dX11_pass_52 : decode cX11_pass 52 = .ok (.iconst 0, 1) := by decide +kernel
theorem dX11_pass_53 : decode cX11_pass 53 = .ok (.istore_n 3, 1) := by decide +kernel
theorem dX11_pass_54 : decode cX11_pass 54 = .ok (.iload_n 3, 1) := by decide +kernel
theorem dX11_pass_55 : decode cX11_pass 55 = .ok (.iload_n 1, 1) := by decide +kernel
theorem dX11_pass_56 : decode cX11_pass 56 = .ok (.if_icmp .ge 61, 3) := by decide +kernel
theorem dX11_pass_59 : decode cX11_pass 59 = .ok (.aload_n 0, 1) := by decide +kernel
theorem dX11_pass_60 : decode cX11_pass 60 = .ok (.dup, 1) := by decide +kernel
theorem dX11_pass_61 : decode cX11_pass 61 = .ok (.getfield 156, 3) := by decide +kernel
theorem dX11_pass_64 : decode cX11_pass 64 = .ok (.iconst 1, 1) := by decide +kernel
theorem dX11_pass_65 : decode cX11_pass 65 = .ok (.iadd, 1) := by decide +kernel
theorem dX11_pass_66 : decode cX11_pass 66 = .ok (.putfield 156, 3) := by decide +kernel
theorem dX11_pass_69 : decode cX11_pass 69 = .ok (.iconst 0, 1) := by decide +kernel
theorem dX11_pass_70 : decode cX11_pass 70 = .ok (.istore 4, 2) := by decide +kernel
theorem dX11_pass_72 : decode cX11_pass 72 = .ok (.iload 4, 2) := by decide +kernel
theorem dX11_pass_74 : decode cX11_pass 74 = .ok (.aload_n 0, 1) := by decide +kernel
theorem dX11_pass_75 : decode cX11_pass 75 = .ok (.getfield 23, 3) := by decide +kernel
theorem dX11_pass_78 : decode cX11_pass 78 = .ok (.invokevirtual 43, 3) := by decide +kernel
theorem dX11_pass_81 : decode cX11_pass 81 = .ok (.if_icmp .ge 30, 3) := by decide +kernel
theorem dX11_pass_84 : decode cX11_pass 84 = .ok (.iload_n 2, 1) := by decide +kernel
theorem dX11_pass_85 : decode cX11_pass 85 = .ok (.aload_n 0, 1) := by decide +kernel
theorem dX11_pass_86 : decode cX11_pass 86 = .ok (.iload 4, 2) := by decide +kernel
theorem dX11_pass_88 : decode cX11_pass 88 = .ok (.aload_n 0, 1) := by decide +kernel
theorem dX11_pass_89 : decode cX11_pass 89 = .ok (.getfield 156, 3) := by decide +kernel
theorem dX11_pass_92 : decode cX11_pass 92 = .ok (.invokevirtual 169, 3) := by decide +kernel
theorem dX11_pass_95 : decode cX11_pass 95 = .ok (.ifCond .eq 7, 3) := by decide +kernel
theorem dX11_pass_98 : decode cX11_pass 98 = .ok (.iconst 1, 1) := by decide +kernel
theorem dX11_pass_99 : decode cX11_pass 99 = .ok (.goto 4, 3) := by decide +kernel
theorem dX11_pass_102 : decode cX11_pass 102 = .ok (.iconst 0, 1) := by decide +kernel
theorem dX11_pass_103 : decode cX11_pass 103 = .ok (.iadd, 1) := by decide +kernel
theorem dX11_pass_104 : decode cX11_pass 104 = .ok (.istore_n 2, 1) := by decide +kernel
theorem dX11_pass_105 : decode cX11_pass 105 = .ok (.iinc 4 1, 3) := by decide +kernel
theorem dX11_pass_108 : decode cX11_pass 108 = .ok (.goto (-36), 3) := by decide +kernel
theorem dX11_pass_111 : decode cX11_pass 111 = .ok (.iinc 3 1, 3) := by decide +kernel
theorem dX11_pass_114 : decode cX11_pass 114 = .ok (.goto (-60), 3) := by decide +kernel
theorem dX11_pass_117 : decode cX11_pass 117 = .ok (.aload_n 0, 1) := by decide +kernel
theorem dX11_pass_118 : decode cX11_pass 118 = .ok (.dup, 1) := by decide +kernel
theorem dX11_pass_119 : decode cX11_pass 119 = .ok (.getfield 172, 3) := by decide +kernel
theorem dX11_pass_122 : decode cX11_pass 122 = .ok (.iload_n 2, 1) := by decide +kernel
theorem dX11_pass_123 : decode cX11_pass 123 = .ok (.iadd, 1) := by decide +kernel
theorem dX11_pass_124 : decode cX11_pass 124 = .ok (.putfield 172, 3) := by decide +kernel
theorem dX11_pass_127 : decode cX11_pass 127 = .ok (.iload_n 2, 1) := by decide +kernel
theorem dX11_pass_128 : decode cX11_pass 128 = .ok (.ireturn, 1) := by decide +kernel
set_option maxRecDepth 20000 in
theorem ggX11_amend_X11_isNoProcedure : GoodIn wsX11_amend wsX11_isNoProcedure := goodIn_r _ [15, 7, 16, 17, 18, 19, 20, 21, 22, 23, 14, 24, 142, 143, 144, 145, 146, 147, 148, 149, 150, 151, 152, 156, 157, 158] (by decide +kernel) (by decide +kernel)
set_option maxRecDepth 20000 in
theorem gX11_amend_X11_isNoProcedure : GoodIn wsX11_amend (wsV RX11 175 RX11 yX11_isNoProcedure wsX11_isNoProcedure) := goodIn_app (goodIn_of _ (by decide +kernel)) ggX11_amend_X11_isNoProcedure
set_option maxRecDepth 20000 in
theorem ggX11_amend_X11_start : GoodIn wsX11_amend wsX11_start := goodIn_r _ [28, 29, 30, 31, 32, 14, 33, 142, 143, 144, 145, 146, 147, 148, 149, 150, 151, 152] (by decide +kernel) (by decide +kernel)
set_option maxRecDepth 20000 in
theorem gX11_amend_X11_start : GoodIn wsX11_amend (wsV RX11 142 RX11 yX11_start wsX11_start) := goodIn_app (goodIn_of _ (by decide +kernel)) ggX11_amend_X11_start
set_option maxRecDepth 20000 in
theorem ggX11_amend_X11_refuse : GoodIn wsX11_amend wsX11_refuse := goodIn_r _ [33, 29, 142, 143, 144, 145, 146, 147, 148, 149, 150, 151, 152] (by decide +kernel) (by decide +kernel)
set_option maxRecDepth 20000 in
theorem gX11_amend_X11_refuse : GoodIn wsX11_amend (wsV RX11 39 RX11 yX11_refuse wsX11_refuse) := goodIn_app (goodIn_of _ (by decide +kernel)) ggX11_amend_X11_refuse
set_option maxRecDepth 20000 in
theorem ggX11_amend_X11_demandedNow_ : GoodIn wsX11_amend wsX11_demandedNow_ := goodIn_r _ [37, 38, 39, 40, 14, 41, 7, 8, 42, 43, 44, 45, 46, 47, 48, 3, 4, 5, 6, 49, 50, 51, 19, 52, 21, 53, 54, 55, 56, 57, 58, 59, 60, 61, 62, 63, 64, 65, 16, 17, 18, 20, 66, 67, 68, 69, 70, 71, 72, 73, 74, 75, 76, 77, 78, 79, 80, 81, 82, 83, 84, 85, 86, 87, 88, 89, 90, 91, 142, 143, 144, 145, 146, 147, 148, 149, 150, 151, 152, 153, 154, 155, 159, 160, 161, 162, 163, 156, 157, 158] (by decide +kernel) (by decide +kernel)
set_option maxRecDepth 20000 in
theorem gX11_amend_X11_demandedNow_ : GoodIn wsX11_amend (wsV RX11 136 RX11 yX11_demandedNow_ wsX11_demandedNow_) := goodIn_app (goodIn_of _ (by decide +kernel)) ggX11_amend_X11_demandedNow_
set_option maxRecDepth 20000 in
theorem ggX11_amend_Jx4a65c_get_915e3 : GoodIn wsX11_amend wsJx4a65c_get_915e3 := goodIn_r _ [52, 21, 53, 54, 55, 56, 57, 58, 59, 60, 61, 62, 63, 19, 64, 65, 156, 157, 158] (by decide +kernel) (by decide +kernel)
set_option maxRecDepth 20000 in
theorem gX11_amend_Jx4a65c_get_915e3 : GoodIn wsX11_amend (wsV RX11 55 RJx4a65c yJx4a65c_get_915e3 wsJx4a65c_get_915e3) := goodIn_app (goodIn_of _ (by decide +kernel)) ggX11_amend_Jx4a65c_get_915e3
set_option maxRecDepth 20000 in
theorem ggX11_amend_Jx4a65c_add_9ea2d : GoodIn wsX11_amend wsJx4a65c_add_9ea2d := goodIn_r _ [95, 96, 97, 65, 21, 98, 99, 100, 19, 101, 102, 103, 104, 105, 106, 107, 108, 109, 110, 111, 4, 5, 6, 112, 113, 114, 115, 116, 117, 118, 119, 120, 121, 122, 123, 124, 125, 126, 127, 128, 129, 130, 131, 132, 133, 134, 135, 136, 137, 138, 139, 140, 141, 156, 157, 158] (by decide +kernel) (by decide +kernel)
set_option maxRecDepth 20000 in
theorem gX11_amend_Jx4a65c_add_9ea2d : GoodIn wsX11_amend (wsV RX11 148 RJx4a65c yJx4a65c_add_9ea2d wsJx4a65c_add_9ea2d) := goodIn_app (goodIn_of _ (by decide +kernel)) ggX11_amend_Jx4a65c_add_9ea2d
theorem dX11_amend_0 : decode cX11_amend 0 = .ok (.aload_n 0, 1) := by decide +kernel
theorem dX11_amend_1 : decode cX11_amend 1 = .ok (.getfield 156, 3) := by decide +kernel
theorem dX11_amend_4 : decode cX11_amend 4 = .ok (.bipush 14, 2) := by decide +kernel
theorem dX11_amend_6 : decode cX11_amend 6 = .ok (.iadd, 1) := by decide +kernel
theorem dX11_amend_7 : decode cX11_amend 7 = .ok (.bipush 28, 2) := by decide +kernel
theorem dX11_amend_9 : decode cX11_amend 9 = .ok (.iadd, 1) := by decide +kernel
theorem dX11_amend_10 : decode cX11_amend 10 = .ok (.iconst 1, 1) := by decide +kernel
theorem dX11_amend_11 : decode cX11_amend 11 = .ok (.isub, 1) := by decide +kernel
theorem dX11_amend_12 : decode cX11_amend 12 = .ok (.bipush 28, 2) := by decide +kernel
theorem dX11_amend_14 : decode cX11_amend 14 = .ok (.idiv, 1) := by decide +kernel
theorem dX11_amend_15 : decode cX11_amend 15 = .ok (.bipush 28, 2) := by decide +kernel
theorem dX11_amend_17 : decode cX11_amend 17 = .ok (.imul, 1) := by decide +kernel
theorem dX11_amend_18 : decode cX11_amend 18 = .ok (.istore_n 2, 1) := by decide +kernel
theorem dX11_amend_19 : decode cX11_amend 19 = .ok (.aload_n 0, 1) := by decide +kernel
theorem dX11_amend_20 : decode cX11_amend 20 = .ok (.aload_n 0, 1) := by decide +kernel
theorem dX11_amend_21 : decode cX11_amend 21 = .ok (.iload_n 1, 1) := by decide +kernel
theorem dX11_amend_22 : decode cX11_amend 22 = .ok (.invokevirtual 175, 3) := by decide +kernel
theorem dX11_amend_25 : decode cX11_amend 25 = .ok (.iconst 1, 1) := by decide +kernel
theorem dX11_amend_26 : decode cX11_amend 26 = .ok (.invokevirtual 142, 3) := by decide +kernel
theorem dX11_amend_29 : decode cX11_amend 29 = .ok (.ifCond .ne 32, 3) := by decide +kernel
theorem dX11_amend_32 : decode cX11_amend 32 = .ok (.aload_n 0, 1) := by decide +kernel
theorem dX11_amend_33 : decode cX11_amend 33 = .ok (.aload_n 0, 1) := by decide +kernel
theorem dX11_amend_34 : decode cX11_amend 34 = .ok (.getfield 178, 3) := by decide +kernel
theorem dX11_amend_37 : decode cX11_amend 37 = .ok (.bipush 20, 2) := by decide +kernel
theorem dX11_amend_39 : decode cX11_amend 39 = .ok (.if_icmp .eq 10, 3) := by decide +kernel
theorem dX11_amend_42 : decode cX11_amend 42 = .ok (.iload_n 2, 1) := by decide +kernel
theorem dX11_amend_43 : decode cX11_amend 43 = .ok (.sipush 399, 3) := by decide +kernel
theorem dX11_amend_46 : decode cX11_amend 46 = .ok (.if_icmp .le 7, 3) := by decide +kernel
theorem dX11_amend_49 : decode cX11_amend 49 = .ok (.iconst 1, 1) := by decide +kernel
theorem dX11_amend_50 : decode cX11_amend 50 = .ok (.goto 4, 3) := by decide +kernel
theorem dX11_amend_53 : decode cX11_amend 53 = .ok (.iconst 0, 1) := by decide +kernel
theorem dX11_amend_54 : decode cX11_amend 54 = .ok (.iconst 2, 1) := by decide +kernel
theorem dX11_amend_55 : decode cX11_amend 55 = .ok (.invokevirtual 39, 3) := by decide +kernel
theorem dX11_amend_58 : decode cX11_amend 58 = .ok (.ifCond .eq 5, 3) := by decide +kernel
theorem dX11_amend_61 : decode cX11_amend 61 = .ok (.iconst 0, 1) := by decide +kernel
theorem dX11_amend_62 : decode cX11_amend 62 = .ok (.ireturn, 1) := by decide +kernel
theorem dX11_amend_63 : decode cX11_amend 63 = .ok (.iconst 0, 1) := by decide +kernel
theorem dX11_amend_64 : decode cX11_amend 64 = .ok (.istore_n 3, 1) := by decide +kernel
theorem dX11_amend_65 : decode cX11_amend 65 = .ok (.iload_n 2, 1) := by decide +kernel
theorem dX11_amend_66 : decode cX11_amend 66 = .ok (.istore 4, 2) := by decide +kernel
theorem dX11_amend_68 : decode cX11_amend 68 = .ok (.iload 4, 2) := by decide +kernel
theorem dX11_amend_70 : decode cX11_amend 70 = .ok (.iload_n 2, 1) := by decide +kernel
theorem dX11_amend_71 : decode cX11_amend 71 = .ok (.bipush 28, 2) := by decide +kernel
theorem dX11_amend_73 : decode cX11_amend 73 = .ok (.iadd, 1) := by decide +kernel
theorem dX11_amend_74 : decode cX11_amend 74 = .ok (.if_icmp .ge 29, 3) := by decide +kernel
theorem dX11_amend_77 : decode cX11_amend 77 = .ok (.iload 4, 2) := by decide +kernel
theorem dX11_amend_79 : decode cX11_amend 79 = .ok (.sipush 399, 3) := by decide +kernel
theorem dX11_amend_82 : decode cX11_amend 82 = .ok (.if_icmp .gt 21, 3) := by decide +kernel
theorem dX11_amend_85 : decode cX11_amend 85 = .ok (.iload_n 3, 1) := by decide +kernel
theorem dX11_amend_86 : decode cX11_amend 86 = .ok (.aload_n 0, 1) := by decide +kernel
theorem dX11_amend_87 : decode cX11_amend 87 = .ok (.iload_n 1, 1) := by decide +kernel
theorem dX11_amend_88 : decode cX11_amend 88 = .ok (.iload 4, 2) := by decide +kernel
theorem dX11_amend_90 : decode cX11_amend 90 = .ok (.invokevirtual 136, 3) := by decide +kernel
theorem dX11_amend_93 : decode cX11_amend 93 = .ok (.invokestatic 86, 3) := by decide +kernel
theorem dX11_amend_96 : decode cX11_amend 96 = .ok (.istore_n 3, 1) := by decide +kernel
theorem dX11_amend_97 : decode cX11_amend 97 = .ok (.iinc 4 1, 3) := by decide +kernel
theorem dX11_amend_100 : decode cX11_amend 100 = .ok (.goto (-32), 3) := by decide +kernel
theorem dX11_amend_103 : decode cX11_amend 103 = .ok (.aload_n 0, 1) := by decide +kernel
theorem dX11_amend_104 : decode cX11_amend 104 = .ok (.getfield 23, 3) := by decide +kernel
theorem dX11_amend_107 : decode cX11_amend 107 = .ok (.iload_n 1, 1) := by decide +kernel
theorem dX11_amend_108 : decode cX11_amend 108 = .ok (.invokevirtual 55, 3) := by decide +kernel
theorem dX11_amend_111 : decode cX11_amend 111 = .ok (.checkcast 59, 3) := by decide +kernel
theorem dX11_amend_114 : decode cX11_amend 114 = .ok (.getfield 181, 3) := by decide +kernel
theorem dX11_amend_117 : decode cX11_amend 117 = .ok (.iconst 2, 1) := by decide +kernel
theorem dX11_amend_118 : decode cX11_amend 118 = .ok (.newarray .int, 2) := by decide +kernel
theorem dX11_amend_120 : decode cX11_amend 120 = .ok (.dup, 1) := by decide +kernel
theorem dX11_amend_121 : decode cX11_amend 121 = .ok (.iconst 0, 1) := by decide +kernel
theorem dX11_amend_122 : decode cX11_amend 122 = .ok (.iload_n 2, 1) := by decide +kernel
theorem dX11_amend_123 : decode cX11_amend 123 = .ok (.iastore, 1) := by decide +kernel
theorem dX11_amend_124 : decode cX11_amend 124 = .ok (.dup, 1) := by decide +kernel
theorem dX11_amend_125 : decode cX11_amend 125 = .ok (.iconst 1, 1) := by decide +kernel
theorem dX11_amend_126 : decode cX11_amend 126 = .ok (.iload_n 3, 1) := by decide +kernel
theorem dX11_amend_127 : decode cX11_amend 127 = .ok (.iastore, 1) := by decide +kernel
theorem dX11_amend_128 : decode cX11_amend 128 = .ok (.invokevirtual 148, 3) := by decide +kernel
theorem dX11_amend_131 : decode cX11_amend 131 = .ok (.pop, 1) := by decide +kernel
theorem dX11_amend_132 : decode cX11_amend 132 = .ok (.aload_n 0, 1) := by decide +kernel
theorem dX11_amend_133 : decode cX11_amend 133 = .ok (.dup, 1) := by decide +kernel
theorem dX11_amend_134 : decode cX11_amend 134 = .ok (.getfield 178, 3) := by decide +kernel
theorem dX11_amend_137 : decode cX11_amend 137 = .ok (.iconst 1, 1) := by decide +kernel
theorem dX11_amend_138 : decode cX11_amend 138 = .ok (.iadd, 1) := by decide +kernel
theorem dX11_amend_139 : decode cX11_amend 139 = .ok (.putfield 178, 3) := by decide +kernel
theorem dX11_amend_142 : decode cX11_amend 142 = .ok (.iload_n 3, 1) := by decide +kernel
theorem dX11_amend_143 : decode cX11_amend 143 = .ok (.ireturn, 1) := by decide +kernel
set_option maxRecDepth 20000 in
theorem ggX11_isNoTime_X11_isIn : GoodIn wsX11_isNoTime wsX11_isIn := goodIn_r _ [5] (by decide +kernel) (by decide +kernel)
set_option maxRecDepth 20000 in
theorem gX11_isNoTime_X11_isIn : GoodIn wsX11_isNoTime (va_wsS RX11 47 yX11_isIn wsX11_isIn) := goodIn_app (goodIn_of _ (by decide +kernel)) ggX11_isNoTime_X11_isIn
theorem dX11_isNoTime_0 : decode cX11_isNoTime 0 = .ok (.iload_n 1, 1) := by decide +kernel
theorem dX11_isNoTime_1 : decode cX11_isNoTime 1 = .ok (.aload_n 0, 1) := by decide +kernel
theorem dX11_isNoTime_2 : decode cX11_isNoTime 2 = .ok (.getfield 156, 3) := by decide +kernel
theorem dX11_isNoTime_5 : decode cX11_isNoTime 5 = .ok (.sipush 399, 3) := by decide +kernel
theorem dX11_isNoTime_8 : decode cX11_isNoTime 8 = .ok (.invokestatic 47, 3) := by decide +kernel
theorem dX11_isNoTime_11 : decode cX11_isNoTime 11 = .ok (.ifCond .eq 14, 3) := by decide +kernel
theorem dX11_isNoTime_14 : decode cX11_isNoTime 14 = .ok (.iload_n 2, 1) := by decide +kernel
theorem dX11_isNoTime_15 : decode cX11_isNoTime 15 = .ok (.iload_n 1, 1) := by decide +kernel
theorem dX11_isNoTime_16 : decode cX11_isNoTime 16 = .ok (.sipush 399, 3) := by decide +kernel
theorem dX11_isNoTime_19 : decode cX11_isNoTime 19 = .ok (.invokestatic 47, 3) := by decide +kernel
theorem dX11_isNoTime_22 : decode cX11_isNoTime 22 = .ok (.ifCond .ne 7, 3) := by decide +kernel
theorem dX11_isNoTime_25 : decode cX11_isNoTime 25 = .ok (.iconst 1, 1) := by decide +kernel
theorem dX11_isNoTime_26 : decode cX11_isNoTime 26 = .ok (.goto 4, 3) := by decide +kernel
theorem dX11_isNoTime_29 : decode cX11_isNoTime 29 = .ok (.iconst 0, 1) := by decide +kernel
theorem dX11_isNoTime_30 : decode cX11_isNoTime 30 = .ok (.ireturn, 1) := by decide +kernel
set_option maxRecDepth 20000 in
theorem ggX11_notice_X8_init : GoodIn wsX11_notice wsX8_init := goodIn_r _ [7, 8, 9, 10, 11, 12, 13, 14, 15, 87, 88, 89, 90, 91] (by decide +kernel) (by decide +kernel)
set_option maxRecDepth 20000 in
theorem gX11_notice_X8_init : GoodIn wsX11_notice (wsX8_init) := ggX11_notice_X8_init
set_option maxRecDepth 20000 in
theorem ggX11_notice_Jx4a65c_add_9ea2d : GoodIn wsX11_notice wsJx4a65c_add_9ea2d := goodIn_r _ [20, 21, 22, 23, 24, 25, 26, 27, 19, 28, 29, 30, 31, 32, 33, 34, 35, 36, 37, 38, 39, 40, 41, 42, 43, 44, 45, 46, 47, 48, 49, 50, 51, 52, 53, 54, 55, 56, 57, 58, 59, 60, 61, 62, 63, 64, 65, 66, 67, 68, 69, 70, 71, 92, 93, 94] (by decide +kernel) (by decide +kernel)
set_option maxRecDepth 20000 in
theorem gX11_notice_Jx4a65c_add_9ea2d : GoodIn wsX11_notice (wsV RX11 148 RJx4a65c yJx4a65c_add_9ea2d wsJx4a65c_add_9ea2d) := goodIn_app (goodIn_of _ (by decide +kernel)) ggX11_notice_Jx4a65c_add_9ea2d
set_option maxRecDepth 20000 in
theorem ggX11_notice_Jx4a65c_size_8abf5 : GoodIn wsX11_notice wsJx4a65c_size_8abf5 := goodIn_r _ [75, 24, 92, 93, 94] (by decide +kernel) (by decide +kernel)
set_option maxRecDepth 20000 in
theorem gX11_notice_Jx4a65c_size_8abf5 : GoodIn wsX11_notice (wsV RX11 43 RJx4a65c yJx4a65c_size_8abf5 wsJx4a65c_size_8abf5) := goodIn_app (goodIn_of _ (by decide +kernel)) ggX11_notice_Jx4a65c_size_8abf5
theorem dX11_notice_0 : decode cX11_notice 0 = .ok (.aload_n 0, 1) := by decide +kernel
theorem dX11_notice_1 : decode cX11_notice 1 = .ok (.getfield 26, 3) := by decide +kernel
theorem dX11_notice_4 : decode cX11_notice 4 = .ok (.new 102, 3) := by decide +kernel
theorem dX11_notice_7 : decode cX11_notice 7 = .ok (.dup, 1) := by decide +kernel
theorem dX11_notice_8 : decode cX11_notice 8 = .ok (.iload_n 1, 1) := by decide +kernel
theorem dX11_notice_9 : decode cX11_notice 9 = .ok (.iload_n 2, 1) := by decide +kernel
theorem dX11_notice_10 : decode cX11_notice 10 = .ok (.iload_n 3, 1) := by decide +kernel
theorem dX11_notice_11 : decode cX11_notice 11 = .ok (.iload 4, 2) := by decide +kernel
theorem dX11_notice_13 : decode cX11_notice 13 = .ok (.iload 5, 2) := by decide +kernel
theorem dX11_notice_15 : decode cX11_notice 15 = .ok (.invokespecial 183, 3) := by decide +kernel
theorem dX11_notice_18 : decode cX11_notice 18 = .ok (.invokevirtual 148, 3) := by decide +kernel
theorem dX11_notice_21 : decode cX11_notice 21 = .ok (.pop, 1) := by decide +kernel
theorem dX11_notice_22 : decode cX11_notice 22 = .ok (.aload_n 0, 1) := by decide +kernel
theorem dX11_notice_23 : decode cX11_notice 23 = .ok (.getfield 26, 3) := by decide +kernel
theorem dX11_notice_26 : decode cX11_notice 26 = .ok (.invokevirtual 43, 3) := by decide +kernel
theorem dX11_notice_29 : decode cX11_notice 29 = .ok (.iconst 1, 1) := by decide +kernel
theorem dX11_notice_30 : decode cX11_notice 30 = .ok (.isub, 1) := by decide +kernel
theorem dX11_notice_31 : decode cX11_notice 31 = .ok (.ireturn, 1) := by decide +kernel
set_option maxRecDepth 20000 in
theorem ggX11_isFull_Jx4a65c_size_8abf5 : GoodIn wsX11_isFull wsJx4a65c_size_8abf5 := goodIn_r _ [6, 7, 19, 20, 21] (by decide +kernel) (by decide +kernel)
set_option maxRecDepth 20000 in
theorem gX11_isFull_Jx4a65c_size_8abf5 : GoodIn wsX11_isFull (wsV RX11 43 RJx4a65c yJx4a65c_size_8abf5 wsJx4a65c_size_8abf5) := goodIn_app (goodIn_of _ (by decide +kernel)) ggX11_isFull_Jx4a65c_size_8abf5
theorem dX11_isFull_0 : decode cX11_isFull 0 = .ok (.aload_n 0, 1) := by decide +kernel
theorem dX11_isFull_1 : decode cX11_isFull 1 = .ok (.getfield 26, 3) := by decide +kernel
theorem dX11_isFull_4 : decode cX11_isFull 4 = .ok (.invokevirtual 43, 3) := by decide +kernel
theorem dX11_isFull_7 : decode cX11_isFull 7 = .ok (.bipush 16, 2) := by decide +kernel
theorem dX11_isFull_9 : decode cX11_isFull 9 = .ok (.if_icmp .ne 7, 3) := by decide +kernel
theorem dX11_isFull_12 : decode cX11_isFull 12 = .ok (.iconst 1, 1) := by decide +kernel
theorem dX11_isFull_13 : decode cX11_isFull 13 = .ok (.goto 4, 3) := by decide +kernel
theorem dX11_isFull_16 : decode cX11_isFull 16 = .ok (.iconst 0, 1) := by decide +kernel
theorem dX11_isFull_17 : decode cX11_isFull 17 = .ok (.ireturn, 1) := by decide +kernel
set_option maxRecDepth 20000 in
theorem ggX11_raise_X11_isNoProcedure : GoodIn wsX11_raise wsX11_isNoProcedure := goodIn_r _ [5, 6, 7, 8, 9, 10, 11, 12, 13, 14, 4, 15, 107, 108, 109, 110, 111, 112, 113, 114, 115, 116, 117, 118, 119, 120] (by decide +kernel) (by decide +kernel)
set_option maxRecDepth 20000 in
theorem gX11_raise_X11_isNoProcedure : GoodIn wsX11_raise (wsV RX11 175 RX11 yX11_isNoProcedure wsX11_isNoProcedure) := goodIn_app (goodIn_of _ (by decide +kernel)) ggX11_raise_X11_isNoProcedure
set_option maxRecDepth 20000 in
theorem ggX11_raise_X11_start : GoodIn wsX11_raise wsX11_start := goodIn_r _ [19, 20, 21, 22, 23, 4, 24, 107, 108, 109, 110, 111, 112, 113, 114, 115, 116, 117] (by decide +kernel) (by decide +kernel)
set_option maxRecDepth 20000 in
theorem gX11_raise_X11_start : GoodIn wsX11_raise (wsV RX11 142 RX11 yX11_start wsX11_start) := goodIn_app (goodIn_of _ (by decide +kernel)) ggX11_raise_X11_start
set_option maxRecDepth 20000 in
theorem ggX11_raise_X11_isIn : GoodIn wsX11_raise wsX11_isIn := goodIn_r _ [15] (by decide +kernel) (by decide +kernel)
set_option maxRecDepth 20000 in
theorem gX11_raise_X11_isIn : GoodIn wsX11_raise (va_wsS RX11 47 yX11_isIn wsX11_isIn) := goodIn_app (goodIn_of _ (by decide +kernel)) ggX11_raise_X11_isIn
set_option maxRecDepth 20000 in
theorem ggX11_raise_X11_isNoTime : GoodIn wsX11_raise wsX11_isNoTime := goodIn_r _ [28, 29, 13, 14, 4, 15, 107, 108, 109, 110, 111, 112, 113, 114, 115, 116, 117] (by decide +kernel) (by decide +kernel)
set_option maxRecDepth 20000 in
theorem gX11_raise_X11_isNoTime : GoodIn wsX11_raise (wsV RX11 184 RX11 yX11_isNoTime wsX11_isNoTime) := goodIn_app (goodIn_of _ (by decide +kernel)) ggX11_raise_X11_isNoTime
set_option maxRecDepth 20000 in
theorem ggX11_raise_X11_refuse : GoodIn wsX11_raise wsX11_refuse := goodIn_r _ [24, 20, 107, 108, 109, 110, 111, 112, 113, 114, 115, 116, 117] (by decide +kernel) (by decide +kernel)
set_option maxRecDepth 20000 in
theorem gX11_raise_X11_refuse : GoodIn wsX11_raise (wsV RX11 39 RX11 yX11_refuse wsX11_refuse) := goodIn_app (goodIn_of _ (by decide +kernel)) ggX11_raise_X11_refuse
set_option maxRecDepth 20000 in
theorem ggX11_raise_X11_isFull : GoodIn wsX11_raise wsX11_isFull := goodIn_r _ [33, 34, 7, 8, 9, 10, 11, 12, 107, 108, 109, 110, 111, 112, 113, 114, 115, 116, 117, 118, 119, 120] (by decide +kernel) (by decide +kernel)
set_option maxRecDepth 20000 in
theorem gX11_raise_X11_isFull : GoodIn wsX11_raise (wsV RX11 187 RX11 yX11_isFull wsX11_isFull) := goodIn_app (goodIn_of _ (by decide +kernel)) ggX11_raise_X11_isFull
set_option maxRecDepth 20000 in
theorem ggX11_raise_X11_notice : GoodIn wsX11_raise wsX11_notice := goodIn_r _ [38, 34, 39, 40, 41, 42, 43, 44, 45, 46, 47, 48, 49, 50, 51, 52, 53, 54, 55, 10, 56, 57, 58, 59, 12, 60, 61, 62, 63, 64, 65, 66, 67, 68, 69, 70, 71, 72, 73, 74, 75, 76, 77, 78, 79, 80, 81, 82, 83, 84, 85, 86, 87, 88, 89, 90, 91, 92, 93, 94, 95, 96, 97, 98, 99, 100, 101, 102, 103, 104, 105, 106, 7, 8, 9, 11, 107, 108, 109, 110, 111, 112, 113, 114, 115, 116, 117, 121, 122, 123, 124, 125, 118, 119, 120] (by decide +kernel) (by decide +kernel)
set_option maxRecDepth 20000 in
theorem gX11_raise_X11_notice : GoodIn wsX11_raise (wsV RX11 191 RX11 yX11_notice wsX11_notice) := goodIn_app (goodIn_of _ (by decide +kernel)) ggX11_raise_X11_notice
theorem dX11_raise_0 : decode cX11_raise 0 = .ok (.aload_n 0, 1) := by decide +kernel
theorem dX11_raise_1 : decode cX11_raise 1 = .ok (.aload_n 0, 1) := by decide +kernel
theorem dX11_raise_2 : decode cX11_raise 2 = .ok (.iload_n 1, 1) := by decide +kernel
theorem dX11_raise_3 : decode cX11_raise 3 = .ok (.invokevirtual 175, 3) := by decide +kernel
theorem dX11_raise_6 : decode cX11_raise 6 = .ok (.iconst 1, 1) := by decide +kernel
theorem dX11_raise_7 : decode cX11_raise 7 = .ok (.invokevirtual 142, 3) := by decide +kernel
theorem dX11_raise_10 : decode cX11_raise 10 = .ok (.ifCond .ne 49, 3) := by decide +kernel
theorem dX11_raise_13 : decode cX11_raise 13 = .ok (.aload_n 0, 1) := by decide +kernel
theorem dX11_raise_14 : decode cX11_raise 14 = .ok (.iload_n 2, 1) := by decide +kernel
theorem dX11_raise_15 : decode cX11_raise 15 = .ok (.iconst 1, 1) := by decide +kernel
theorem dX11_raise_16 : decode cX11_raise 16 = .ok (.sipush 500, 3) := by decide +kernel
theorem dX11_raise_19 : decode cX11_raise 19 = .ok (.invokestatic 47, 3) := by decide +kernel
theorem dX11_raise_22 : decode cX11_raise 22 = .ok (.ifCond .eq 13, 3) := by decide +kernel
theorem dX11_raise_25 : decode cX11_raise 25 = .ok (.aload_n 0, 1) := by decide +kernel
theorem dX11_raise_26 : decode cX11_raise 26 = .ok (.iload_n 3, 1) := by decide +kernel
theorem dX11_raise_27 : decode cX11_raise 27 = .ok (.iload 4, 2) := by decide +kernel
theorem dX11_raise_29 : decode cX11_raise 29 = .ok (.invokevirtual 184, 3) := by decide +kernel
theorem dX11_raise_32 : decode cX11_raise 32 = .ok (.ifCond .eq 7, 3) := by decide +kernel
theorem dX11_raise_35 : decode cX11_raise 35 = .ok (.iconst 1, 1) := by decide +kernel
theorem dX11_raise_36 : decode cX11_raise 36 = .ok (.goto 4, 3) := by decide +kernel
theorem dX11_raise_39 : decode cX11_raise 39 = .ok (.iconst 0, 1) := by decide +kernel
theorem dX11_raise_40 : decode cX11_raise 40 = .ok (.iconst 2, 1) := by decide +kernel
theorem dX11_raise_41 : decode cX11_raise 41 = .ok (.invokevirtual 39, 3) := by decide +kernel
theorem dX11_raise_44 : decode cX11_raise 44 = .ok (.ifCond .ne 15, 3) := by decide +kernel
theorem dX11_raise_47 : decode cX11_raise 47 = .ok (.aload_n 0, 1) := by decide +kernel
theorem dX11_raise_48 : decode cX11_raise 48 = .ok (.aload_n 0, 1) := by decide +kernel
theorem dX11_raise_49 : decode cX11_raise 49 = .ok (.invokevirtual 187, 3) := by decide +kernel
theorem dX11_raise_52 : decode cX11_raise 52 = .ok (.iconst 3, 1) := by decide +kernel
theorem dX11_raise_53 : decode cX11_raise 53 = .ok (.invokevirtual 39, 3) := by decide +kernel
theorem dX11_raise_56 : decode cX11_raise 56 = .ok (.ifCond .eq 7, 3) := by decide +kernel
theorem dX11_raise_59 : decode cX11_raise 59 = .ok (.iconst 0, 1) := by decide +kernel
theorem dX11_raise_60 : decode cX11_raise 60 = .ok (.goto 13, 3) := by decide +kernel
theorem dX11_raise_63 : decode cX11_raise 63 = .ok (.aload_n 0, 1) := by decide +kernel
theorem dX11_raise_64 : decode cX11_raise 64 = .ok (.iconst 0, 1) := by decide +kernel
theorem dX11_raise_65 : decode cX11_raise 65 = .ok (.iload_n 1, 1) := by decide +kernel
theorem dX11_raise_66 : decode cX11_raise 66 = .ok (.iload_n 2, 1) := by decide +kernel
theorem dX11_raise_67 : decode cX11_raise 67 = .ok (.iload_n 3, 1) := by decide +kernel
theorem dX11_raise_68 : decode cX11_raise 68 = .ok (.iload 4, 2) := by decide +kernel
theorem dX11_raise_70 : decode cX11_raise 70 = .ok (.invokevirtual 191, 3) := by decide +kernel
theorem dX11_raise_73 : decode cX11_raise 73 = .ok (.ireturn, 1) := by decide +kernel
set_option maxRecDepth 20000 in
theorem ggX11_out_X11_isNoAid : GoodIn wsX11_out wsX11_isNoAid := goodIn_r _ [4, 5, 6, 3, 7] (by decide +kernel) (by decide +kernel)
set_option maxRecDepth 20000 in
theorem gX11_out_X11_isNoAid : GoodIn wsX11_out (va_wsS RX11 160 yX11_isNoAid wsX11_isNoAid) := goodIn_app (goodIn_of _ (by decide +kernel)) ggX11_out_X11_isNoAid
set_option maxRecDepth 20000 in
theorem ggX11_out_X11_start : GoodIn wsX11_out wsX11_start := goodIn_r _ [11, 12, 13, 14, 15, 3, 16, 105, 106, 107, 108, 109, 110, 111, 112, 113, 114, 115] (by decide +kernel) (by decide +kernel)
set_option maxRecDepth 20000 in
theorem gX11_out_X11_start : GoodIn wsX11_out (wsV RX11 142 RX11 yX11_start wsX11_start) := goodIn_app (goodIn_of _ (by decide +kernel)) ggX11_out_X11_start
set_option maxRecDepth 20000 in
theorem ggX11_out_X11_isNoTime : GoodIn wsX11_out wsX11_isNoTime := goodIn_r _ [20, 21, 5, 6, 3, 7, 105, 106, 107, 108, 109, 110, 111, 112, 113, 114, 115] (by decide +kernel) (by decide +kernel)
set_option maxRecDepth 20000 in
theorem gX11_out_X11_isNoTime : GoodIn wsX11_out (wsV RX11 184 RX11 yX11_isNoTime wsX11_isNoTime) := goodIn_app (goodIn_of _ (by decide +kernel)) ggX11_out_X11_isNoTime
set_option maxRecDepth 20000 in
theorem ggX11_out_X11_refuse : GoodIn wsX11_out wsX11_refuse := goodIn_r _ [16, 12, 105, 106, 107, 108, 109, 110, 111, 112, 113, 114, 115] (by decide +kernel) (by decide +kernel)
set_option maxRecDepth 20000 in
theorem gX11_out_X11_refuse : GoodIn wsX11_out (wsV RX11 39 RX11 yX11_refuse wsX11_refuse) := goodIn_app (goodIn_of _ (by decide +kernel)) ggX11_out_X11_refuse
set_option maxRecDepth 20000 in
theorem ggX11_out_X11_isFull : GoodIn wsX11_out wsX11_isFull := goodIn_r _ [25, 26, 27, 28, 29, 30, 31, 32, 105, 106, 107, 108, 109, 110, 111, 112, 113, 114, 115, 116, 117, 118] (by decide +kernel) (by decide +kernel)
set_option maxRecDepth 20000 in
theorem gX11_out_X11_isFull : GoodIn wsX11_out (wsV RX11 187 RX11 yX11_isFull wsX11_isFull) := goodIn_app (goodIn_of _ (by decide +kernel)) ggX11_out_X11_isFull
set_option maxRecDepth 20000 in
theorem ggX11_out_X11_notice : GoodIn wsX11_out wsX11_notice := goodIn_r _ [36, 26, 37, 38, 39, 40, 41, 42, 43, 44, 45, 46, 47, 48, 49, 50, 51, 52, 53, 30, 54, 55, 56, 57, 32, 58, 59, 60, 61, 62, 63, 64, 65, 66, 67, 68, 69, 70, 71, 72, 73, 74, 75, 76, 77, 78, 79, 80, 81, 82, 83, 84, 85, 86, 87, 88, 89, 90, 91, 92, 93, 94, 95, 96, 97, 98, 99, 100, 101, 102, 103, 104, 27, 28, 29, 31, 105, 106, 107, 108, 109, 110, 111, 112, 113, 114, 115, 119, 120, 121, 122, 123, 116, 117, 118] (by decide +kernel) (by decide +kernel)
set_option maxRecDepth 20000 in
theorem gX11_out_X11_notice : GoodIn wsX11_out (wsV RX11 191 RX11 yX11_notice wsX11_notice) := goodIn_app (goodIn_of _ (by decide +kernel)) ggX11_out_X11_notice
theorem dX11_out_0 : decode cX11_out 0 = .ok (.aload_n 0, 1) := by decide +kernel
theorem dX11_out_1 : decode cX11_out 1 = .ok (.iload_n 1, 1) := by decide +kernel
theorem dX11_out_2 : decode cX11_out 2 = .ok (.invokestatic 160, 3) := by decide +kernel
theorem dX11_out_5 : decode cX11_out 5 = .ok (.iconst 1, 1) := by decide +kernel
theorem dX11_out_6 : decode cX11_out 6 = .ok (.invokevirtual 142, 3) := by decide +kernel
theorem dX11_out_9 : decode cX11_out 9 = .ok (.ifCond .ne 29, 3) := by decide +kernel
theorem dX11_out_12 : decode cX11_out 12 = .ok (.aload_n 0, 1) := by decide +kernel
theorem dX11_out_13 : decode cX11_out 13 = .ok (.aload_n 0, 1) := by decide +kernel
theorem dX11_out_14 : decode cX11_out 14 = .ok (.iload_n 2, 1) := by decide +kernel
theorem dX11_out_15 : decode cX11_out 15 = .ok (.iload_n 3, 1) := by decide +kernel
theorem dX11_out_16 : decode cX11_out 16 = .ok (.invokevirtual 184, 3) := by decide +kernel
theorem dX11_out_19 : decode cX11_out 19 = .ok (.iconst 2, 1) := by decide +kernel
theorem dX11_out_20 : decode cX11_out 20 = .ok (.invokevirtual 39, 3) := by decide +kernel
theorem dX11_out_23 : decode cX11_out 23 = .ok (.ifCond .ne 15, 3) := by decide +kernel
theorem dX11_out_26 : decode cX11_out 26 = .ok (.aload_n 0, 1) := by decide +kernel
theorem dX11_out_27 : decode cX11_out 27 = .ok (.aload_n 0, 1) := by decide +kernel
theorem dX11_out_28 : decode cX11_out 28 = .ok (.invokevirtual 187, 3) := by decide +kernel
theorem dX11_out_31 : decode cX11_out 31 = .ok (.iconst 3, 1) := by decide +kernel
theorem dX11_out_32 : decode cX11_out 32 = .ok (.invokevirtual 39, 3) := by decide +kernel
theorem dX11_out_35 : decode cX11_out 35 = .ok (.ifCond .eq 7, 3) := by decide +kernel
theorem dX11_out_38 : decode cX11_out 38 = .ok (.iconst 0, 1) := by decide +kernel
theorem dX11_out_39 : decode cX11_out 39 = .ok (.goto 12, 3) := by decide +kernel
theorem dX11_out_42 : decode cX11_out 42 = .ok (.aload_n 0, 1) := by decide +kernel
theorem dX11_out_43 : decode cX11_out 43 = .ok (.iconst 1, 1) := by decide +kernel
theorem dX11_out_44 : decode cX11_out 44 = .ok (.iload_n 1, 1) := by decide +kernel
theorem dX11_out_45 : decode cX11_out 45 = .ok (.iconst 0, 1) := by decide +kernel
theorem dX11_out_46 : decode cX11_out 46 = .ok (.iload_n 2, 1) := by decide +kernel
theorem dX11_out_47 : decode cX11_out 47 = .ok (.iload_n 3, 1) := by decide +kernel
theorem dX11_out_48 : decode cX11_out 48 = .ok (.invokevirtual 191, 3) := by decide +kernel
theorem dX11_out_51 : decode cX11_out 51 = .ok (.ireturn, 1) := by decide +kernel
set_option maxRecDepth 20000 in
theorem ggX11_close_X11_isNoProcedure : GoodIn wsX11_close wsX11_isNoProcedure := goodIn_r _ [5, 6, 7, 8, 9, 10, 11, 12, 13, 14, 4, 15, 107, 108, 109, 110, 111, 112, 113, 114, 115, 116, 117, 118, 119, 120] (by decide +kernel) (by decide +kernel)
set_option maxRecDepth 20000 in
theorem gX11_close_X11_isNoProcedure : GoodIn wsX11_close (wsV RX11 175 RX11 yX11_isNoProcedure wsX11_isNoProcedure) := goodIn_app (goodIn_of _ (by decide +kernel)) ggX11_close_X11_isNoProcedure
set_option maxRecDepth 20000 in
theorem ggX11_close_X11_start : GoodIn wsX11_close wsX11_start := goodIn_r _ [19, 20, 21, 22, 23, 4, 24, 107, 108, 109, 110, 111, 112, 113, 114, 115, 116, 117] (by decide +kernel) (by decide +kernel)
set_option maxRecDepth 20000 in
theorem gX11_close_X11_start : GoodIn wsX11_close (wsV RX11 142 RX11 yX11_start wsX11_start) := goodIn_app (goodIn_of _ (by decide +kernel)) ggX11_close_X11_start
set_option maxRecDepth 20000 in
theorem ggX11_close_X11_isNoTime : GoodIn wsX11_close wsX11_isNoTime := goodIn_r _ [28, 29, 13, 14, 4, 15, 107, 108, 109, 110, 111, 112, 113, 114, 115, 116, 117] (by decide +kernel) (by decide +kernel)
set_option maxRecDepth 20000 in
theorem gX11_close_X11_isNoTime : GoodIn wsX11_close (wsV RX11 184 RX11 yX11_isNoTime wsX11_isNoTime) := goodIn_app (goodIn_of _ (by decide +kernel)) ggX11_close_X11_isNoTime
set_option maxRecDepth 20000 in
theorem ggX11_close_X11_refuse : GoodIn wsX11_close wsX11_refuse := goodIn_r _ [24, 20, 107, 108, 109, 110, 111, 112, 113, 114, 115, 116, 117] (by decide +kernel) (by decide +kernel)
set_option maxRecDepth 20000 in
theorem gX11_close_X11_refuse : GoodIn wsX11_close (wsV RX11 39 RX11 yX11_refuse wsX11_refuse) := goodIn_app (goodIn_of _ (by decide +kernel)) ggX11_close_X11_refuse
set_option maxRecDepth 20000 in
theorem ggX11_close_X11_isFull : GoodIn wsX11_close wsX11_isFull := goodIn_r _ [33, 34, 7, 8, 9, 10, 11, 12, 107, 108, 109, 110, 111, 112, 113, 114, 115, 116, 117, 118, 119, 120] (by decide +kernel) (by decide +kernel)
set_option maxRecDepth 20000 in
theorem gX11_close_X11_isFull : GoodIn wsX11_close (wsV RX11 187 RX11 yX11_isFull wsX11_isFull) := goodIn_app (goodIn_of _ (by decide +kernel)) ggX11_close_X11_isFull
set_option maxRecDepth 20000 in
theorem ggX11_close_X11_notice : GoodIn wsX11_close wsX11_notice := goodIn_r _ [38, 34, 39, 40, 41, 42, 43, 44, 45, 46, 47, 48, 49, 50, 51, 52, 53, 54, 55, 10, 56, 57, 58, 59, 12, 60, 61, 62, 63, 64, 65, 66, 67, 68, 69, 70, 71, 72, 73, 74, 75, 76, 77, 78, 79, 80, 81, 82, 83, 84, 85, 86, 87, 88, 89, 90, 91, 92, 93, 94, 95, 96, 97, 98, 99, 100, 101, 102, 103, 104, 105, 106, 7, 8, 9, 11, 107, 108, 109, 110, 111, 112, 113, 114, 115, 116, 117, 121, 122, 123, 124, 125, 118, 119, 120] (by decide +kernel) (by decide +kernel)
set_option maxRecDepth 20000 in
theorem gX11_close_X11_notice : GoodIn wsX11_close (wsV RX11 191 RX11 yX11_notice wsX11_notice) := goodIn_app (goodIn_of _ (by decide +kernel)) ggX11_close_X11_notice
theorem dX11_close_0 : decode cX11_close 0 = .ok (.aload_n 0, 1) := by decide +kernel
theorem dX11_close_1 : decode cX11_close 1 = .ok (.aload_n 0, 1) := by decide +kernel
theorem dX11_close_2 : decode cX11_close 2 = .ok (.iload_n 1, 1) := by decide +kernel
theorem dX11_close_3 : decode cX11_close 3 = .ok (.invokevirtual 175, 3) := by decide +kernel
theorem dX11_close_6 : decode cX11_close 6 = .ok (.iconst 1, 1) := by decide +kernel
theorem dX11_close_7 : decode cX11_close 7 = .ok (.invokevirtual 142, 3) := by decide +kernel
theorem dX11_close_10 : decode cX11_close 10 = .ok (.ifCond .ne 29, 3) := by decide +kernel
theorem dX11_close_13 : decode cX11_close 13 = .ok (.aload_n 0, 1) := by decide +kernel
theorem dX11_close_14 : decode cX11_close 14 = .ok (.aload_n 0, 1) := by decide +kernel
theorem dX11_close_15 : decode cX11_close 15 = .ok (.iload_n 2, 1) := by decide +kernel
theorem dX11_close_16 : decode cX11_close 16 = .ok (.iload_n 3, 1) := by decide +kernel
theorem dX11_close_17 : decode cX11_close 17 = .ok (.invokevirtual 184, 3) := by decide +kernel
theorem dX11_close_20 : decode cX11_close 20 = .ok (.iconst 2, 1) := by decide +kernel
theorem dX11_close_21 : decode cX11_close 21 = .ok (.invokevirtual 39, 3) := by decide +kernel
theorem dX11_close_24 : decode cX11_close 24 = .ok (.ifCond .ne 15, 3) := by decide +kernel
theorem dX11_close_27 : decode cX11_close 27 = .ok (.aload_n 0, 1) := by decide +kernel
theorem dX11_close_28 : decode cX11_close 28 = .ok (.aload_n 0, 1) := by decide +kernel
theorem dX11_close_29 : decode cX11_close 29 = .ok (.invokevirtual 187, 3) := by decide +kernel
theorem dX11_close_32 : decode cX11_close 32 = .ok (.iconst 3, 1) := by decide +kernel
theorem dX11_close_33 : decode cX11_close 33 = .ok (.invokevirtual 39, 3) := by decide +kernel
theorem dX11_close_36 : decode cX11_close 36 = .ok (.ifCond .eq 7, 3) := by decide +kernel
theorem dX11_close_39 : decode cX11_close 39 = .ok (.iconst 0, 1) := by decide +kernel
theorem dX11_close_40 : decode cX11_close 40 = .ok (.goto 12, 3) := by decide +kernel
theorem dX11_close_43 : decode cX11_close 43 = .ok (.aload_n 0, 1) := by decide +kernel
theorem dX11_close_44 : decode cX11_close 44 = .ok (.iconst 2, 1) := by decide +kernel
theorem dX11_close_45 : decode cX11_close 45 = .ok (.iload_n 1, 1) := by decide +kernel
theorem dX11_close_46 : decode cX11_close 46 = .ok (.iconst 0, 1) := by decide +kernel
theorem dX11_close_47 : decode cX11_close 47 = .ok (.iload_n 2, 1) := by decide +kernel
theorem dX11_close_48 : decode cX11_close 48 = .ok (.iload_n 3, 1) := by decide +kernel
theorem dX11_close_49 : decode cX11_close 49 = .ok (.invokevirtual 191, 3) := by decide +kernel
theorem dX11_close_52 : decode cX11_close 52 = .ok (.ireturn, 1) := by decide +kernel
set_option maxRecDepth 20000 in
theorem ggX11_cancel_Jx4a65c_size_8abf5 : GoodIn wsX11_cancel wsJx4a65c_size_8abf5 := goodIn_r _ [9, 10, 132, 133, 134] (by decide +kernel) (by decide +kernel)
set_option maxRecDepth 20000 in
theorem gX11_cancel_Jx4a65c_size_8abf5 : GoodIn wsX11_cancel (wsV RX11 43 RJx4a65c yJx4a65c_size_8abf5 wsJx4a65c_size_8abf5) := goodIn_app (goodIn_of _ (by decide +kernel)) ggX11_cancel_Jx4a65c_size_8abf5
set_option maxRecDepth 20000 in
theorem ggX11_cancel_X11_isIn : GoodIn wsX11_cancel wsX11_isIn := goodIn_r _ [14] (by decide +kernel) (by decide +kernel)
set_option maxRecDepth 20000 in
theorem gX11_cancel_X11_isIn : GoodIn wsX11_cancel (va_wsS RX11 47 yX11_isIn wsX11_isIn) := goodIn_app (goodIn_of _ (by decide +kernel)) ggX11_cancel_X11_isIn
set_option maxRecDepth 20000 in
theorem ggX11_cancel_X11_start : GoodIn wsX11_cancel wsX11_start := goodIn_r _ [18, 19, 20, 21, 22, 13, 23, 116, 117, 118, 119, 120, 121, 122, 123, 124, 125, 126] (by decide +kernel) (by decide +kernel)
set_option maxRecDepth 20000 in
theorem gX11_cancel_X11_start : GoodIn wsX11_cancel (wsV RX11 142 RX11 yX11_start wsX11_start) := goodIn_app (goodIn_of _ (by decide +kernel)) ggX11_cancel_X11_start
set_option maxRecDepth 20000 in
theorem ggX11_cancel_Jx4a65c_get_915e3 : GoodIn wsX11_cancel wsJx4a65c_get_915e3 := goodIn_r _ [27, 10, 28, 29, 30, 31, 32, 33, 34, 35, 36, 37, 38, 8, 39, 40, 132, 133, 134] (by decide +kernel) (by decide +kernel)
set_option maxRecDepth 20000 in
theorem gX11_cancel_Jx4a65c_get_915e3 : GoodIn wsX11_cancel (wsV RX11 55 RJx4a65c yJx4a65c_get_915e3 wsJx4a65c_get_915e3) := goodIn_app (goodIn_of _ (by decide +kernel)) ggX11_cancel_Jx4a65c_get_915e3
set_option maxRecDepth 20000 in
theorem ggX11_cancel_X11_isFull : GoodIn wsX11_cancel wsX11_isFull := goodIn_r _ [44, 1, 5, 6, 7, 8, 9, 10, 116, 117, 118, 119, 120, 121, 122, 123, 124, 125, 126, 132, 133, 134] (by decide +kernel) (by decide +kernel)
set_option maxRecDepth 20000 in
theorem gX11_cancel_X11_isFull : GoodIn wsX11_cancel (wsV RX11 187 RX11 yX11_isFull wsX11_isFull) := goodIn_app (goodIn_of _ (by decide +kernel)) ggX11_cancel_X11_isFull
set_option maxRecDepth 20000 in
theorem ggX11_cancel_X11_refuse : GoodIn wsX11_cancel wsX11_refuse := goodIn_r _ [23, 19, 116, 117, 118, 119, 120, 121, 122, 123, 124, 125, 126] (by decide +kernel) (by decide +kernel)
set_option maxRecDepth 20000 in
theorem gX11_cancel_X11_refuse : GoodIn wsX11_cancel (wsV RX11 39 RX11 yX11_refuse wsX11_refuse) := goodIn_app (goodIn_of _ (by decide +kernel)) ggX11_cancel_X11_refuse
set_option maxRecDepth 20000 in
theorem ggX11_cancel_X11_notice : GoodIn wsX11_cancel wsX11_notice := goodIn_r _ [48, 1, 49, 50, 51, 52, 53, 54, 55, 56, 57, 58, 59, 60, 61, 62, 63, 64, 65, 8, 66, 67, 68, 40, 10, 69, 70, 71, 72, 73, 74, 75, 76, 77, 78, 79, 80, 81, 82, 83, 84, 85, 86, 87, 88, 89, 90, 91, 92, 93, 94, 95, 96, 97, 98, 99, 100, 101, 102, 103, 104, 105, 106, 107, 108, 109, 110, 111, 112, 113, 114, 115, 5, 6, 7, 9, 116, 117, 118, 119, 120, 121, 122, 123, 124, 125, 126, 127, 128, 129, 130, 131, 132, 133, 134] (by decide +kernel) (by decide +kernel)
set_option maxRecDepth 20000 in
theorem gX11_cancel_X11_notice : GoodIn wsX11_cancel (wsV RX11 191 RX11 yX11_notice wsX11_notice) := goodIn_app (goodIn_of _ (by decide +kernel)) ggX11_cancel_X11_notice
theorem dX11_cancel_0 : decode cX11_cancel 0 = .ok (.aload_n 0, 1) := by decide +kernel
theorem dX11_cancel_1 : decode cX11_cancel 1 = .ok (.iload_n 1, 1) := by decide +kernel
theorem dX11_cancel_2 : decode cX11_cancel 2 = .ok (.iconst 0, 1) := by decide +kernel
theorem dX11_cancel_3 : decode cX11_cancel 3 = .ok (.aload_n 0, 1) := by decide +kernel
theorem dX11_cancel_4 : decode cX11_cancel 4 = .ok (.getfield 26, 3) := by decide +kernel
theorem dX11_cancel_7 : decode cX11_cancel 7 = .ok (.invokevirtual 43, 3) := by decide +kernel
theorem dX11_cancel_10 : decode cX11_cancel 10 = .ok (.iconst 1, 1) := by decide +kernel
theorem dX11_cancel_11 : decode cX11_cancel 11 = .ok (.isub, 1) := by decide +kernel
theorem dX11_cancel_12 : decode cX11_cancel 12 = .ok (.invokestatic 47, 3) := by decide +kernel
theorem dX11_cancel_15 : decode cX11_cancel 15 = .ok (.ifCond .ne 7, 3) := by decide +kernel
theorem dX11_cancel_18 : decode cX11_cancel 18 = .ok (.iconst 1, 1) := by decide +kernel
theorem dX11_cancel_19 : decode cX11_cancel 19 = .ok (.goto 4, 3) := by decide +kernel
theorem dX11_cancel_22 : decode cX11_cancel 22 = .ok (.iconst 0, 1) := by decide +kernel
theorem dX11_cancel_23 : decode cX11_cancel 23 = .ok (.iconst 1, 1) := by decide +kernel
theorem dX11_cancel_24 : decode cX11_cancel 24 = .ok (.invokevirtual 142, 3) := by decide +kernel
theorem dX11_cancel_27 : decode cX11_cancel 27 = .ok (.ifCond .ne 41, 3) := by decide +kernel
theorem dX11_cancel_30 : decode cX11_cancel 30 = .ok (.aload_n 0, 1) := by decide +kernel
theorem dX11_cancel_31 : decode cX11_cancel 31 = .ok (.aload_n 0, 1) := by decide +kernel
theorem dX11_cancel_32 : decode cX11_cancel 32 = .ok (.getfield 26, 3) := by decide +kernel
theorem dX11_cancel_35 : decode cX11_cancel 35 = .ok (.iload_n 1, 1) := by decide +kernel
theorem dX11_cancel_36 : decode cX11_cancel 36 = .ok (.invokevirtual 55, 3) := by decide +kernel
theorem dX11_cancel_39 : decode cX11_cancel 39 = .ok (.checkcast 102, 3) := by decide +kernel
theorem dX11_cancel_42 : decode cX11_cancel 42 = .ok (.getfield 104, 3) := by decide +kernel
theorem dX11_cancel_45 : decode cX11_cancel 45 = .ok (.iconst 3, 1) := by decide +kernel
theorem dX11_cancel_46 : decode cX11_cancel 46 = .ok (.if_icmp .eq 10, 3) := by decide +kernel
theorem dX11_cancel_49 : decode cX11_cancel 49 = .ok (.aload_n 0, 1) := by decide +kernel
theorem dX11_cancel_50 : decode cX11_cancel 50 = .ok (.invokevirtual 187, 3) := by decide +kernel
theorem dX11_cancel_53 : decode cX11_cancel 53 = .ok (.ifCond .eq 7, 3) := by decide +kernel
theorem dX11_cancel_56 : decode cX11_cancel 56 = .ok (.iconst 1, 1) := by decide +kernel
theorem dX11_cancel_57 : decode cX11_cancel 57 = .ok (.goto 4, 3) := by decide +kernel
theorem dX11_cancel_60 : decode cX11_cancel 60 = .ok (.iconst 0, 1) := by decide +kernel
theorem dX11_cancel_61 : decode cX11_cancel 61 = .ok (.iconst 2, 1) := by decide +kernel
theorem dX11_cancel_62 : decode cX11_cancel 62 = .ok (.invokevirtual 39, 3) := by decide +kernel
theorem dX11_cancel_65 : decode cX11_cancel 65 = .ok (.ifCond .eq 7, 3) := by decide +kernel
theorem dX11_cancel_68 : decode cX11_cancel 68 = .ok (.iconst 0, 1) := by decide +kernel
theorem dX11_cancel_69 : decode cX11_cancel 69 = .ok (.goto 15, 3) := by decide +kernel
theorem dX11_cancel_72 : decode cX11_cancel 72 = .ok (.aload_n 0, 1) := by decide +kernel
theorem dX11_cancel_73 : decode cX11_cancel 73 = .ok (.iconst 3, 1) := by decide +kernel
theorem dX11_cancel_74 : decode cX11_cancel 74 = .ok (.iload_n 1, 1) := by decide +kernel
theorem dX11_cancel_75 : decode cX11_cancel 75 = .ok (.iconst 0, 1) := by decide +kernel
theorem dX11_cancel_76 : decode cX11_cancel 76 = .ok (.aload_n 0, 1) := by decide +kernel
theorem dX11_cancel_77 : decode cX11_cancel 77 = .ok (.getfield 156, 3) := by decide +kernel
theorem dX11_cancel_80 : decode cX11_cancel 80 = .ok (.iconst (-1), 1) := by decide +kernel
theorem dX11_cancel_81 : decode cX11_cancel 81 = .ok (.invokevirtual 191, 3) := by decide +kernel
theorem dX11_cancel_84 : decode cX11_cancel 84 = .ok (.ireturn, 1) := by decide +kernel
set_option maxRecDepth 20000 in
theorem ggX11_load_X11_isNoCrew : GoodIn wsX11_load wsX11_isNoCrew := goodIn_r _ [6, 7, 8, 5, 9] (by decide +kernel) (by decide +kernel)
set_option maxRecDepth 20000 in
theorem gX11_load_X11_isNoCrew : GoodIn wsX11_load (va_wsS RX11 195 yX11_isNoCrew wsX11_isNoCrew) := goodIn_app (goodIn_of _ (by decide +kernel)) ggX11_load_X11_isNoCrew
set_option maxRecDepth 20000 in
theorem ggX11_load_X11_start : GoodIn wsX11_load wsX11_start := goodIn_r _ [13, 14, 15, 16, 17, 5, 18, 19, 20, 21, 22, 23, 24, 25, 26, 27, 28, 29] (by decide +kernel) (by decide +kernel)
set_option maxRecDepth 20000 in
theorem gX11_load_X11_start : GoodIn wsX11_load (wsV RX11 142 RX11 yX11_start wsX11_start) := goodIn_app (goodIn_of _ (by decide +kernel)) ggX11_load_X11_start
theorem dX11_load_0 : decode cX11_load 0 = .ok (.aload_n 0, 1) := by decide +kernel
theorem dX11_load_1 : decode cX11_load 1 = .ok (.iload_n 1, 1) := by decide +kernel
theorem dX11_load_2 : decode cX11_load 2 = .ok (.invokestatic 195, 3) := by decide +kernel
theorem dX11_load_5 : decode cX11_load 5 = .ok (.iconst 1, 1) := by decide +kernel
theorem dX11_load_6 : decode cX11_load 6 = .ok (.invokevirtual 142, 3) := by decide +kernel
theorem dX11_load_9 : decode cX11_load 9 = .ok (.ifCond .eq 5, 3) := by decide +kernel
theorem dX11_load_12 : decode cX11_load 12 = .ok (.iconst 0, 1) := by decide +kernel
theorem dX11_load_13 : decode cX11_load 13 = .ok (.ireturn, 1) := by decide +kernel
theorem dX11_load_14 : decode cX11_load 14 = .ok (.aload_n 0, 1) := by decide +kernel
theorem dX11_load_15 : decode cX11_load 15 = .ok (.getfield 29, 3) := by decide +kernel
theorem dX11_load_18 : decode cX11_load 18 = .ok (.iload_n 1, 1) := by decide +kernel
theorem dX11_load_19 : decode cX11_load 19 = .ok (.iaload, 1) := by decide +kernel
theorem dX11_load_20 : decode cX11_load 20 = .ok (.istore_n 2, 1) := by decide +kernel
theorem dX11_load_21 : decode cX11_load 21 = .ok (.aload_n 0, 1) := by decide +kernel
theorem dX11_load_22 : decode cX11_load 22 = .ok (.getfield 29, 3) := by decide +kernel
theorem dX11_load_25 : decode cX11_load 25 = .ok (.iload_n 1, 1) := by decide +kernel
theorem dX11_load_26 : decode cX11_load 26 = .ok (.aload_n 0, 1) := by decide +kernel
theorem dX11_load_27 : decode cX11_load 27 = .ok (.getfield 156, 3) := by decide +kernel
theorem dX11_load_30 : decode cX11_load 30 = .ok (.iastore, 1) := by decide +kernel
theorem dX11_load_31 : decode cX11_load 31 = .ok (.iload_n 2, 1) := by decide +kernel
theorem dX11_load_32 : decode cX11_load 32 = .ok (.ireturn, 1) := by decide +kernel
set_option maxRecDepth 20000 in
theorem ggX11_read_X11_isNoCrew : GoodIn wsX11_read wsX11_isNoCrew := goodIn_r _ [6, 7, 8, 5, 9] (by decide +kernel) (by decide +kernel)
set_option maxRecDepth 20000 in
theorem gX11_read_X11_isNoCrew : GoodIn wsX11_read (va_wsS RX11 195 yX11_isNoCrew wsX11_isNoCrew) := goodIn_app (goodIn_of _ (by decide +kernel)) ggX11_read_X11_isNoCrew
set_option maxRecDepth 20000 in
theorem ggX11_read_X11_start : GoodIn wsX11_read wsX11_start := goodIn_r _ [13, 14, 15, 16, 17, 5, 18, 25, 26, 27, 28, 29, 30, 31, 32, 33, 34, 35] (by decide +kernel) (by decide +kernel)
set_option maxRecDepth 20000 in
theorem gX11_read_X11_start : GoodIn wsX11_read (wsV RX11 142 RX11 yX11_start wsX11_start) := goodIn_app (goodIn_of _ (by decide +kernel)) ggX11_read_X11_start
set_option maxRecDepth 20000 in
theorem ggX11_read_Jx4a65c_size_8abf5 : GoodIn wsX11_read wsJx4a65c_size_8abf5 := goodIn_r _ [23, 24, 36, 37, 38] (by decide +kernel) (by decide +kernel)
set_option maxRecDepth 20000 in
theorem gX11_read_Jx4a65c_size_8abf5 : GoodIn wsX11_read (wsV RX11 43 RJx4a65c yJx4a65c_size_8abf5 wsJx4a65c_size_8abf5) := goodIn_app (goodIn_of _ (by decide +kernel)) ggX11_read_Jx4a65c_size_8abf5
theorem dX11_read_0 : decode cX11_read 0 = .ok (.aload_n 0, 1) := by decide +kernel
theorem dX11_read_1 : decode cX11_read 1 = .ok (.iload_n 1, 1) := by decide +kernel
theorem dX11_read_2 : decode cX11_read 2 = .ok (.invokestatic 195, 3) := by decide +kernel
theorem dX11_read_5 : decode cX11_read 5 = .ok (.iconst 1, 1) := by decide +kernel
theorem dX11_read_6 : decode cX11_read 6 = .ok (.invokevirtual 142, 3) := by decide +kernel
theorem dX11_read_9 : decode cX11_read 9 = .ok (.ifCond .eq 5, 3) := by decide +kernel
theorem dX11_read_12 : decode cX11_read 12 = .ok (.iconst 0, 1) := by decide +kernel
theorem dX11_read_13 : decode cX11_read 13 = .ok (.ireturn, 1) := by decide +kernel
theorem dX11_read_14 : decode cX11_read 14 = .ok (.aload_n 0, 1) := by decide +kernel
theorem dX11_read_15 : decode cX11_read 15 = .ok (.getfield 26, 3) := by decide +kernel
theorem dX11_read_18 : decode cX11_read 18 = .ok (.invokevirtual 43, 3) := by decide +kernel
theorem dX11_read_21 : decode cX11_read 21 = .ok (.aload_n 0, 1) := by decide +kernel
theorem dX11_read_22 : decode cX11_read 22 = .ok (.getfield 32, 3) := by decide +kernel
theorem dX11_read_25 : decode cX11_read 25 = .ok (.iload_n 1, 1) := by decide +kernel
theorem dX11_read_26 : decode cX11_read 26 = .ok (.iaload, 1) := by decide +kernel
theorem dX11_read_27 : decode cX11_read 27 = .ok (.isub, 1) := by decide +kernel
theorem dX11_read_28 : decode cX11_read 28 = .ok (.istore_n 2, 1) := by decide +kernel
theorem dX11_read_29 : decode cX11_read 29 = .ok (.aload_n 0, 1) := by decide +kernel
theorem dX11_read_30 : decode cX11_read 30 = .ok (.getfield 32, 3) := by decide +kernel
theorem dX11_read_33 : decode cX11_read 33 = .ok (.iload_n 1, 1) := by decide +kernel
theorem dX11_read_34 : decode cX11_read 34 = .ok (.aload_n 0, 1) := by decide +kernel
theorem dX11_read_35 : decode cX11_read 35 = .ok (.getfield 26, 3) := by decide +kernel
theorem dX11_read_38 : decode cX11_read 38 = .ok (.invokevirtual 43, 3) := by decide +kernel
theorem dX11_read_41 : decode cX11_read 41 = .ok (.iastore, 1) := by decide +kernel
theorem dX11_read_42 : decode cX11_read 42 = .ok (.iload_n 2, 1) := by decide +kernel
theorem dX11_read_43 : decode cX11_read 43 = .ok (.ireturn, 1) := by decide +kernel
set_option maxRecDepth 20000 in
theorem ggX11_ofObstacleNow_Jx4a65c_get_915e3 : GoodIn wsX11_ofObstacleNow wsJx4a65c_get_915e3 := goodIn_r _ [12, 13, 14, 15, 16, 17, 18, 19, 20, 21, 22, 23, 24, 11, 25, 26, 43, 44, 45] (by decide +kernel) (by decide +kernel)
set_option maxRecDepth 20000 in
theorem gX11_ofObstacleNow_Jx4a65c_get_915e3 : GoodIn wsX11_ofObstacleNow (wsV RX11 55 RJx4a65c yJx4a65c_get_915e3 wsJx4a65c_get_915e3) := goodIn_app (goodIn_of _ (by decide +kernel)) ggX11_ofObstacleNow_Jx4a65c_get_915e3
theorem dX11_ofObstacleNow_0 : decode cX11_ofObstacleNow 0 = .ok (.aload_n 0, 1) := by decide +kernel
theorem dX11_ofObstacleNow_1 : decode cX11_ofObstacleNow 1 = .ok (.getfield 10, 3) := by decide +kernel
theorem dX11_ofObstacleNow_4 : decode cX11_ofObstacleNow 4 = .ok (.iload_n 1, 1) := by decide +kernel
theorem dX11_ofObstacleNow_5 : decode cX11_ofObstacleNow 5 = .ok (.invokevirtual 55, 3) := by decide +kernel
theorem dX11_ofObstacleNow_8 : decode cX11_ofObstacleNow 8 = .ok (.checkcast 75, 3) := by decide +kernel
theorem dX11_ofObstacleNow_11 : decode cX11_ofObstacleNow 11 = .ok (.astore_n 3, 1) := by decide +kernel
theorem dX11_ofObstacleNow_12 : decode cX11_ofObstacleNow 12 = .ok (.iload_n 2, 1) := by decide +kernel
theorem dX11_ofObstacleNow_13 : decode cX11_ofObstacleNow 13 = .ok (.ifCond .ne 10, 3) := by decide +kernel
theorem dX11_ofObstacleNow_16 : decode cX11_ofObstacleNow 16 = .ok (.aload_n 3, 1) := by decide +kernel
theorem dX11_ofObstacleNow_17 : decode cX11_ofObstacleNow 17 = .ok (.getfield 74, 3) := by decide +kernel
theorem dX11_ofObstacleNow_20 : decode cX11_ofObstacleNow 20 = .ok (.goto 43, 3) := by decide +kernel
theorem dX11_ofObstacleNow_23 : decode cX11_ofObstacleNow 23 = .ok (.iload_n 2, 1) := by decide +kernel
theorem dX11_ofObstacleNow_24 : decode cX11_ofObstacleNow 24 = .ok (.iconst 1, 1) := by decide +kernel
theorem dX11_ofObstacleNow_25 : decode cX11_ofObstacleNow 25 = .ok (.if_icmp .ne 10, 3) := by decide +kernel
theorem dX11_ofObstacleNow_28 : decode cX11_ofObstacleNow 28 = .ok (.aload_n 3, 1) := by decide +kernel
theorem dX11_ofObstacleNow_29 : decode cX11_ofObstacleNow 29 = .ok (.getfield 198, 3) := by decide +kernel
theorem dX11_ofObstacleNow_32 : decode cX11_ofObstacleNow 32 = .ok (.goto 31, 3) := by decide +kernel
theorem dX11_ofObstacleNow_35 : decode cX11_ofObstacleNow 35 = .ok (.iload_n 2, 1) := by decide +kernel
theorem dX11_ofObstacleNow_36 : decode cX11_ofObstacleNow 36 = .ok (.iconst 2, 1) := by decide +kernel
theorem dX11_ofObstacleNow_37 : decode cX11_ofObstacleNow 37 = .ok (.if_icmp .ne 10, 3) := by decide +kernel
theorem dX11_ofObstacleNow_40 : decode cX11_ofObstacleNow 40 = .ok (.aload_n 3, 1) := by decide +kernel
theorem dX11_ofObstacleNow_41 : decode cX11_ofObstacleNow 41 = .ok (.getfield 201, 3) := by decide +kernel
theorem dX11_ofObstacleNow_44 : decode cX11_ofObstacleNow 44 = .ok (.goto 19, 3) := by decide +kernel
theorem dX11_ofObstacleNow_47 : decode cX11_ofObstacleNow 47 = .ok (.iload_n 2, 1) := by decide +kernel
theorem dX11_ofObstacleNow_48 : decode cX11_ofObstacleNow 48 = .ok (.iconst 3, 1) := by decide +kernel
theorem dX11_ofObstacleNow_49 : decode cX11_ofObstacleNow 49 = .ok (.if_icmp .ne 10, 3) := by decide +kernel
theorem dX11_ofObstacleNow_52 : decode cX11_ofObstacleNow 52 = .ok (.aload_n 3, 1) := by decide +kernel
theorem dX11_ofObstacleNow_53 : decode cX11_ofObstacleNow 53 = .ok (.getfield 159, 3) := by decide +kernel
theorem dX11_ofObstacleNow_56 : decode cX11_ofObstacleNow 56 = .ok (.goto 7, 3) := by decide +kernel
theorem dX11_ofObstacleNow_59 : decode cX11_ofObstacleNow 59 = .ok (.aload_n 3, 1) := by decide +kernel
theorem dX11_ofObstacleNow_60 : decode cX11_ofObstacleNow 60 = .ok (.getfield 155, 3) := by decide +kernel
theorem dX11_ofObstacleNow_63 : decode cX11_ofObstacleNow 63 = .ok (.ireturn, 1) := by decide +kernel
set_option maxRecDepth 20000 in
theorem ggX11_ofObstacle_X11_isNoObstacle : GoodIn wsX11_ofObstacle wsX11_isNoObstacle := goodIn_r _ [5, 6, 7, 8, 9, 10, 11, 12, 13, 14, 4, 15, 52, 53, 54, 55, 56, 57, 58, 59, 60, 61, 62, 63, 64, 65] (by decide +kernel) (by decide +kernel)
set_option maxRecDepth 20000 in
theorem gX11_ofObstacle_X11_isNoObstacle : GoodIn wsX11_ofObstacle (wsV RX11 152 RX11 yX11_isNoObstacle wsX11_isNoObstacle) := goodIn_app (goodIn_of _ (by decide +kernel)) ggX11_ofObstacle_X11_isNoObstacle
set_option maxRecDepth 20000 in
theorem ggX11_ofObstacle_X11_start : GoodIn wsX11_ofObstacle wsX11_start := goodIn_r _ [19, 20, 21, 22, 23, 4, 24, 52, 53, 54, 55, 56, 57, 58, 59, 60, 61, 62] (by decide +kernel) (by decide +kernel)
set_option maxRecDepth 20000 in
theorem gX11_ofObstacle_X11_start : GoodIn wsX11_ofObstacle (wsV RX11 142 RX11 yX11_start wsX11_start) := goodIn_app (goodIn_of _ (by decide +kernel)) ggX11_ofObstacle_X11_start
set_option maxRecDepth 20000 in
theorem ggX11_ofObstacle_X11_isIn : GoodIn wsX11_ofObstacle wsX11_isIn := goodIn_r _ [15] (by decide +kernel) (by decide +kernel)
set_option maxRecDepth 20000 in
theorem gX11_ofObstacle_X11_isIn : GoodIn wsX11_ofObstacle (va_wsS RX11 47 yX11_isIn wsX11_isIn) := goodIn_app (goodIn_of _ (by decide +kernel)) ggX11_ofObstacle_X11_isIn
set_option maxRecDepth 20000 in
theorem ggX11_ofObstacle_X11_refuse : GoodIn wsX11_ofObstacle wsX11_refuse := goodIn_r _ [24, 20, 52, 53, 54, 55, 56, 57, 58, 59, 60, 61, 62] (by decide +kernel) (by decide +kernel)
set_option maxRecDepth 20000 in
theorem gX11_ofObstacle_X11_refuse : GoodIn wsX11_ofObstacle (wsV RX11 39 RX11 yX11_refuse wsX11_refuse) := goodIn_app (goodIn_of _ (by decide +kernel)) ggX11_ofObstacle_X11_refuse
set_option maxRecDepth 20000 in
theorem ggX11_ofObstacle_X11_ofObstacleNow : GoodIn wsX11_ofObstacle wsX11_ofObstacleNow := goodIn_r _ [28, 6, 29, 30, 31, 32, 33, 34, 35, 36, 37, 10, 38, 12, 39, 40, 41, 42, 43, 44, 45, 46, 47, 48, 49, 50, 51, 52, 53, 54, 55, 56, 57, 58, 59, 60, 61, 62, 66, 67, 68, 69, 70, 63, 64, 65] (by decide +kernel) (by decide +kernel)
set_option maxRecDepth 20000 in
theorem gX11_ofObstacle_X11_ofObstacleNow : GoodIn wsX11_ofObstacle (wsV RX11 204 RX11 yX11_ofObstacleNow wsX11_ofObstacleNow) := goodIn_app (goodIn_of _ (by decide +kernel)) ggX11_ofObstacle_X11_ofObstacleNow
theorem dX11_ofObstacle_0 : decode cX11_ofObstacle 0 = .ok (.aload_n 0, 1) := by decide +kernel
theorem dX11_ofObstacle_1 : decode cX11_ofObstacle 1 = .ok (.aload_n 0, 1) := by decide +kernel
theorem dX11_ofObstacle_2 : decode cX11_ofObstacle 2 = .ok (.iload_n 1, 1) := by decide +kernel
theorem dX11_ofObstacle_3 : decode cX11_ofObstacle 3 = .ok (.invokevirtual 152, 3) := by decide +kernel
theorem dX11_ofObstacle_6 : decode cX11_ofObstacle 6 = .ok (.iconst 1, 1) := by decide +kernel
theorem dX11_ofObstacle_7 : decode cX11_ofObstacle 7 = .ok (.invokevirtual 142, 3) := by decide +kernel
theorem dX11_ofObstacle_10 : decode cX11_ofObstacle 10 = .ok (.ifCond .ne 25, 3) := by decide +kernel
theorem dX11_ofObstacle_13 : decode cX11_ofObstacle 13 = .ok (.aload_n 0, 1) := by decide +kernel
theorem dX11_ofObstacle_14 : decode cX11_ofObstacle 14 = .ok (.iload_n 2, 1) := by decide +kernel
theorem dX11_ofObstacle_15 : decode cX11_ofObstacle 15 = .ok (.iconst 0, 1) := by decide +kernel
theorem dX11_ofObstacle_16 : decode cX11_ofObstacle 16 = .ok (.iconst 4, 1) := by decide +kernel
theorem dX11_ofObstacle_17 : decode cX11_ofObstacle 17 = .ok (.invokestatic 47, 3) := by decide +kernel
theorem dX11_ofObstacle_20 : decode cX11_ofObstacle 20 = .ok (.ifCond .ne 7, 3) := by decide +kernel
theorem dX11_ofObstacle_23 : decode cX11_ofObstacle 23 = .ok (.iconst 1, 1) := by decide +kernel
theorem dX11_ofObstacle_24 : decode cX11_ofObstacle 24 = .ok (.goto 4, 3) := by decide +kernel
theorem dX11_ofObstacle_27 : decode cX11_ofObstacle 27 = .ok (.iconst 0, 1) := by decide +kernel
theorem dX11_ofObstacle_28 : decode cX11_ofObstacle 28 = .ok (.iconst 2, 1) := by decide +kernel
theorem dX11_ofObstacle_29 : decode cX11_ofObstacle 29 = .ok (.invokevirtual 39, 3) := by decide +kernel
theorem dX11_ofObstacle_32 : decode cX11_ofObstacle 32 = .ok (.ifCond .eq 7, 3) := by decide +kernel
theorem dX11_ofObstacle_35 : decode cX11_ofObstacle 35 = .ok (.iconst 0, 1) := by decide +kernel
theorem dX11_ofObstacle_36 : decode cX11_ofObstacle 36 = .ok (.goto 9, 3) := by decide +kernel
theorem dX11_ofObstacle_39 : decode cX11_ofObstacle 39 = .ok (.aload_n 0, 1) := by decide +kernel
theorem dX11_ofObstacle_40 : decode cX11_ofObstacle 40 = .ok (.iload_n 1, 1) := by decide +kernel
theorem dX11_ofObstacle_41 : decode cX11_ofObstacle 41 = .ok (.iload_n 2, 1) := by decide +kernel
theorem dX11_ofObstacle_42 : decode cX11_ofObstacle 42 = .ok (.invokevirtual 204, 3) := by decide +kernel
theorem dX11_ofObstacle_45 : decode cX11_ofObstacle 45 = .ok (.ireturn, 1) := by decide +kernel
set_option maxRecDepth 20000 in
theorem ggX11_isAsked_X11_isNoProcedure : GoodIn wsX11_isAsked wsX11_isNoProcedure := goodIn_r _ [5, 6, 7, 8, 9, 10, 11, 12, 13, 14, 4, 15, 31, 32, 33, 34, 35, 36, 37, 38, 39, 40, 41, 42, 43, 44] (by decide +kernel) (by decide +kernel)
set_option maxRecDepth 20000 in
theorem gX11_isAsked_X11_isNoProcedure : GoodIn wsX11_isAsked (wsV RX11 175 RX11 yX11_isNoProcedure wsX11_isNoProcedure) := goodIn_app (goodIn_of _ (by decide +kernel)) ggX11_isAsked_X11_isNoProcedure
set_option maxRecDepth 20000 in
theorem ggX11_isAsked_X11_start : GoodIn wsX11_isAsked wsX11_start := goodIn_r _ [19, 20, 21, 22, 23, 4, 24, 31, 32, 33, 34, 35, 36, 37, 38, 39, 40, 41] (by decide +kernel) (by decide +kernel)
set_option maxRecDepth 20000 in
theorem gX11_isAsked_X11_start : GoodIn wsX11_isAsked (wsV RX11 142 RX11 yX11_start wsX11_start) := goodIn_app (goodIn_of _ (by decide +kernel)) ggX11_isAsked_X11_start
set_option maxRecDepth 20000 in
theorem ggX11_isAsked_X11_isNoDay : GoodIn wsX11_isAsked wsX11_isNoDay := goodIn_r _ [27, 13, 14, 4, 15] (by decide +kernel) (by decide +kernel)
set_option maxRecDepth 20000 in
theorem gX11_isAsked_X11_isNoDay : GoodIn wsX11_isAsked (va_wsS RX11 51 yX11_isNoDay wsX11_isNoDay) := goodIn_app (goodIn_of _ (by decide +kernel)) ggX11_isAsked_X11_isNoDay
set_option maxRecDepth 20000 in
theorem ggX11_isAsked_X11_isNoCategory : GoodIn wsX11_isAsked wsX11_isNoCategory := goodIn_r _ [30, 13, 14, 4, 15] (by decide +kernel) (by decide +kernel)
set_option maxRecDepth 20000 in
theorem gX11_isAsked_X11_isNoCategory : GoodIn wsX11_isAsked (va_wsS RX11 207 yX11_isNoCategory wsX11_isNoCategory) := goodIn_app (goodIn_of _ (by decide +kernel)) ggX11_isAsked_X11_isNoCategory
set_option maxRecDepth 20000 in
theorem ggX11_isAsked_X11_refuse : GoodIn wsX11_isAsked wsX11_refuse := goodIn_r _ [24, 20, 31, 32, 33, 34, 35, 36, 37, 38, 39, 40, 41] (by decide +kernel) (by decide +kernel)
set_option maxRecDepth 20000 in
theorem gX11_isAsked_X11_refuse : GoodIn wsX11_isAsked (wsV RX11 39 RX11 yX11_refuse wsX11_refuse) := goodIn_app (goodIn_of _ (by decide +kernel)) ggX11_isAsked_X11_refuse
theorem dX11_isAsked_0 : decode cX11_isAsked 0 = .ok (.aload_n 0, 1) := by decide +kernel
theorem dX11_isAsked_1 : decode cX11_isAsked 1 = .ok (.aload_n 0, 1) := by decide +kernel
theorem dX11_isAsked_2 : decode cX11_isAsked 2 = .ok (.iload_n 1, 1) := by decide +kernel
theorem dX11_isAsked_3 : decode cX11_isAsked 3 = .ok (.invokevirtual 175, 3) := by decide +kernel
theorem dX11_isAsked_6 : decode cX11_isAsked 6 = .ok (.iconst 1, 1) := by decide +kernel
theorem dX11_isAsked_7 : decode cX11_isAsked 7 = .ok (.invokevirtual 142, 3) := by decide +kernel
theorem dX11_isAsked_10 : decode cX11_isAsked 10 = .ok (.ifCond .ne 34, 3) := by decide +kernel
theorem dX11_isAsked_13 : decode cX11_isAsked 13 = .ok (.aload_n 0, 1) := by decide +kernel
theorem dX11_isAsked_14 : decode cX11_isAsked 14 = .ok (.iload_n 2, 1) := by decide +kernel
theorem dX11_isAsked_15 : decode cX11_isAsked 15 = .ok (.invokestatic 51, 3) := by decide +kernel
theorem dX11_isAsked_18 : decode cX11_isAsked 18 = .ok (.ifCond .ne 10, 3) := by decide +kernel
theorem dX11_isAsked_21 : decode cX11_isAsked 21 = .ok (.iload_n 3, 1) := by decide +kernel
theorem dX11_isAsked_22 : decode cX11_isAsked 22 = .ok (.invokestatic 207, 3) := by decide +kernel
theorem dX11_isAsked_25 : decode cX11_isAsked 25 = .ok (.ifCond .eq 7, 3) := by decide +kernel
theorem dX11_isAsked_28 : decode cX11_isAsked 28 = .ok (.iconst 1, 1) := by decide +kernel
theorem dX11_isAsked_29 : decode cX11_isAsked 29 = .ok (.goto 4, 3) := by decide +kernel
theorem dX11_isAsked_32 : decode cX11_isAsked 32 = .ok (.iconst 0, 1) := by decide +kernel
theorem dX11_isAsked_33 : decode cX11_isAsked 33 = .ok (.iconst 2, 1) := by decide +kernel
theorem dX11_isAsked_34 : decode cX11_isAsked 34 = .ok (.invokevirtual 39, 3) := by decide +kernel
theorem dX11_isAsked_37 : decode cX11_isAsked 37 = .ok (.ifCond .ne 7, 3) := by decide +kernel
theorem dX11_isAsked_40 : decode cX11_isAsked 40 = .ok (.iconst 1, 1) := by decide +kernel
theorem dX11_isAsked_41 : decode cX11_isAsked 41 = .ok (.goto 4, 3) := by decide +kernel
theorem dX11_isAsked_44 : decode cX11_isAsked 44 = .ok (.iconst 0, 1) := by decide +kernel
theorem dX11_isAsked_45 : decode cX11_isAsked 45 = .ok (.ireturn, 1) := by decide +kernel
set_option maxRecDepth 20000 in
theorem ggX11_demanded_X11_isAsked : GoodIn wsX11_demanded wsX11_isAsked := goodIn_r _ [5, 6, 7, 8, 4, 9, 10, 11, 12, 13, 14, 15, 16, 17, 18, 19, 20, 21, 22, 23, 24, 25, 26, 27, 28, 29, 30, 31, 32, 33, 34, 101, 102, 103, 104, 105, 106, 107, 108, 109, 110, 111, 112, 113, 114] (by decide +kernel) (by decide +kernel)
set_option maxRecDepth 20000 in
theorem gX11_demanded_X11_isAsked : GoodIn wsX11_demanded (wsV RX11 210 RX11 yX11_isAsked wsX11_isAsked) := goodIn_app (goodIn_of _ (by decide +kernel)) ggX11_demanded_X11_isAsked
set_option maxRecDepth 20000 in
theorem ggX11_demanded_X11_demandedNow_ : GoodIn wsX11_demanded wsX11_demandedNow_ := goodIn_r _ [38, 39, 40, 41, 4, 42, 10, 43, 44, 45, 46, 47, 48, 49, 50, 51, 52, 53, 54, 55, 56, 57, 14, 58, 16, 59, 60, 61, 62, 63, 64, 65, 66, 67, 68, 69, 70, 71, 11, 12, 13, 15, 72, 73, 74, 75, 76, 77, 78, 79, 80, 81, 82, 83, 84, 85, 86, 87, 88, 89, 90, 91, 92, 93, 94, 95, 96, 97, 101, 102, 103, 104, 105, 106, 107, 108, 109, 110, 111, 115, 116, 117, 118, 119, 120, 121, 122, 112, 113, 114] (by decide +kernel) (by decide +kernel)
set_option maxRecDepth 20000 in
theorem gX11_demanded_X11_demandedNow_ : GoodIn wsX11_demanded (wsV RX11 136 RX11 yX11_demandedNow_ wsX11_demandedNow_) := goodIn_app (goodIn_of _ (by decide +kernel)) ggX11_demanded_X11_demandedNow_
set_option maxRecDepth 20000 in
theorem ggX11_demanded_X11_by : GoodIn wsX11_demanded wsX11_by := goodIn_r _ [100] (by decide +kernel) (by decide +kernel)
set_option maxRecDepth 20000 in
theorem gX11_demanded_X11_by : GoodIn wsX11_demanded (va_wsS RX11 213 yX11_by wsX11_by) := goodIn_app (goodIn_of _ (by decide +kernel)) ggX11_demanded_X11_by
theorem dX11_demanded_0 : decode cX11_demanded 0 = .ok (.aload_n 0, 1) := by decide +kernel
theorem dX11_demanded_1 : decode cX11_demanded 1 = .ok (.iload_n 1, 1) := by decide +kernel
theorem dX11_demanded_2 : decode cX11_demanded 2 = .ok (.iload_n 2, 1) := by decide +kernel
theorem dX11_demanded_3 : decode cX11_demanded 3 = .ok (.iload_n 3, 1) := by decide +kernel
theorem dX11_demanded_4 : decode cX11_demanded 4 = .ok (.invokevirtual 210, 3) := by decide +kernel
theorem dX11_demanded_7 : decode cX11_demanded 7 = .ok (.ifCond .eq 16, 3) := by decide +kernel
theorem dX11_demanded_10 : decode cX11_demanded 10 = .ok (.aload_n 0, 1) := by decide +kernel
theorem dX11_demanded_11 : decode cX11_demanded 11 = .ok (.iload_n 1, 1) := by decide +kernel
theorem dX11_demanded_12 : decode cX11_demanded 12 = .ok (.iload_n 2, 1) := by decide +kernel
theorem dX11_demanded_13 : decode cX11_demanded 13 = .ok (.invokevirtual 136, 3) := by decide +kernel
theorem dX11_demanded_16 : decode cX11_demanded 16 = .ok (.iload_n 3, 1) := by decide +kernel
theorem dX11_demanded_17 : decode cX11_demanded 17 = .ok (.invokestatic 213, 3) := by decide +kernel
theorem dX11_demanded_20 : decode cX11_demanded 20 = .ok (.goto 4, 3) := by decide +kernel
theorem dX11_demanded_23 : decode cX11_demanded 23 = .ok (.iconst 0, 1) := by decide +kernel
theorem dX11_demanded_24 : decode cX11_demanded 24 = .ok (.ireturn, 1) := by decide +kernel
set_option maxRecDepth 20000 in
theorem ggX11_decidesNow_X11_demandedNow_ : GoodIn wsX11_decidesNow wsX11_demandedNow_ := goodIn_r _ [6, 7, 8, 9, 5, 10, 11, 12, 13, 14, 15, 16, 1, 17, 18, 19, 20, 21, 22, 23, 24, 25, 26, 27, 28, 29, 30, 31, 32, 33, 34, 35, 36, 37, 38, 39, 40, 41, 42, 43, 44, 45, 46, 47, 48, 49, 50, 51, 52, 53, 54, 55, 56, 57, 58, 59, 60, 61, 62, 63, 64, 65, 66, 67, 68, 69, 70, 71, 72, 73, 74, 75, 76, 77, 78, 79, 80, 81, 82, 83, 84, 85, 86, 87, 88, 89, 90, 91, 92, 93] (by decide +kernel) (by decide +kernel)
set_option maxRecDepth 20000 in
theorem gX11_decidesNow_X11_demandedNow_ : GoodIn wsX11_decidesNow (wsV RX11 136 RX11 yX11_demandedNow_ wsX11_demandedNow_) := goodIn_app (goodIn_of _ (by decide +kernel)) ggX11_decidesNow_X11_demandedNow_
set_option maxRecDepth 20000 in
theorem ggX11_decidesNow_Jx4a65c_size_8abf5 : GoodIn wsX11_decidesNow wsJx4a65c_size_8abf5 := goodIn_r _ [45, 28, 91, 92, 93] (by decide +kernel) (by decide +kernel)
set_option maxRecDepth 20000 in
theorem gX11_decidesNow_Jx4a65c_size_8abf5 : GoodIn wsX11_decidesNow (wsV RX11 43 RJx4a65c yJx4a65c_size_8abf5 wsJx4a65c_size_8abf5) := goodIn_app (goodIn_of _ (by decide +kernel)) ggX11_decidesNow_Jx4a65c_size_8abf5
set_option maxRecDepth 20000 in
theorem ggX11_decidesNow_X11_demandedNow : GoodIn wsX11_decidesNow wsX11_demandedNow := goodIn_r _ [10, 11, 12, 13, 14, 15, 16, 1, 17, 18, 19, 20, 21, 22, 23, 24, 25, 26, 27, 28, 29, 30, 31, 32, 33, 34, 35, 36, 37, 38, 39, 40, 41, 42, 43, 44, 45, 46, 47, 48, 5, 49, 50, 51, 52, 53, 54, 55, 56, 57, 58, 59, 60, 61, 62, 63, 64, 65, 66, 67, 68, 69, 70, 71, 72, 73, 74, 75, 76, 77, 78, 79, 80, 81, 82, 83, 84, 85, 86, 87, 88, 89, 90, 91, 92, 93] (by decide +kernel) (by decide +kernel)
set_option maxRecDepth 20000 in
theorem gX11_decidesNow_X11_demandedNow : GoodIn wsX11_decidesNow (wsV RX11 98 RX11 yX11_demandedNow wsX11_demandedNow) := goodIn_app (goodIn_of _ (by decide +kernel)) ggX11_decidesNow_X11_demandedNow
theorem dX11_decidesNow_0 : decode cX11_decidesNow 0 = .ok (.iconst (-1), 1) := by decide +kernel
theorem dX11_decidesNow_1 : decode cX11_decidesNow 1 = .ok (.istore_n 3, 1) := by decide +kernel
theorem dX11_decidesNow_2 : decode cX11_decidesNow 2 = .ok (.aload_n 0, 1) := by decide +kernel
theorem dX11_decidesNow_3 : decode cX11_decidesNow 3 = .ok (.iload_n 1, 1) := by decide +kernel
theorem dX11_decidesNow_4 : decode cX11_decidesNow 4 = .ok (.iload_n 2, 1) := by decide +kernel
theorem dX11_decidesNow_5 : decode cX11_decidesNow 5 = .ok (.invokevirtual 136, 3) := by decide +kernel
theorem dX11_decidesNow_8 : decode cX11_decidesNow 8 = .ok (.istore 4, 2) := by decide +kernel
theorem dX11_decidesNow_10 : decode cX11_decidesNow 10 = .ok (.iconst 0, 1) := by decide +kernel
theorem dX11_decidesNow_11 : decode cX11_decidesNow 11 = .ok (.istore 5, 2) := by decide +kernel
theorem dX11_decidesNow_13 : decode cX11_decidesNow 13 = .ok (.iload 5, 2) := by decide +kernel
theorem dX11_decidesNow_15 : decode cX11_decidesNow 15 = .ok (.aload_n 0, 1) := by decide +kernel
theorem dX11_decidesNow_16 : decode cX11_decidesNow 16 = .ok (.getfield 10, 3) := by decide +kernel
theorem dX11_decidesNow_19 : decode cX11_decidesNow 19 = .ok (.invokevirtual 43, 3) := by decide +kernel
theorem dX11_decidesNow_22 : decode cX11_decidesNow 22 = .ok (.if_icmp .ge 37, 3) := by decide +kernel
theorem dX11_decidesNow_25 : decode cX11_decidesNow 25 = .ok (.aload_n 0, 1) := by decide +kernel
theorem dX11_decidesNow_26 : decode cX11_decidesNow 26 = .ok (.iload_n 1, 1) := by decide +kernel
theorem dX11_decidesNow_27 : decode cX11_decidesNow 27 = .ok (.iload_n 2, 1) := by decide +kernel
theorem dX11_decidesNow_28 : decode cX11_decidesNow 28 = .ok (.iload 5, 2) := by decide +kernel
theorem dX11_decidesNow_30 : decode cX11_decidesNow 30 = .ok (.aconst_null, 1) := by decide +kernel
theorem dX11_decidesNow_31 : decode cX11_decidesNow 31 = .ok (.invokevirtual 98, 3) := by decide +kernel
theorem dX11_decidesNow_34 : decode cX11_decidesNow 34 = .ok (.istore 6, 2) := by decide +kernel
theorem dX11_decidesNow_36 : decode cX11_decidesNow 36 = .ok (.iload 6, 2) := by decide +kernel
theorem dX11_decidesNow_38 : decode cX11_decidesNow 38 = .ok (.iload 4, 2) := by decide +kernel
theorem dX11_decidesNow_40 : decode cX11_decidesNow 40 = .ok (.if_icmp .lt 6, 3) := by decide +kernel
theorem dX11_decidesNow_43 : decode cX11_decidesNow 43 = .ok (.goto 10, 3) := by decide +kernel
theorem dX11_decidesNow_46 : decode cX11_decidesNow 46 = .ok (.iload 6, 2) := by decide +kernel
theorem dX11_decidesNow_48 : decode cX11_decidesNow 48 = .ok (.istore 4, 2) := by decide +kernel
theorem dX11_decidesNow_50 : decode cX11_decidesNow 50 = .ok (.iload 5, 2) := by decide +kernel
theorem dX11_decidesNow_52 : decode cX11_decidesNow 52 = .ok (.istore_n 3, 1) := by decide +kernel
theorem dX11_decidesNow_53 : decode cX11_decidesNow 53 = .ok (.iinc 5 1, 3) := by decide +kernel
theorem dX11_decidesNow_56 : decode cX11_decidesNow 56 = .ok (.goto (-43), 3) := by decide +kernel
theorem dX11_decidesNow_59 : decode cX11_decidesNow 59 = .ok (.iload_n 3, 1) := by decide +kernel
theorem dX11_decidesNow_60 : decode cX11_decidesNow 60 = .ok (.ireturn, 1) := by decide +kernel
set_option maxRecDepth 20000 in
theorem ggX11_decides_X11_isAsked : GoodIn wsX11_decides wsX11_isAsked := goodIn_r _ [5, 6, 7, 8, 4, 9, 10, 11, 12, 13, 14, 15, 16, 17, 18, 19, 20, 21, 22, 23, 24, 25, 26, 27, 28, 29, 30, 31, 32, 33, 34, 102, 103, 104, 105, 106, 107, 108, 109, 110, 111, 112, 113, 114, 115] (by decide +kernel) (by decide +kernel)
set_option maxRecDepth 20000 in
theorem gX11_decides_X11_isAsked : GoodIn wsX11_decides (wsV RX11 210 RX11 yX11_isAsked wsX11_isAsked) := goodIn_app (goodIn_of _ (by decide +kernel)) ggX11_decides_X11_isAsked
set_option maxRecDepth 20000 in
theorem ggX11_decides_X11_decidesNow : GoodIn wsX11_decides wsX11_decidesNow := goodIn_r _ [38, 39, 40, 41, 42, 4, 43, 44, 45, 46, 47, 10, 48, 49, 50, 51, 52, 53, 54, 55, 56, 57, 58, 59, 60, 61, 14, 62, 16, 63, 64, 65, 66, 67, 68, 69, 70, 71, 72, 73, 74, 75, 11, 12, 13, 15, 76, 77, 78, 79, 80, 81, 82, 83, 84, 85, 86, 87, 88, 89, 90, 91, 92, 93, 94, 95, 96, 97, 98, 99, 100, 101, 102, 103, 104, 105, 106, 107, 108, 109, 110, 111, 112, 116, 117, 118, 119, 120, 121, 122, 123, 113, 114, 115] (by decide +kernel) (by decide +kernel)
set_option maxRecDepth 20000 in
theorem gX11_decides_X11_decidesNow : GoodIn wsX11_decides (wsV RX11 215 RX11 yX11_decidesNow wsX11_decidesNow) := goodIn_app (goodIn_of _ (by decide +kernel)) ggX11_decides_X11_decidesNow
theorem dX11_decides_0 : decode cX11_decides 0 = .ok (.aload_n 0, 1) := by decide +kernel
theorem dX11_decides_1 : decode cX11_decides 1 = .ok (.iload_n 1, 1) := by decide +kernel
theorem dX11_decides_2 : decode cX11_decides 2 = .ok (.iload_n 2, 1) := by decide +kernel
theorem dX11_decides_3 : decode cX11_decides 3 = .ok (.iconst 0, 1) := by decide +kernel
theorem dX11_decides_4 : decode cX11_decides 4 = .ok (.invokevirtual 210, 3) := by decide +kernel
theorem dX11_decides_7 : decode cX11_decides 7 = .ok (.ifCond .eq 12, 3) := by decide +kernel
theorem dX11_decides_10 : decode cX11_decides 10 = .ok (.aload_n 0, 1) := by decide +kernel
theorem dX11_decides_11 : decode cX11_decides 11 = .ok (.iload_n 1, 1) := by decide +kernel
theorem dX11_decides_12 : decode cX11_decides 12 = .ok (.iload_n 2, 1) := by decide +kernel
theorem dX11_decides_13 : decode cX11_decides 13 = .ok (.invokevirtual 215, 3) := by decide +kernel
theorem dX11_decides_16 : decode cX11_decides 16 = .ok (.goto 4, 3) := by decide +kernel
theorem dX11_decides_19 : decode cX11_decides 19 = .ok (.iconst 0, 1) := by decide +kernel
theorem dX11_decides_20 : decode cX11_decides 20 = .ok (.ireturn, 1) := by decide +kernel
set_option maxRecDepth 20000 in
theorem ggX11_chart_X11_isAsked : GoodIn wsX11_chart wsX11_isAsked := goodIn_r _ [7, 8, 9, 10, 6, 11, 1, 12, 13, 14, 15, 16, 17, 18, 19, 20, 21, 22, 23, 24, 25, 26, 27, 28, 29, 30, 31, 32, 33, 34, 35, 62, 63, 64, 65, 66, 67, 68, 69, 70, 71, 72, 73, 74, 75] (by decide +kernel) (by decide +kernel)
set_option maxRecDepth 20000 in
theorem gX11_chart_X11_isAsked : GoodIn wsX11_chart (wsV RX11 210 RX11 yX11_isAsked wsX11_isAsked) := goodIn_app (goodIn_of _ (by decide +kernel)) ggX11_chart_X11_isAsked
set_option maxRecDepth 20000 in
theorem ggX11_chart_Jx4a65c_get_915e3 : GoodIn wsX11_chart wsJx4a65c_get_915e3 := goodIn_r _ [39, 17, 40, 41, 42, 43, 44, 45, 46, 47, 48, 49, 50, 15, 51, 52, 73, 74, 75] (by decide +kernel) (by decide +kernel)
set_option maxRecDepth 20000 in
theorem gX11_chart_Jx4a65c_get_915e3 : GoodIn wsX11_chart (wsV RX11 55 RJx4a65c yJx4a65c_get_915e3 wsJx4a65c_get_915e3) := goodIn_app (goodIn_of _ (by decide +kernel)) ggX11_chart_Jx4a65c_get_915e3
set_option maxRecDepth 20000 in
theorem ggX11_chart_X10_chart : GoodIn wsX11_chart wsX10_chart := goodIn_r _ [57, 58, 59, 60, 13, 14, 15, 16, 17, 61, 37, 38, 39, 40, 41, 42, 43, 44, 45, 46, 47, 48, 49, 50, 51, 52, 76, 77, 78, 73, 74, 75] (by decide +kernel) (by decide +kernel)
set_option maxRecDepth 20000 in
theorem gX11_chart_X10_chart : GoodIn wsX11_chart (wsV RX11 126 RX10 yX10_chart wsX10_chart) := goodIn_app (goodIn_of _ (by decide +kernel)) ggX11_chart_X10_chart
theorem dX11_chart_0 : decode cX11_chart 0 = .ok (.aload_n 0, 1) := by decide +kernel
theorem dX11_chart_1 : decode cX11_chart 1 = .ok (.iload_n 1, 1) := by decide +kernel
theorem dX11_chart_2 : decode cX11_chart 2 = .ok (.iload_n 2, 1) := by decide +kernel
theorem dX11_chart_3 : decode cX11_chart 3 = .ok (.iconst 0, 1) := by decide +kernel
theorem dX11_chart_4 : decode cX11_chart 4 = .ok (.invokevirtual 210, 3) := by decide +kernel
theorem dX11_chart_7 : decode cX11_chart 7 = .ok (.ifCond .eq 21, 3) := by decide +kernel
theorem dX11_chart_10 : decode cX11_chart 10 = .ok (.aload_n 0, 1) := by decide +kernel
theorem dX11_chart_11 : decode cX11_chart 11 = .ok (.getfield 23, 3) := by decide +kernel
theorem dX11_chart_14 : decode cX11_chart 14 = .ok (.iload_n 1, 1) := by decide +kernel
theorem dX11_chart_15 : decode cX11_chart 15 = .ok (.invokevirtual 55, 3) := by decide +kernel
theorem dX11_chart_18 : decode cX11_chart 18 = .ok (.checkcast 59, 3) := by decide +kernel
theorem dX11_chart_21 : decode cX11_chart 21 = .ok (.iload_n 2, 1) := by decide +kernel
theorem dX11_chart_22 : decode cX11_chart 22 = .ok (.invokevirtual 126, 3) := by decide +kernel
theorem dX11_chart_25 : decode cX11_chart 25 = .ok (.goto 4, 3) := by decide +kernel
theorem dX11_chart_28 : decode cX11_chart 28 = .ok (.iconst 0, 1) := by decide +kernel
theorem dX11_chart_29 : decode cX11_chart 29 = .ok (.ireturn, 1) := by decide +kernel
set_option maxRecDepth 20000 in
theorem ggX11_inForce_X11_isAsked : GoodIn wsX11_inForce wsX11_isAsked := goodIn_r _ [5, 6, 7, 8, 4, 9, 10, 11, 12, 13, 14, 15, 16, 17, 18, 19, 20, 21, 22, 23, 24, 25, 26, 27, 28, 29, 30, 31, 32, 33, 34, 94, 95, 96, 97, 98, 99, 100, 101, 102, 103, 104, 105, 106, 107] (by decide +kernel) (by decide +kernel)
set_option maxRecDepth 20000 in
theorem gX11_inForce_X11_isAsked : GoodIn wsX11_inForce (wsV RX11 210 RX11 yX11_isAsked wsX11_isAsked) := goodIn_app (goodIn_of _ (by decide +kernel)) ggX11_inForce_X11_isAsked
set_option maxRecDepth 20000 in
theorem ggX11_inForce_X11_inForceNow : GoodIn wsX11_inForce wsX11_inForceNow := goodIn_r _ [38, 10, 39, 40, 41, 42, 43, 44, 14, 45, 16, 46, 47, 48, 49, 50, 51, 52, 53, 54, 55, 56, 57, 58, 59, 60, 61, 4, 62, 63, 64, 65, 66, 67, 68, 69, 70, 71, 12, 13, 15, 72, 11, 73, 74, 75, 76, 77, 78, 79, 80, 81, 82, 83, 84, 85, 86, 87, 88, 89, 90, 94, 95, 96, 97, 98, 99, 100, 101, 102, 103, 104, 108, 109, 110, 105, 106, 107, 111, 112, 113, 114, 115] (by decide +kernel) (by decide +kernel)
set_option maxRecDepth 20000 in
theorem gX11_inForce_X11_inForceNow : GoodIn wsX11_inForce (wsV RX11 133 RX11 yX11_inForceNow wsX11_inForceNow) := goodIn_app (goodIn_of _ (by decide +kernel)) ggX11_inForce_X11_inForceNow
set_option maxRecDepth 20000 in
theorem ggX11_inForce_X11_by : GoodIn wsX11_inForce wsX11_by := goodIn_r _ [93] (by decide +kernel) (by decide +kernel)
set_option maxRecDepth 20000 in
theorem gX11_inForce_X11_by : GoodIn wsX11_inForce (va_wsS RX11 213 yX11_by wsX11_by) := goodIn_app (goodIn_of _ (by decide +kernel)) ggX11_inForce_X11_by
theorem dX11_inForce_0 : decode cX11_inForce 0 = .ok (.aload_n 0, 1) := by decide +kernel
theorem dX11_inForce_1 : decode cX11_inForce 1 = .ok (.iload_n 1, 1) := by decide +kernel
theorem dX11_inForce_2 : decode cX11_inForce 2 = .ok (.iload_n 2, 1) := by decide +kernel
theorem dX11_inForce_3 : decode cX11_inForce 3 = .ok (.iload_n 3, 1) := by decide +kernel
theorem dX11_inForce_4 : decode cX11_inForce 4 = .ok (.invokevirtual 210, 3) := by decide +kernel
theorem dX11_inForce_7 : decode cX11_inForce 7 = .ok (.ifCond .eq 16, 3) := by decide +kernel
theorem dX11_inForce_10 : decode cX11_inForce 10 = .ok (.aload_n 0, 1) := by decide +kernel
theorem dX11_inForce_11 : decode cX11_inForce 11 = .ok (.iload_n 1, 1) := by decide +kernel
theorem dX11_inForce_12 : decode cX11_inForce 12 = .ok (.iload_n 2, 1) := by decide +kernel
theorem dX11_inForce_13 : decode cX11_inForce 13 = .ok (.invokevirtual 133, 3) := by decide +kernel
theorem dX11_inForce_16 : decode cX11_inForce 16 = .ok (.iload_n 3, 1) := by decide +kernel
theorem dX11_inForce_17 : decode cX11_inForce 17 = .ok (.invokestatic 213, 3) := by decide +kernel
theorem dX11_inForce_20 : decode cX11_inForce 20 = .ok (.goto 4, 3) := by decide +kernel
theorem dX11_inForce_23 : decode cX11_inForce 23 = .ok (.iconst 0, 1) := by decide +kernel
theorem dX11_inForce_24 : decode cX11_inForce 24 = .ok (.ireturn, 1) := by decide +kernel
set_option maxRecDepth 20000 in
theorem ggX11_ofNoticeNow_Jx4a65c_get_915e3 : GoodIn wsX11_ofNoticeNow wsJx4a65c_get_915e3 := goodIn_r _ [13, 14, 15, 16, 17, 18, 19, 20, 21, 22, 23, 24, 25, 12, 26, 27, 53, 54, 55] (by decide +kernel) (by decide +kernel)
set_option maxRecDepth 20000 in
theorem gX11_ofNoticeNow_Jx4a65c_get_915e3 : GoodIn wsX11_ofNoticeNow (wsV RX11 55 RJx4a65c yJx4a65c_get_915e3 wsJx4a65c_get_915e3) := goodIn_app (goodIn_of _ (by decide +kernel)) ggX11_ofNoticeNow_Jx4a65c_get_915e3
set_option maxRecDepth 20000 in
theorem ggX11_ofNoticeNow_Jx4a65c_size_8abf5 : GoodIn wsX11_ofNoticeNow wsJx4a65c_size_8abf5 := goodIn_r _ [31, 14, 53, 54, 55] (by decide +kernel) (by decide +kernel)
set_option maxRecDepth 20000 in
theorem gX11_ofNoticeNow_Jx4a65c_size_8abf5 : GoodIn wsX11_ofNoticeNow (wsV RX11 43 RJx4a65c yJx4a65c_size_8abf5 wsJx4a65c_size_8abf5) := goodIn_app (goodIn_of _ (by decide +kernel)) ggX11_ofNoticeNow_Jx4a65c_size_8abf5
set_option maxRecDepth 20000 in
theorem ggX11_ofNoticeNow_X11_counts : GoodIn wsX11_ofNoticeNow wsX11_counts := goodIn_r _ [36, 1, 2, 3, 6, 7, 4, 9, 10, 11, 12, 13, 14, 15, 16, 17, 18, 19, 20, 21, 22, 23, 24, 25, 26, 27, 37, 38, 39, 40, 41, 42, 43, 44, 45, 46, 47, 48, 49, 50, 51, 52, 53, 54, 55] (by decide +kernel) (by decide +kernel)
set_option maxRecDepth 20000 in
theorem gX11_ofNoticeNow_X11_counts : GoodIn wsX11_ofNoticeNow (wsV RX11 116 RX11 yX11_counts wsX11_counts) := goodIn_app (goodIn_of _ (by decide +kernel)) ggX11_ofNoticeNow_X11_counts
theorem dX11_ofNoticeNow_0 : decode cX11_ofNoticeNow 0 = .ok (.aload_n 0, 1) := by decide +kernel
theorem dX11_ofNoticeNow_1 : decode cX11_ofNoticeNow 1 = .ok (.getfield 26, 3) := by decide +kernel
theorem dX11_ofNoticeNow_4 : decode cX11_ofNoticeNow 4 = .ok (.iload_n 1, 1) := by decide +kernel
theorem dX11_ofNoticeNow_5 : decode cX11_ofNoticeNow 5 = .ok (.invokevirtual 55, 3) := by decide +kernel
theorem dX11_ofNoticeNow_8 : decode cX11_ofNoticeNow 8 = .ok (.checkcast 102, 3) := by decide +kernel
theorem dX11_ofNoticeNow_11 : decode cX11_ofNoticeNow 11 = .ok (.astore_n 3, 1) := by decide +kernel
theorem dX11_ofNoticeNow_12 : decode cX11_ofNoticeNow 12 = .ok (.iload_n 2, 1) := by decide +kernel
theorem dX11_ofNoticeNow_13 : decode cX11_ofNoticeNow 13 = .ok (.tableswitch 60 0 4 #[35, 40, 45, 50, 55], 35) := by decide +kernel
theorem dX11_ofNoticeNow_48 : decode cX11_ofNoticeNow 48 = .ok (.aload_n 3, 1) := by decide +kernel
theorem dX11_ofNoticeNow_49 : decode cX11_ofNoticeNow 49 = .ok (.getfield 104, 3) := by decide +kernel
theorem dX11_ofNoticeNow_52 : decode cX11_ofNoticeNow 52 = .ok (.ireturn, 1) := by decide +kernel
theorem dX11_ofNoticeNow_53 : decode cX11_ofNoticeNow 53 = .ok (.aload_n 3, 1) := by decide +kernel
theorem dX11_ofNoticeNow_54 : decode cX11_ofNoticeNow 54 = .ok (.getfield 113, 3) := by decide +kernel
theorem dX11_ofNoticeNow_57 : decode cX11_ofNoticeNow 57 = .ok (.ireturn, 1) := by decide +kernel
theorem dX11_ofNoticeNow_58 : decode cX11_ofNoticeNow 58 = .ok (.aload_n 3, 1) := by decide +kernel
theorem dX11_ofNoticeNow_59 : decode cX11_ofNoticeNow 59 = .ok (.getfield 119, 3) := by decide +kernel
theorem dX11_ofNoticeNow_62 : decode cX11_ofNoticeNow 62 = .ok (.ireturn, 1) := by decide +kernel
theorem dX11_ofNoticeNow_63 : decode cX11_ofNoticeNow 63 = .ok (.aload_n 3, 1) := by decide +kernel
theorem dX11_ofNoticeNow_64 : decode cX11_ofNoticeNow 64 = .ok (.getfield 107, 3) := by decide +kernel
theorem dX11_ofNoticeNow_67 : decode cX11_ofNoticeNow 67 = .ok (.ireturn, 1) := by decide +kernel
theorem dX11_ofNoticeNow_68 : decode cX11_ofNoticeNow 68 = .ok (.aload_n 3, 1) := by decide +kernel
theorem dX11_ofNoticeNow_69 : decode cX11_ofNoticeNow 69 = .ok (.getfield 110, 3) := by decide +kernel
theorem dX11_ofNoticeNow_72 : decode cX11_ofNoticeNow 72 = .ok (.ireturn, 1) := by decide +kernel
theorem dX11_ofNoticeNow_73 : decode cX11_ofNoticeNow 73 = .ok (.aload_n 3, 1) := by decide +kernel
theorem dX11_ofNoticeNow_74 : decode cX11_ofNoticeNow 74 = .ok (.getfield 104, 3) := by decide +kernel
theorem dX11_ofNoticeNow_77 : decode cX11_ofNoticeNow 77 = .ok (.iconst 3, 1) := by decide +kernel
theorem dX11_ofNoticeNow_78 : decode cX11_ofNoticeNow 78 = .ok (.if_icmp .eq 22, 3) := by decide +kernel
theorem dX11_ofNoticeNow_81 : decode cX11_ofNoticeNow 81 = .ok (.aload_n 0, 1) := by decide +kernel
theorem dX11_ofNoticeNow_82 : decode cX11_ofNoticeNow 82 = .ok (.iload_n 1, 1) := by decide +kernel
theorem dX11_ofNoticeNow_83 : decode cX11_ofNoticeNow 83 = .ok (.aload_n 0, 1) := by decide +kernel
theorem dX11_ofNoticeNow_84 : decode cX11_ofNoticeNow 84 = .ok (.getfield 156, 3) := by decide +kernel
theorem dX11_ofNoticeNow_87 : decode cX11_ofNoticeNow 87 = .ok (.aload_n 0, 1) := by decide +kernel
theorem dX11_ofNoticeNow_88 : decode cX11_ofNoticeNow 88 = .ok (.getfield 26, 3) := by decide +kernel
theorem dX11_ofNoticeNow_91 : decode cX11_ofNoticeNow 91 = .ok (.invokevirtual 43, 3) := by decide +kernel
theorem dX11_ofNoticeNow_94 : decode cX11_ofNoticeNow 94 = .ok (.invokevirtual 116, 3) := by decide +kernel
theorem dX11_ofNoticeNow_97 : decode cX11_ofNoticeNow 97 = .ok (.ifCond .eq 7, 3) := by decide +kernel
theorem dX11_ofNoticeNow_100 : decode cX11_ofNoticeNow 100 = .ok (.iconst 1, 1) := by decide +kernel
theorem dX11_ofNoticeNow_101 : decode cX11_ofNoticeNow 101 = .ok (.goto 4, 3) := by decide +kernel
theorem dX11_ofNoticeNow_104 : decode cX11_ofNoticeNow 104 = .ok (.iconst 0, 1) := by decide +kernel
theorem dX11_ofNoticeNow_105 : decode cX11_ofNoticeNow 105 = .ok (.ireturn, 1) := by decide +kernel
set_option maxRecDepth 20000 in
theorem ggX11_ofNotice_Jx4a65c_size_8abf5 : GoodIn wsX11_ofNotice wsJx4a65c_size_8abf5 := goodIn_r _ [6, 7, 64, 65, 66] (by decide +kernel) (by decide +kernel)
set_option maxRecDepth 20000 in
theorem gX11_ofNotice_Jx4a65c_size_8abf5 : GoodIn wsX11_ofNotice (wsV RX11 43 RJx4a65c yJx4a65c_size_8abf5 wsJx4a65c_size_8abf5) := goodIn_app (goodIn_of _ (by decide +kernel)) ggX11_ofNotice_Jx4a65c_size_8abf5
set_option maxRecDepth 20000 in
theorem ggX11_ofNotice_X11_isIn : GoodIn wsX11_ofNotice wsX11_isIn := goodIn_r _ [11] (by decide +kernel) (by decide +kernel)
set_option maxRecDepth 20000 in
theorem gX11_ofNotice_X11_isIn : GoodIn wsX11_ofNotice (va_wsS RX11 47 yX11_isIn wsX11_isIn) := goodIn_app (goodIn_of _ (by decide +kernel)) ggX11_ofNotice_X11_isIn
set_option maxRecDepth 20000 in
theorem ggX11_ofNotice_X11_start : GoodIn wsX11_ofNotice wsX11_start := goodIn_r _ [15, 16, 17, 18, 19, 10, 20, 53, 54, 55, 56, 57, 58, 59, 60, 61, 62, 63] (by decide +kernel) (by decide +kernel)
set_option maxRecDepth 20000 in
theorem gX11_ofNotice_X11_start : GoodIn wsX11_ofNotice (wsV RX11 142 RX11 yX11_start wsX11_start) := goodIn_app (goodIn_of _ (by decide +kernel)) ggX11_ofNotice_X11_start
set_option maxRecDepth 20000 in
theorem ggX11_ofNotice_X11_refuse : GoodIn wsX11_ofNotice wsX11_refuse := goodIn_r _ [20, 16, 53, 54, 55, 56, 57, 58, 59, 60, 61, 62, 63] (by decide +kernel) (by decide +kernel)
set_option maxRecDepth 20000 in
theorem gX11_ofNotice_X11_refuse : GoodIn wsX11_ofNotice (wsV RX11 39 RX11 yX11_refuse wsX11_refuse) := goodIn_app (goodIn_of _ (by decide +kernel)) ggX11_ofNotice_X11_refuse
set_option maxRecDepth 20000 in
theorem ggX11_ofNotice_X11_ofNoticeNow : GoodIn wsX11_ofNotice wsX11_ofNoticeNow := goodIn_r _ [24, 1, 25, 26, 27, 28, 29, 30, 31, 32, 33, 34, 5, 35, 7, 36, 37, 38, 39, 40, 41, 42, 43, 44, 45, 46, 47, 48, 2, 3, 4, 6, 49, 50, 51, 10, 52, 53, 54, 55, 56, 57, 58, 59, 60, 61, 62, 63, 67, 68, 69, 70, 71, 64, 65, 66] (by decide +kernel) (by decide +kernel)
set_option maxRecDepth 20000 in
theorem gX11_ofNotice_X11_ofNoticeNow : GoodIn wsX11_ofNotice (wsV RX11 218 RX11 yX11_ofNoticeNow wsX11_ofNoticeNow) := goodIn_app (goodIn_of _ (by decide +kernel)) ggX11_ofNotice_X11_ofNoticeNow
theorem dX11_ofNotice_0 : decode cX11_ofNotice 0 = .ok (.aload_n 0, 1) := by decide +kernel
theorem dX11_ofNotice_1 : decode cX11_ofNotice 1 = .ok (.iload_n 1, 1) := by decide +kernel
theorem dX11_ofNotice_2 : decode cX11_ofNotice 2 = .ok (.iconst 0, 1) := by decide +kernel
theorem dX11_ofNotice_3 : decode cX11_ofNotice 3 = .ok (.aload_n 0, 1) := by decide +kernel
theorem dX11_ofNotice_4 : decode cX11_ofNotice 4 = .ok (.getfield 26, 3) := by decide +kernel
theorem dX11_ofNotice_7 : decode cX11_ofNotice 7 = .ok (.invokevirtual 43, 3) := by decide +kernel
theorem dX11_ofNotice_10 : decode cX11_ofNotice 10 = .ok (.iconst 1, 1) := by decide +kernel
theorem dX11_ofNotice_11 : decode cX11_ofNotice 11 = .ok (.isub, 1) := by decide +kernel
theorem dX11_ofNotice_12 : decode cX11_ofNotice 12 = .ok (.invokestatic 47, 3) := by decide +kernel
theorem dX11_ofNotice_15 : decode cX11_ofNotice 15 = .ok (.ifCond .ne 7, 3) := by decide +kernel
theorem dX11_ofNotice_18 : decode cX11_ofNotice 18 = .ok (.iconst 1, 1) := by decide +kernel
theorem dX11_ofNotice_19 : decode cX11_ofNotice 19 = .ok (.goto 4, 3) := by decide +kernel
theorem dX11_ofNotice_22 : decode cX11_ofNotice 22 = .ok (.iconst 0, 1) := by decide +kernel
theorem dX11_ofNotice_23 : decode cX11_ofNotice 23 = .ok (.iconst 1, 1) := by decide +kernel
theorem dX11_ofNotice_24 : decode cX11_ofNotice 24 = .ok (.invokevirtual 142, 3) := by decide +kernel
theorem dX11_ofNotice_27 : decode cX11_ofNotice 27 = .ok (.ifCond .ne 25, 3) := by decide +kernel
theorem dX11_ofNotice_30 : decode cX11_ofNotice 30 = .ok (.aload_n 0, 1) := by decide +kernel
theorem dX11_ofNotice_31 : decode cX11_ofNotice 31 = .ok (.iload_n 2, 1) := by decide +kernel
theorem dX11_ofNotice_32 : decode cX11_ofNotice 32 = .ok (.iconst 0, 1) := by decide +kernel
theorem dX11_ofNotice_33 : decode cX11_ofNotice 33 = .ok (.iconst 5, 1) := by decide +kernel
theorem dX11_ofNotice_34 : decode cX11_ofNotice 34 = .ok (.invokestatic 47, 3) := by decide +kernel
theorem dX11_ofNotice_37 : decode cX11_ofNotice 37 = .ok (.ifCond .ne 7, 3) := by decide +kernel
theorem dX11_ofNotice_40 : decode cX11_ofNotice 40 = .ok (.iconst 1, 1) := by decide +kernel
theorem dX11_ofNotice_41 : decode cX11_ofNotice 41 = .ok (.goto 4, 3) := by decide +kernel
theorem dX11_ofNotice_44 : decode cX11_ofNotice 44 = .ok (.iconst 0, 1) := by decide +kernel
theorem dX11_ofNotice_45 : decode cX11_ofNotice 45 = .ok (.iconst 2, 1) := by decide +kernel
theorem dX11_ofNotice_46 : decode cX11_ofNotice 46 = .ok (.invokevirtual 39, 3) := by decide +kernel
theorem dX11_ofNotice_49 : decode cX11_ofNotice 49 = .ok (.ifCond .eq 7, 3) := by decide +kernel
theorem dX11_ofNotice_52 : decode cX11_ofNotice 52 = .ok (.iconst 0, 1) := by decide +kernel
theorem dX11_ofNotice_53 : decode cX11_ofNotice 53 = .ok (.goto 9, 3) := by decide +kernel
theorem dX11_ofNotice_56 : decode cX11_ofNotice 56 = .ok (.aload_n 0, 1) := by decide +kernel
theorem dX11_ofNotice_57 : decode cX11_ofNotice 57 = .ok (.iload_n 1, 1) := by decide +kernel
theorem dX11_ofNotice_58 : decode cX11_ofNotice 58 = .ok (.iload_n 2, 1) := by decide +kernel
theorem dX11_ofNotice_59 : decode cX11_ofNotice 59 = .ok (.invokevirtual 218, 3) := by decide +kernel
theorem dX11_ofNotice_62 : decode cX11_ofNotice 62 = .ok (.ireturn, 1) := by decide +kernel
set_option maxRecDepth 20000 in
theorem ggX11_believes_X11_isNoCrew : GoodIn wsX11_believes wsX11_isNoCrew := goodIn_r _ [5, 6, 7, 4, 8] (by decide +kernel) (by decide +kernel)
set_option maxRecDepth 20000 in
theorem gX11_believes_X11_isNoCrew : GoodIn wsX11_believes (va_wsS RX11 195 yX11_isNoCrew wsX11_isNoCrew) := goodIn_app (goodIn_of _ (by decide +kernel)) ggX11_believes_X11_isNoCrew
set_option maxRecDepth 20000 in
theorem ggX11_believes_X11_isNoProcedure : GoodIn wsX11_believes wsX11_isNoProcedure := goodIn_r _ [12, 13, 14, 15, 16, 17, 18, 19, 6, 7, 4, 8, 88, 89, 90, 91, 92, 93, 94, 95, 96, 97, 98, 99, 100, 101] (by decide +kernel) (by decide +kernel)
set_option maxRecDepth 20000 in
theorem gX11_believes_X11_isNoProcedure : GoodIn wsX11_believes (wsV RX11 175 RX11 yX11_isNoProcedure wsX11_isNoProcedure) := goodIn_app (goodIn_of _ (by decide +kernel)) ggX11_believes_X11_isNoProcedure
set_option maxRecDepth 20000 in
theorem ggX11_believes_X11_start : GoodIn wsX11_believes wsX11_start := goodIn_r _ [23, 24, 25, 26, 27, 4, 28, 88, 89, 90, 91, 92, 93, 94, 95, 96, 97, 98] (by decide +kernel) (by decide +kernel)
set_option maxRecDepth 20000 in
theorem gX11_believes_X11_start : GoodIn wsX11_believes (wsV RX11 142 RX11 yX11_start wsX11_start) := goodIn_app (goodIn_of _ (by decide +kernel)) ggX11_believes_X11_start
set_option maxRecDepth 20000 in
theorem ggX11_believes_X11_isIn : GoodIn wsX11_believes wsX11_isIn := goodIn_r _ [8] (by decide +kernel) (by decide +kernel)
set_option maxRecDepth 20000 in
theorem gX11_believes_X11_isIn : GoodIn wsX11_believes (va_wsS RX11 47 yX11_isIn wsX11_isIn) := goodIn_app (goodIn_of _ (by decide +kernel)) ggX11_believes_X11_isIn
set_option maxRecDepth 20000 in
theorem ggX11_believes_X11_isNoCategory : GoodIn wsX11_believes wsX11_isNoCategory := goodIn_r _ [31, 6, 7, 4, 8] (by decide +kernel) (by decide +kernel)
set_option maxRecDepth 20000 in
theorem gX11_believes_X11_isNoCategory : GoodIn wsX11_believes (va_wsS RX11 207 yX11_isNoCategory wsX11_isNoCategory) := goodIn_app (goodIn_of _ (by decide +kernel)) ggX11_believes_X11_isNoCategory
set_option maxRecDepth 20000 in
theorem ggX11_believes_X11_refuse : GoodIn wsX11_believes wsX11_refuse := goodIn_r _ [28, 24, 88, 89, 90, 91, 92, 93, 94, 95, 96, 97, 98] (by decide +kernel) (by decide +kernel)
set_option maxRecDepth 20000 in
theorem gX11_believes_X11_refuse : GoodIn wsX11_believes (wsV RX11 39 RX11 yX11_refuse wsX11_refuse) := goodIn_app (goodIn_of _ (by decide +kernel)) ggX11_believes_X11_refuse
set_option maxRecDepth 20000 in
theorem ggX11_believes_X11_believesNow : GoodIn wsX11_believes wsX11_believesNow := goodIn_r _ [35, 36, 13, 37, 38, 39, 40, 41, 17, 42, 19, 43, 44, 45, 46, 47, 48, 49, 50, 51, 52, 53, 54, 55, 56, 57, 58, 59, 60, 61, 62, 63, 15, 16, 18, 64, 65, 66, 67, 4, 68, 69, 70, 71, 72, 73, 74, 75, 76, 77, 78, 79, 80, 81, 82, 83, 84, 88, 89, 90, 91, 92, 93, 94, 95, 96, 97, 98, 99, 100, 101, 102, 103, 104, 105, 106, 107, 108, 109] (by decide +kernel) (by decide +kernel)
set_option maxRecDepth 20000 in
theorem gX11_believes_X11_believesNow : GoodIn wsX11_believes (wsV RX11 221 RX11 yX11_believesNow wsX11_believesNow) := goodIn_app (goodIn_of _ (by decide +kernel)) ggX11_believes_X11_believesNow
set_option maxRecDepth 20000 in
theorem ggX11_believes_X11_by : GoodIn wsX11_believes wsX11_by := goodIn_r _ [87] (by decide +kernel) (by decide +kernel)
set_option maxRecDepth 20000 in
theorem gX11_believes_X11_by : GoodIn wsX11_believes (va_wsS RX11 213 yX11_by wsX11_by) := goodIn_app (goodIn_of _ (by decide +kernel)) ggX11_believes_X11_by
theorem dX11_believes_0 : decode cX11_believes 0 = .ok (.aload_n 0, 1) := by decide +kernel
theorem dX11_believes_1 : decode cX11_believes 1 = .ok (.iload_n 1, 1) := by decide +kernel
theorem dX11_believes_2 : decode cX11_believes 2 = .ok (.invokestatic 195, 3) := by decide +kernel
theorem dX11_believes_5 : decode cX11_believes 5 = .ok (.ifCond .ne 11, 3) := by decide +kernel
theorem dX11_believes_8 : decode cX11_believes 8 = .ok (.aload_n 0, 1) := by decide +kernel
theorem dX11_believes_9 : decode cX11_believes 9 = .ok (.iload_n 2, 1) := by decide +kernel
theorem dX11_believes_10 : decode cX11_believes 10 = .ok (.invokevirtual 175, 3) := by decide +kernel
theorem dX11_believes_13 : decode cX11_believes 13 = .ok (.ifCond .eq 7, 3) := by decide +kernel
theorem dX11_believes_16 : decode cX11_believes 16 = .ok (.iconst 1, 1) := by decide +kernel
theorem dX11_believes_17 : decode cX11_believes 17 = .ok (.goto 4, 3) := by decide +kernel
theorem dX11_believes_20 : decode cX11_believes 20 = .ok (.iconst 0, 1) := by decide +kernel
theorem dX11_believes_21 : decode cX11_believes 21 = .ok (.iconst 1, 1) := by decide +kernel
theorem dX11_believes_22 : decode cX11_believes 22 = .ok (.invokevirtual 142, 3) := by decide +kernel
theorem dX11_believes_25 : decode cX11_believes 25 = .ok (.ifCond .ne 38, 3) := by decide +kernel
theorem dX11_believes_28 : decode cX11_believes 28 = .ok (.aload_n 0, 1) := by decide +kernel
theorem dX11_believes_29 : decode cX11_believes 29 = .ok (.iload_n 3, 1) := by decide +kernel
theorem dX11_believes_30 : decode cX11_believes 30 = .ok (.aload_n 0, 1) := by decide +kernel
theorem dX11_believes_31 : decode cX11_believes 31 = .ok (.getfield 156, 3) := by decide +kernel
theorem dX11_believes_34 : decode cX11_believes 34 = .ok (.sipush 399, 3) := by decide +kernel
theorem dX11_believes_37 : decode cX11_believes 37 = .ok (.invokestatic 47, 3) := by decide +kernel
theorem dX11_believes_40 : decode cX11_believes 40 = .ok (.ifCond .eq 11, 3) := by decide +kernel
theorem dX11_believes_43 : decode cX11_believes 43 = .ok (.iload 4, 2) := by decide +kernel
theorem dX11_believes_45 : decode cX11_believes 45 = .ok (.invokestatic 207, 3) := by decide +kernel
theorem dX11_believes_48 : decode cX11_believes 48 = .ok (.ifCond .eq 7, 3) := by decide +kernel
theorem dX11_believes_51 : decode cX11_believes 51 = .ok (.iconst 1, 1) := by decide +kernel
theorem dX11_believes_52 : decode cX11_believes 52 = .ok (.goto 4, 3) := by decide +kernel
theorem dX11_believes_55 : decode cX11_believes 55 = .ok (.iconst 0, 1) := by decide +kernel
theorem dX11_believes_56 : decode cX11_believes 56 = .ok (.iconst 2, 1) := by decide +kernel
theorem dX11_believes_57 : decode cX11_believes 57 = .ok (.invokevirtual 39, 3) := by decide +kernel
theorem dX11_believes_60 : decode cX11_believes 60 = .ok (.ifCond .eq 7, 3) := by decide +kernel
theorem dX11_believes_63 : decode cX11_believes 63 = .ok (.iconst 0, 1) := by decide +kernel
theorem dX11_believes_64 : decode cX11_believes 64 = .ok (.goto 15, 3) := by decide +kernel
theorem dX11_believes_67 : decode cX11_believes 67 = .ok (.aload_n 0, 1) := by decide +kernel
theorem dX11_believes_68 : decode cX11_believes 68 = .ok (.iload_n 1, 1) := by decide +kernel
theorem dX11_believes_69 : decode cX11_believes 69 = .ok (.iload_n 2, 1) := by decide +kernel
theorem dX11_believes_70 : decode cX11_believes 70 = .ok (.iload_n 3, 1) := by decide +kernel
theorem dX11_believes_71 : decode cX11_believes 71 = .ok (.invokevirtual 221, 3) := by decide +kernel
theorem dX11_believes_74 : decode cX11_believes 74 = .ok (.iload 4, 2) := by decide +kernel
theorem dX11_believes_76 : decode cX11_believes 76 = .ok (.invokestatic 213, 3) := by decide +kernel
theorem dX11_believes_79 : decode cX11_believes 79 = .ok (.ireturn, 1) := by decide +kernel
set_option maxRecDepth 20000 in
theorem ggX11_misledNow_Jx4a65c_size_8abf5 : GoodIn wsX11_misledNow wsJx4a65c_size_8abf5 := goodIn_r _ [7, 8, 83, 84, 85] (by decide +kernel) (by decide +kernel)
set_option maxRecDepth 20000 in
theorem gX11_misledNow_Jx4a65c_size_8abf5 : GoodIn wsX11_misledNow (wsV RX11 43 RJx4a65c yJx4a65c_size_8abf5 wsJx4a65c_size_8abf5) := goodIn_app (goodIn_of _ (by decide +kernel)) ggX11_misledNow_Jx4a65c_size_8abf5
set_option maxRecDepth 20000 in
theorem ggX11_misledNow_X11_believesNow : GoodIn wsX11_misledNow wsX11_believesNow := goodIn_r _ [13, 14, 1, 15, 16, 17, 18, 19, 6, 20, 8, 21, 22, 23, 24, 25, 26, 27, 28, 29, 30, 31, 32, 33, 34, 35, 36, 37, 38, 39, 40, 41, 4, 5, 7, 42, 43, 44, 45, 12, 46, 47, 48, 49, 50, 51, 52, 53, 54, 55, 56, 57, 58, 59, 60, 61, 62, 72, 73, 74, 75, 76, 77, 78, 79, 80, 81, 82, 83, 84, 85, 86, 87, 88, 89, 90, 91, 92, 93] (by decide +kernel) (by decide +kernel)
set_option maxRecDepth 20000 in
theorem gX11_misledNow_X11_believesNow : GoodIn wsX11_misledNow (wsV RX11 221 RX11 yX11_believesNow wsX11_believesNow) := goodIn_app (goodIn_of _ (by decide +kernel)) ggX11_misledNow_X11_believesNow
set_option maxRecDepth 20000 in
theorem ggX11_misledNow_X11_inForceNow : GoodIn wsX11_misledNow wsX11_inForceNow := goodIn_r _ [66, 1, 15, 51, 47, 17, 18, 19, 6, 20, 8, 21, 22, 23, 24, 25, 26, 27, 28, 29, 30, 31, 32, 33, 67, 68, 69, 12, 70, 71, 34, 35, 36, 37, 38, 39, 40, 41, 4, 5, 7, 42, 3, 43, 44, 45, 46, 48, 49, 50, 52, 53, 54, 55, 56, 57, 58, 59, 60, 61, 62, 72, 73, 74, 75, 76, 77, 78, 79, 80, 81, 82, 86, 87, 88, 83, 84, 85, 89, 90, 91, 92, 93] (by decide +kernel) (by decide +kernel)
set_option maxRecDepth 20000 in
theorem gX11_misledNow_X11_inForceNow : GoodIn wsX11_misledNow (wsV RX11 133 RX11 yX11_inForceNow wsX11_inForceNow) := goodIn_app (goodIn_of _ (by decide +kernel)) ggX11_misledNow_X11_inForceNow
theorem dX11_misledNow_0 : decode cX11_misledNow 0 = .ok (.iconst 0, 1) := by decide +kernel
theorem dX11_misledNow_1 : decode cX11_misledNow 1 = .ok (.istore_n 2, 1) := by decide +kernel
theorem dX11_misledNow_2 : decode cX11_misledNow 2 = .ok (.iconst 0, 1) := by decide +kernel
theorem dX11_misledNow_3 : decode cX11_misledNow 3 = .ok (.istore_n 3, 1) := by decide +kernel
theorem dX11_misledNow_4 : decode cX11_misledNow 4 = .ok (.iload_n 3, 1) := by decide +kernel
theorem dX11_misledNow_5 : decode cX11_misledNow 5 = .ok (.aload_n 0, 1) := by decide +kernel
theorem dX11_misledNow_6 : decode cX11_misledNow 6 = .ok (.getfield 23, 3) := by decide +kernel
theorem dX11_misledNow_9 : decode cX11_misledNow 9 = .ok (.invokevirtual 43, 3) := by decide +kernel
theorem dX11_misledNow_12 : decode cX11_misledNow 12 = .ok (.if_icmp .ge 57, 3) := by decide +kernel
theorem dX11_misledNow_15 : decode cX11_misledNow 15 = .ok (.aload_n 0, 1) := by decide +kernel
theorem dX11_misledNow_16 : decode cX11_misledNow 16 = .ok (.iload_n 1, 1) := by decide +kernel
theorem dX11_misledNow_17 : decode cX11_misledNow 17 = .ok (.iload_n 3, 1) := by decide +kernel
theorem dX11_misledNow_18 : decode cX11_misledNow 18 = .ok (.aload_n 0, 1) := by decide +kernel
theorem dX11_misledNow_19 : decode cX11_misledNow 19 = .ok (.getfield 156, 3) := by decide +kernel
theorem dX11_misledNow_22 : decode cX11_misledNow 22 = .ok (.invokevirtual 221, 3) := by decide +kernel
theorem dX11_misledNow_25 : decode cX11_misledNow 25 = .ok (.istore 4, 2) := by decide +kernel
theorem dX11_misledNow_27 : decode cX11_misledNow 27 = .ok (.aload_n 0, 1) := by decide +kernel
theorem dX11_misledNow_28 : decode cX11_misledNow 28 = .ok (.iload_n 3, 1) := by decide +kernel
theorem dX11_misledNow_29 : decode cX11_misledNow 29 = .ok (.aload_n 0, 1) := by decide +kernel
theorem dX11_misledNow_30 : decode cX11_misledNow 30 = .ok (.getfield 156, 3) := by decide +kernel
theorem dX11_misledNow_33 : decode cX11_misledNow 33 = .ok (.invokevirtual 133, 3) := by decide +kernel
theorem dX11_misledNow_36 : decode cX11_misledNow 36 = .ok (.istore 5, 2) := by decide +kernel
theorem dX11_misledNow_38 : decode cX11_misledNow 38 = .ok (.iload 4, 2) := by decide +kernel
theorem dX11_misledNow_40 : decode cX11_misledNow 40 = .ok (.iconst (-1), 1) := by decide +kernel
theorem dX11_misledNow_41 : decode cX11_misledNow 41 = .ok (.if_icmp .eq 22, 3) := by decide +kernel
theorem dX11_misledNow_44 : decode cX11_misledNow 44 = .ok (.iload 5, 2) := by decide +kernel
theorem dX11_misledNow_46 : decode cX11_misledNow 46 = .ok (.iconst (-1), 1) := by decide +kernel
theorem dX11_misledNow_47 : decode cX11_misledNow 47 = .ok (.if_icmp .eq 10, 3) := by decide +kernel
theorem dX11_misledNow_50 : decode cX11_misledNow 50 = .ok (.iload 5, 2) := by decide +kernel
theorem dX11_misledNow_52 : decode cX11_misledNow 52 = .ok (.iload 4, 2) := by decide +kernel
theorem dX11_misledNow_54 : decode cX11_misledNow 54 = .ok (.if_icmp .le 9, 3) := by decide +kernel
theorem dX11_misledNow_57 : decode cX11_misledNow 57 = .ok (.iload_n 2, 1) := by decide +kernel
theorem dX11_misledNow_58 : decode cX11_misledNow 58 = .ok (.iconst 1, 1) := by decide +kernel
theorem dX11_misledNow_59 : decode cX11_misledNow 59 = .ok (.iload_n 3, 1) := by decide +kernel
theorem dX11_misledNow_60 : decode cX11_misledNow 60 = .ok (.ishl, 1) := by decide +kernel
theorem dX11_misledNow_61 : decode cX11_misledNow 61 = .ok (.ior, 1) := by decide +kernel
theorem dX11_misledNow_62 : decode cX11_misledNow 62 = .ok (.istore_n 2, 1) := by decide +kernel
theorem dX11_misledNow_63 : decode cX11_misledNow 63 = .ok (.iinc 3 1, 3) := by decide +kernel
theorem dX11_misledNow_66 : decode cX11_misledNow 66 = .ok (.goto (-62), 3) := by decide +kernel
theorem dX11_misledNow_69 : decode cX11_misledNow 69 = .ok (.iload_n 2, 1) := by decide +kernel
theorem dX11_misledNow_70 : decode cX11_misledNow 70 = .ok (.ireturn, 1) := by decide +kernel
set_option maxRecDepth 20000 in
theorem ggX11_misled_X11_isNoCrew : GoodIn wsX11_misled wsX11_isNoCrew := goodIn_r _ [4, 5, 6, 3, 7] (by decide +kernel) (by decide +kernel)
set_option maxRecDepth 20000 in
theorem gX11_misled_X11_isNoCrew : GoodIn wsX11_misled (va_wsS RX11 195 yX11_isNoCrew wsX11_isNoCrew) := goodIn_app (goodIn_of _ (by decide +kernel)) ggX11_misled_X11_isNoCrew
set_option maxRecDepth 20000 in
theorem ggX11_misled_X11_start : GoodIn wsX11_misled wsX11_start := goodIn_r _ [11, 12, 13, 14, 15, 3, 16, 91, 92, 93, 94, 95, 96, 97, 98, 99, 100, 101] (by decide +kernel) (by decide +kernel)
set_option maxRecDepth 20000 in
theorem gX11_misled_X11_start : GoodIn wsX11_misled (wsV RX11 142 RX11 yX11_start wsX11_start) := goodIn_app (goodIn_of _ (by decide +kernel)) ggX11_misled_X11_start
set_option maxRecDepth 20000 in
theorem ggX11_misled_X11_misledNow : GoodIn wsX11_misled wsX11_misledNow := goodIn_r _ [20, 21, 22, 23, 24, 25, 26, 27, 28, 29, 30, 31, 3, 32, 33, 34, 35, 36, 37, 38, 39, 40, 41, 42, 43, 44, 45, 46, 47, 48, 49, 50, 51, 52, 53, 54, 55, 56, 57, 58, 59, 60, 61, 62, 63, 64, 65, 66, 67, 68, 69, 70, 71, 72, 73, 74, 75, 76, 77, 78, 79, 80, 81, 82, 83, 84, 85, 86, 87, 88, 89, 90, 91, 92, 93, 94, 95, 96, 97, 98, 99, 100, 101, 102, 103, 104, 105, 106, 107, 108, 109, 110, 111, 112] (by decide +kernel) (by decide +kernel)
set_option maxRecDepth 20000 in
theorem gX11_misled_X11_misledNow : GoodIn wsX11_misled (wsV RX11 225 RX11 yX11_misledNow wsX11_misledNow) := goodIn_app (goodIn_of _ (by decide +kernel)) ggX11_misled_X11_misledNow
theorem dX11_misled_0 : decode cX11_misled 0 = .ok (.aload_n 0, 1) := by decide +kernel
theorem dX11_misled_1 : decode cX11_misled 1 = .ok (.iload_n 1, 1) := by decide +kernel
theorem dX11_misled_2 : decode cX11_misled 2 = .ok (.invokestatic 195, 3) := by decide +kernel
theorem dX11_misled_5 : decode cX11_misled 5 = .ok (.iconst 1, 1) := by decide +kernel
theorem dX11_misled_6 : decode cX11_misled 6 = .ok (.invokevirtual 142, 3) := by decide +kernel
theorem dX11_misled_9 : decode cX11_misled 9 = .ok (.ifCond .eq 7, 3) := by decide +kernel
theorem dX11_misled_12 : decode cX11_misled 12 = .ok (.iconst 0, 1) := by decide +kernel
theorem dX11_misled_13 : decode cX11_misled 13 = .ok (.goto 8, 3) := by decide +kernel
theorem dX11_misled_16 : decode cX11_misled 16 = .ok (.aload_n 0, 1) := by decide +kernel
theorem dX11_misled_17 : decode cX11_misled 17 = .ok (.iload_n 1, 1) := by decide +kernel
theorem dX11_misled_18 : decode cX11_misled 18 = .ok (.invokevirtual 225, 3) := by decide +kernel
theorem dX11_misled_21 : decode cX11_misled 21 = .ok (.ireturn, 1) := by decide +kernel
set_option maxRecDepth 20000 in
theorem ggX11_manyNow_Jx4a65c_size_8abf5 : GoodIn wsX11_manyNow wsJx4a65c_size_8abf5 := goodIn_r _ [15, 16, 126, 127, 128] (by decide +kernel) (by decide +kernel)
set_option maxRecDepth 20000 in
theorem gX11_manyNow_Jx4a65c_size_8abf5 : GoodIn wsX11_manyNow (wsV RX11 43 RJx4a65c yJx4a65c_size_8abf5 wsJx4a65c_size_8abf5) := goodIn_app (goodIn_of _ (by decide +kernel)) ggX11_manyNow_Jx4a65c_size_8abf5
set_option maxRecDepth 20000 in
theorem ggX11_manyNow_X11_counts : GoodIn wsX11_manyNow wsX11_counts := goodIn_r _ [21, 4, 22, 23, 24, 25, 26, 27, 28, 29, 14, 30, 16, 31, 32, 33, 34, 35, 36, 37, 38, 39, 40, 41, 42, 43, 115, 116, 117, 118, 119, 120, 121, 122, 123, 124, 125, 129, 130, 131, 132, 133, 126, 127, 128] (by decide +kernel) (by decide +kernel)
set_option maxRecDepth 20000 in
theorem gX11_manyNow_X11_counts : GoodIn wsX11_manyNow (wsV RX11 116 RX11 yX11_counts wsX11_counts) := goodIn_app (goodIn_of _ (by decide +kernel)) ggX11_manyNow_X11_counts
set_option maxRecDepth 20000 in
theorem ggX11_manyNow_X11_isGood : GoodIn wsX11_manyNow wsX11_isGood := goodIn_r _ [47, 3, 115, 116, 117, 118, 119, 120, 121, 122, 123, 124, 125] (by decide +kernel) (by decide +kernel)
set_option maxRecDepth 20000 in
theorem gX11_manyNow_X11_isGood : GoodIn wsX11_manyNow (wsV RX11 122 RX11 yX11_isGood wsX11_isGood) := goodIn_app (goodIn_of _ (by decide +kernel)) ggX11_manyNow_X11_isGood
set_option maxRecDepth 20000 in
theorem ggX11_manyNow_X11_isUnsafe : GoodIn wsX11_manyNow wsX11_isUnsafe := goodIn_r _ [51, 52, 53, 54, 20, 55, 6, 56, 57, 4, 27, 28, 29, 14, 30, 16, 31, 32, 33, 34, 35, 36, 37, 38, 39, 40, 41, 42, 43, 44, 45, 46, 47, 3, 58, 59, 60, 61, 62, 63, 64, 65, 12, 13, 15, 66, 11, 67, 68, 69, 70, 22, 23, 26, 71, 72, 73, 74, 75, 17, 18, 19, 21, 24, 25, 76, 77, 78, 79, 80, 81, 82, 83, 84, 85, 86, 8, 87, 88, 89, 90, 91, 92, 93, 94, 95, 96, 97, 98, 99, 100, 101, 102, 103, 104, 105, 106, 107, 108, 109, 110, 111, 112, 113, 114, 115, 116, 117, 118, 119, 120, 121, 122, 123, 124, 125, 134, 135, 136, 126, 127, 128, 129, 130, 131, 132, 133, 137, 138, 139, 140, 141] (by decide +kernel) (by decide +kernel)
set_option maxRecDepth 20000 in
theorem gX11_manyNow_X11_isUnsafe : GoodIn wsX11_manyNow (wsV RX11 169 RX11 yX11_isUnsafe wsX11_isUnsafe) := goodIn_app (goodIn_of _ (by decide +kernel)) ggX11_manyNow_X11_isUnsafe
theorem dX11_manyNow_0 : decode cX11_manyNow 0 = .ok (.iload_n 1, 1) := by decide +kernel
theorem dX11_manyNow_1 : decode cX11_manyNow 1 = .ok (.bipush 15, 2) := by decide +kernel
theorem dX11_manyNow_3 : decode cX11_manyNow 3 = .ok (.if_icmp .le 13, 3) := by decide +kernel
theorem dX11_manyNow_6 : decode cX11_manyNow 6 = .ok (.aload_n 0, 1) := by decide +kernel
theorem dX11_manyNow_7 : decode cX11_manyNow 7 = .ok (.getfield 32, 3) := by decide +kernel
theorem dX11_manyNow_10 : decode cX11_manyNow 10 = .ok (.iload_n 1, 1) := by decide +kernel
theorem dX11_manyNow_11 : decode cX11_manyNow 11 = .ok (.bipush 16, 2) := by decide +kernel
theorem dX11_manyNow_13 : decode cX11_manyNow 13 = .ok (.isub, 1) := by decide +kernel
theorem dX11_manyNow_14 : decode cX11_manyNow 14 = .ok (.iaload, 1) := by decide +kernel
theorem dX11_manyNow_15 : decode cX11_manyNow 15 = .ok (.ireturn, 1) := by decide +kernel
theorem dX11_manyNow_16 : decode cX11_manyNow 16 = .ok (.iload_n 1, 1) := by decide +kernel
theorem dX11_manyNow_17 : decode cX11_manyNow 17 = .ok (.bipush 11, 2) := by decide +kernel
theorem dX11_manyNow_19 : decode cX11_manyNow 19 = .ok (.if_icmp .le 13, 3) := by decide +kernel
theorem dX11_manyNow_22 : decode cX11_manyNow 22 = .ok (.aload_n 0, 1) := by decide +kernel
theorem dX11_manyNow_23 : decode cX11_manyNow 23 = .ok (.getfield 29, 3) := by decide +kernel
theorem dX11_manyNow_26 : decode cX11_manyNow 26 = .ok (.iload_n 1, 1) := by decide +kernel
theorem dX11_manyNow_27 : decode cX11_manyNow 27 = .ok (.bipush 12, 2) := by decide +kernel
theorem dX11_manyNow_29 : decode cX11_manyNow 29 = .ok (.isub, 1) := by decide +kernel
theorem dX11_manyNow_30 : decode cX11_manyNow 30 = .ok (.iaload, 1) := by decide +kernel
theorem dX11_manyNow_31 : decode cX11_manyNow 31 = .ok (.ireturn, 1) := by decide +kernel
theorem dX11_manyNow_32 : decode cX11_manyNow 32 = .ok (.iload_n 1, 1) := by decide +kernel
theorem dX11_manyNow_33 : decode cX11_manyNow 33 = .ok (.bipush 8, 2) := by decide +kernel
theorem dX11_manyNow_35 : decode cX11_manyNow 35 = .ok (.if_icmp .le 13, 3) := by decide +kernel
theorem dX11_manyNow_38 : decode cX11_manyNow 38 = .ok (.aload_n 0, 1) := by decide +kernel
theorem dX11_manyNow_39 : decode cX11_manyNow 39 = .ok (.getfield 20, 3) := by decide +kernel
theorem dX11_manyNow_42 : decode cX11_manyNow 42 = .ok (.iload_n 1, 1) := by decide +kernel
theorem dX11_manyNow_43 : decode cX11_manyNow 43 = .ok (.bipush 9, 2) := by decide +kernel
theorem dX11_manyNow_45 : decode cX11_manyNow 45 = .ok (.isub, 1) := by decide +kernel
theorem dX11_manyNow_46 : decode cX11_manyNow 46 = .ok (.iaload, 1) := by decide +kernel
theorem dX11_manyNow_47 : decode cX11_manyNow 47 = .ok (.ireturn, 1) := by decide +kernel
theorem dX11_manyNow_48 : decode cX11_manyNow 48 = .ok (.iconst 0, 1) := by decide +kernel
theorem dX11_manyNow_49 : decode cX11_manyNow 49 = .ok (.istore_n 2, 1) := by decide +kernel
theorem dX11_manyNow_50 : decode cX11_manyNow 50 = .ok (.iconst 0, 1) := by decide +kernel
theorem dX11_manyNow_51 : decode cX11_manyNow 51 = .ok (.istore_n 3, 1) := by decide +kernel
theorem dX11_manyNow_52 : decode cX11_manyNow 52 = .ok (.iload_n 3, 1) := by decide +kernel
theorem dX11_manyNow_53 : decode cX11_manyNow 53 = .ok (.aload_n 0, 1) := by decide +kernel
theorem dX11_manyNow_54 : decode cX11_manyNow 54 = .ok (.getfield 26, 3) := by decide +kernel
theorem dX11_manyNow_57 : decode cX11_manyNow 57 = .ok (.invokevirtual 43, 3) := by decide +kernel
theorem dX11_manyNow_60 : decode cX11_manyNow 60 = .ok (.if_icmp .ge 36, 3) := by decide +kernel
theorem dX11_manyNow_63 : decode cX11_manyNow 63 = .ok (.iload_n 2, 1) := by decide +kernel
theorem dX11_manyNow_64 : decode cX11_manyNow 64 = .ok (.aload_n 0, 1) := by decide +kernel
theorem dX11_manyNow_65 : decode cX11_manyNow 65 = .ok (.iload_n 3, 1) := by decide +kernel
theorem dX11_manyNow_66 : decode cX11_manyNow 66 = .ok (.aload_n 0, 1) := by decide +kernel
theorem dX11_manyNow_67 : decode cX11_manyNow 67 = .ok (.getfield 156, 3) := by decide +kernel
theorem dX11_manyNow_70 : decode cX11_manyNow 70 = .ok (.aload_n 0, 1) := by decide +kernel
theorem dX11_manyNow_71 : decode cX11_manyNow 71 = .ok (.getfield 26, 3) := by decide +kernel
theorem dX11_manyNow_74 : decode cX11_manyNow 74 = .ok (.invokevirtual 43, 3) := by decide +kernel
theorem dX11_manyNow_77 : decode cX11_manyNow 77 = .ok (.invokevirtual 116, 3) := by decide +kernel
theorem dX11_manyNow_80 : decode cX11_manyNow 80 = .ok (.ifCond .eq 7, 3) := by decide +kernel
theorem dX11_manyNow_83 : decode cX11_manyNow 83 = .ok (.iconst 1, 1) := by decide +kernel
theorem dX11_manyNow_84 : decode cX11_manyNow 84 = .ok (.goto 4, 3) := by decide +kernel
theorem dX11_manyNow_87 : decode cX11_manyNow 87 = .ok (.iconst 0, 1) := by decide +kernel
theorem dX11_manyNow_88 : decode cX11_manyNow 88 = .ok (.iadd, 1) := by decide +kernel
theorem dX11_manyNow_89 : decode cX11_manyNow 89 = .ok (.istore_n 2, 1) := by decide +kernel
theorem dX11_manyNow_90 : decode cX11_manyNow 90 = .ok (.iinc 3 1, 3) := by decide +kernel
theorem dX11_manyNow_93 : decode cX11_manyNow 93 = .ok (.goto (-41), 3) := by decide +kernel
theorem dX11_manyNow_96 : decode cX11_manyNow 96 = .ok (.iconst 0, 1) := by decide +kernel
theorem dX11_manyNow_97 : decode cX11_manyNow 97 = .ok (.istore_n 3, 1) := by decide +kernel
theorem dX11_manyNow_98 : decode cX11_manyNow 98 = .ok (.iconst 0, 1) := by decide +kernel
theorem dX11_manyNow_99 : decode cX11_manyNow 99 = .ok (.istore 4, 2) := by decide +kernel
theorem dX11_manyNow_101 : decode cX11_manyNow 101 = .ok (.iload 4, 2) := by decide +kernel
theorem dX11_manyNow_103 : decode cX11_manyNow 103 = .ok (.iconst 3, 1) := by decide +kernel
theorem dX11_manyNow_104 : decode cX11_manyNow 104 = .ok (.if_icmp .ge 33, 3) := by decide +kernel
theorem dX11_manyNow_107 : decode cX11_manyNow 107 = .ok (.iload_n 3, 1) := by decide +kernel
theorem dX11_manyNow_108 : decode cX11_manyNow 108 = .ok (.aload_n 0, 1) := by decide +kernel
theorem dX11_manyNow_109 : decode cX11_manyNow 109 = .ok (.iload 4, 2) := by decide +kernel
theorem dX11_manyNow_111 : decode cX11_manyNow 111 = .ok (.aload_n 0, 1) := by decide +kernel
theorem dX11_manyNow_112 : decode cX11_manyNow 112 = .ok (.getfield 156, 3) := by decide +kernel
theorem dX11_manyNow_115 : decode cX11_manyNow 115 = .ok (.invokevirtual 122, 3) := by decide +kernel
theorem dX11_manyNow_118 : decode cX11_manyNow 118 = .ok (.ifCond .eq 10, 3) := by decide +kernel
theorem dX11_manyNow_121 : decode cX11_manyNow 121 = .ok (.iconst 1, 1) := by decide +kernel
theorem dX11_manyNow_122 : decode cX11_manyNow 122 = .ok (.iload 4, 2) := by decide +kernel
theorem dX11_manyNow_124 : decode cX11_manyNow 124 = .ok (.ishl, 1) := by decide +kernel
theorem dX11_manyNow_125 : decode cX11_manyNow 125 = .ok (.goto 4, 3) := by decide +kernel
theorem dX11_manyNow_128 : decode cX11_manyNow 128 = .ok (.iconst 0, 1) := by decide +kernel
theorem dX11_manyNow_129 : decode cX11_manyNow 129 = .ok (.ior, 1) := by decide +kernel
theorem dX11_manyNow_130 : decode cX11_manyNow 130 = .ok (.istore_n 3, 1) := by decide +kernel
theorem dX11_manyNow_131 : decode cX11_manyNow 131 = .ok (.iinc 4 1, 3) := by decide +kernel
theorem dX11_manyNow_134 : decode cX11_manyNow 134 = .ok (.goto (-33), 3) := by decide +kernel
theorem dX11_manyNow_137 : decode cX11_manyNow 137 = .ok (.iconst 0, 1) := by decide +kernel
theorem dX11_manyNow_138 : decode cX11_manyNow 138 = .ok (.istore 4, 2) := by decide +kernel
theorem dX11_manyNow_140 : decode cX11_manyNow 140 = .ok (.iconst 0, 1) := by decide +kernel
theorem dX11_manyNow_141 : decode cX11_manyNow 141 = .ok (.istore 5, 2) := by decide +kernel
theorem dX11_manyNow_143 : decode cX11_manyNow 143 = .ok (.iload 5, 2) := by decide +kernel
theorem dX11_manyNow_145 : decode cX11_manyNow 145 = .ok (.aload_n 0, 1) := by decide +kernel
theorem dX11_manyNow_146 : decode cX11_manyNow 146 = .ok (.getfield 23, 3) := by decide +kernel
theorem dX11_manyNow_149 : decode cX11_manyNow 149 = .ok (.invokevirtual 43, 3) := by decide +kernel
theorem dX11_manyNow_152 : decode cX11_manyNow 152 = .ok (.if_icmp .ge 35, 3) := by decide +kernel
theorem dX11_manyNow_155 : decode cX11_manyNow 155 = .ok (.iload 4, 2) := by decide +kernel
theorem dX11_manyNow_157 : decode cX11_manyNow 157 = .ok (.aload_n 0, 1) := by decide +kernel
theorem dX11_manyNow_158 : decode cX11_manyNow 158 = .ok (.iload 5, 2) := by decide +kernel
theorem dX11_manyNow_160 : decode cX11_manyNow 160 = .ok (.aload_n 0, 1) := by decide +kernel
theorem dX11_manyNow_161 : decode cX11_manyNow 161 = .ok (.getfield 156, 3) := by decide +kernel
theorem dX11_manyNow_164 : decode cX11_manyNow 164 = .ok (.invokevirtual 169, 3) := by decide +kernel
theorem dX11_manyNow_167 : decode cX11_manyNow 167 = .ok (.ifCond .eq 10, 3) := by decide +kernel
theorem dX11_manyNow_170 : decode cX11_manyNow 170 = .ok (.iconst 1, 1) := by decide +kernel
theorem dX11_manyNow_171 : decode cX11_manyNow 171 = .ok (.iload 5, 2) := by decide +kernel
theorem dX11_manyNow_173 : decode cX11_manyNow 173 = .ok (.ishl, 1) := by decide +kernel
theorem dX11_manyNow_174 : decode cX11_manyNow 174 = .ok (.goto 4, 3) := by decide +kernel
theorem dX11_manyNow_177 : decode cX11_manyNow 177 = .ok (.iconst 0, 1) := by decide +kernel
theorem dX11_manyNow_178 : decode cX11_manyNow 178 = .ok (.ior, 1) := by decide +kernel
theorem dX11_manyNow_179 : decode cX11_manyNow 179 = .ok (.istore 4, 2) := by decide +kernel
theorem dX11_manyNow_181 : decode cX11_manyNow 181 = .ok (.iinc 5 1, 3) := by decide +kernel
theorem dX11_manyNow_184 : decode cX11_manyNow 184 = .ok (.goto (-41), 3) := by decide +kernel
theorem dX11_manyNow_187 : decode cX11_manyNow 187 = .ok (.bipush 9, 2) := by decide +kernel
theorem dX11_manyNow_189 : decode cX11_manyNow 189 = .ok (.newarray .int, 2) := by decide +kernel
theorem dX11_manyNow_191 : decode cX11_manyNow 191 = .ok (.dup, 1) := by decide +kernel
theorem dX11_manyNow_192 : decode cX11_manyNow 192 = .ok (.iconst 0, 1) := by decide +kernel
theorem dX11_manyNow_193 : decode cX11_manyNow 193 = .ok (.aload_n 0, 1) := by decide +kernel
theorem dX11_manyNow_194 : decode cX11_manyNow 194 = .ok (.getfield 10, 3) := by decide +kernel
theorem dX11_manyNow_197 : decode cX11_manyNow 197 = .ok (.invokevirtual 43, 3) := by decide +kernel
theorem dX11_manyNow_200 : decode cX11_manyNow 200 = .ok (.iastore, 1) := by decide +kernel
theorem dX11_manyNow_201 : decode cX11_manyNow 201 = .ok (.dup, 1) := by decide +kernel
theorem dX11_manyNow_202 : decode cX11_manyNow 202 = .ok (.iconst 1, 1) := by decide +kernel
theorem dX11_manyNow_203 : decode cX11_manyNow 203 = .ok (.aload_n 0, 1) := by decide +kernel
theorem dX11_manyNow_204 : decode cX11_manyNow 204 = .ok (.getfield 156, 3) := by decide +kernel
theorem dX11_manyNow_207 : decode cX11_manyNow 207 = .ok (.iastore, 1) := by decide +kernel
theorem dX11_manyNow_208 : decode cX11_manyNow 208 = .ok (.dup, 1) := by decide +kernel
theorem dX11_manyNow_209 : decode cX11_manyNow 209 = .ok (.iconst 2, 1) := by decide +kernel
theorem dX11_manyNow_210 : decode cX11_manyNow 210 = .ok (.aload_n 0, 1) := by decide +kernel
theorem dX11_manyNow_211 : decode cX11_manyNow 211 = .ok (.getfield 23, 3) := by decide +kernel
theorem dX11_manyNow_214 : decode cX11_manyNow 214 = .ok (.invokevirtual 43, 3) := by decide +kernel
theorem dX11_manyNow_217 : decode cX11_manyNow 217 = .ok (.iastore, 1) := by decide +kernel
theorem dX11_manyNow_218 : decode cX11_manyNow 218 = .ok (.dup, 1) := by decide +kernel
theorem dX11_manyNow_219 : decode cX11_manyNow 219 = .ok (.iconst 3, 1) := by decide +kernel
theorem dX11_manyNow_220 : decode cX11_manyNow 220 = .ok (.aload_n 0, 1) := by decide +kernel
theorem dX11_manyNow_221 : decode cX11_manyNow 221 = .ok (.getfield 178, 3) := by decide +kernel
theorem dX11_manyNow_224 : decode cX11_manyNow 224 = .ok (.iastore, 1) := by decide +kernel
theorem dX11_manyNow_225 : decode cX11_manyNow 225 = .ok (.dup, 1) := by decide +kernel
theorem dX11_manyNow_226 : decode cX11_manyNow 226 = .ok (.iconst 4, 1) := by decide +kernel
theorem dX11_manyNow_227 : decode cX11_manyNow 227 = .ok (.aload_n 0, 1) := by decide +kernel
theorem dX11_manyNow_228 : decode cX11_manyNow 228 = .ok (.getfield 26, 3) := by decide +kernel
theorem dX11_manyNow_231 : decode cX11_manyNow 231 = .ok (.invokevirtual 43, 3) := by decide +kernel
theorem dX11_manyNow_234 : decode cX11_manyNow 234 = .ok (.iastore, 1) := by decide +kernel
theorem dX11_manyNow_235 : decode cX11_manyNow 235 = .ok (.dup, 1) := by decide +kernel
theorem dX11_manyNow_236 : decode cX11_manyNow 236 = .ok (.iconst 5, 1) := by decide +kernel
theorem dX11_manyNow_237 : decode cX11_manyNow 237 = .ok (.iload_n 2, 1) := by decide +kernel
theorem dX11_manyNow_238 : decode cX11_manyNow 238 = .ok (.iastore, 1) := by decide +kernel
theorem dX11_manyNow_239 : decode cX11_manyNow 239 = .ok (.dup, 1) := by decide +kernel
theorem dX11_manyNow_240 : decode cX11_manyNow 240 = .ok (.bipush 6, 2) := by decide +kernel
theorem dX11_manyNow_242 : decode cX11_manyNow 242 = .ok (.iload_n 3, 1) := by decide +kernel
theorem dX11_manyNow_243 : decode cX11_manyNow 243 = .ok (.iastore, 1) := by decide +kernel
theorem dX11_manyNow_244 : decode cX11_manyNow 244 = .ok (.dup, 1) := by decide +kernel
theorem dX11_manyNow_245 : decode cX11_manyNow 245 = .ok (.bipush 7, 2) := by decide +kernel
theorem dX11_manyNow_247 : decode cX11_manyNow 247 = .ok (.iload 4, 2) := by decide +kernel
theorem dX11_manyNow_249 : decode cX11_manyNow 249 = .ok (.iastore, 1) := by decide +kernel
theorem dX11_manyNow_250 : decode cX11_manyNow 250 = .ok (.dup, 1) := by decide +kernel
theorem dX11_manyNow_251 : decode cX11_manyNow 251 = .ok (.bipush 8, 2) := by decide +kernel
theorem dX11_manyNow_253 : decode cX11_manyNow 253 = .ok (.aload_n 0, 1) := by decide +kernel
theorem dX11_manyNow_254 : decode cX11_manyNow 254 = .ok (.getfield 172, 3) := by decide +kernel
theorem dX11_manyNow_257 : decode cX11_manyNow 257 = .ok (.iastore, 1) := by decide +kernel
theorem dX11_manyNow_258 : decode cX11_manyNow 258 = .ok (.astore 5, 2) := by decide +kernel
theorem dX11_manyNow_260 : decode cX11_manyNow 260 = .ok (.aload 5, 2) := by decide +kernel
theorem dX11_manyNow_262 : decode cX11_manyNow 262 = .ok (.iload_n 1, 1) := by decide +kernel
theorem dX11_manyNow_263 : decode cX11_manyNow 263 = .ok (.iaload, 1) := by decide +kernel
theorem dX11_manyNow_264 : decode cX11_manyNow 264 = .ok (.ireturn, 1) := by decide +kernel
set_option maxRecDepth 20000 in
theorem ggX11_many_X11_isIn : GoodIn wsX11_many wsX11_isIn := goodIn_r _ [4] (by decide +kernel) (by decide +kernel)
set_option maxRecDepth 20000 in
theorem gX11_many_X11_isIn : GoodIn wsX11_many (va_wsS RX11 47 yX11_isIn wsX11_isIn) := goodIn_app (goodIn_of _ (by decide +kernel)) ggX11_many_X11_isIn
set_option maxRecDepth 20000 in
theorem ggX11_many_X11_start : GoodIn wsX11_many wsX11_start := goodIn_r _ [8, 9, 10, 11, 12, 3, 13, 131, 132, 133, 134, 135, 136, 137, 138, 139, 140, 141] (by decide +kernel) (by decide +kernel)
set_option maxRecDepth 20000 in
theorem gX11_many_X11_start : GoodIn wsX11_many (wsV RX11 142 RX11 yX11_start wsX11_start) := goodIn_app (goodIn_of _ (by decide +kernel)) ggX11_many_X11_start
set_option maxRecDepth 20000 in
theorem ggX11_many_X11_manyNow : GoodIn wsX11_many wsX11_manyNow := goodIn_r _ [17, 18, 19, 20, 21, 22, 23, 24, 25, 26, 27, 28, 29, 30, 31, 32, 33, 34, 35, 36, 3, 37, 38, 39, 40, 41, 42, 43, 44, 45, 46, 47, 48, 49, 50, 51, 52, 53, 54, 55, 56, 57, 58, 59, 60, 61, 62, 63, 64, 65, 66, 67, 68, 69, 70, 71, 72, 73, 74, 75, 76, 77, 78, 79, 80, 81, 82, 83, 84, 85, 86, 87, 88, 89, 90, 91, 92, 93, 94, 95, 96, 97, 98, 99, 100, 101, 102, 103, 104, 105, 106, 107, 108, 109, 110, 111, 112, 113, 114, 115, 116, 117, 118, 119, 120, 121, 122, 123, 124, 125, 126, 127, 128, 129, 130, 131, 132, 133, 134, 135, 136, 137, 138, 139, 140, 141, 142, 143, 144, 145, 146, 147, 148, 149, 150, 151, 152, 153, 154, 155, 156, 157] (by decide +kernel) (by decide +kernel)
set_option maxRecDepth 20000 in
theorem gX11_many_X11_manyNow : GoodIn wsX11_many (wsV RX11 228 RX11 yX11_manyNow wsX11_manyNow) := goodIn_app (goodIn_of _ (by decide +kernel)) ggX11_many_X11_manyNow
theorem dX11_many_0 : decode cX11_many 0 = .ok (.aload_n 0, 1) := by decide +kernel
theorem dX11_many_1 : decode cX11_many 1 = .ok (.iload_n 1, 1) := by decide +kernel
theorem dX11_many_2 : decode cX11_many 2 = .ok (.iconst 0, 1) := by decide +kernel
theorem dX11_many_3 : decode cX11_many 3 = .ok (.bipush 19, 2) := by decide +kernel
theorem dX11_many_5 : decode cX11_many 5 = .ok (.invokestatic 47, 3) := by decide +kernel
theorem dX11_many_8 : decode cX11_many 8 = .ok (.ifCond .ne 7, 3) := by decide +kernel
theorem dX11_many_11 : decode cX11_many 11 = .ok (.iconst 1, 1) := by decide +kernel
theorem dX11_many_12 : decode cX11_many 12 = .ok (.goto 4, 3) := by decide +kernel
theorem dX11_many_15 : decode cX11_many 15 = .ok (.iconst 0, 1) := by decide +kernel
theorem dX11_many_16 : decode cX11_many 16 = .ok (.iconst 1, 1) := by decide +kernel
theorem dX11_many_17 : decode cX11_many 17 = .ok (.invokevirtual 142, 3) := by decide +kernel
theorem dX11_many_20 : decode cX11_many 20 = .ok (.ifCond .eq 7, 3) := by decide +kernel
theorem dX11_many_23 : decode cX11_many 23 = .ok (.iconst 0, 1) := by decide +kernel
theorem dX11_many_24 : decode cX11_many 24 = .ok (.goto 8, 3) := by decide +kernel
theorem dX11_many_27 : decode cX11_many 27 = .ok (.aload_n 0, 1) := by decide +kernel
theorem dX11_many_28 : decode cX11_many 28 = .ok (.iload_n 1, 1) := by decide +kernel
theorem dX11_many_29 : decode cX11_many 29 = .ok (.invokevirtual 228, 3) := by decide +kernel
theorem dX11_many_32 : decode cX11_many 32 = .ok (.ireturn, 1) := by decide +kernel
set_option maxRecDepth 20000 in
theorem ggX11_meanDemanded_X11_isNoDay : GoodIn wsX11_meanDemanded wsX11_isNoDay := goodIn_r _ [5, 6, 7, 4, 8] (by decide +kernel) (by decide +kernel)
set_option maxRecDepth 20000 in
theorem gX11_meanDemanded_X11_isNoDay : GoodIn wsX11_meanDemanded (va_wsS RX11 51 yX11_isNoDay wsX11_isNoDay) := goodIn_app (goodIn_of _ (by decide +kernel)) ggX11_meanDemanded_X11_isNoDay
set_option maxRecDepth 20000 in
theorem ggX11_meanDemanded_X11_start : GoodIn wsX11_meanDemanded wsX11_start := goodIn_r _ [12, 13, 14, 15, 16, 4, 17, 91, 92, 93, 94, 95, 96, 97, 98, 99, 100, 101] (by decide +kernel) (by decide +kernel)
set_option maxRecDepth 20000 in
theorem gX11_meanDemanded_X11_start : GoodIn wsX11_meanDemanded (wsV RX11 142 RX11 yX11_start wsX11_start) := goodIn_app (goodIn_of _ (by decide +kernel)) ggX11_meanDemanded_X11_start
set_option maxRecDepth 20000 in
theorem ggX11_meanDemanded_Jx4a65c_isEmpty_aae02 : GoodIn wsX11_meanDemanded wsJx4a65c_isEmpty_aae02 := goodIn_r _ [22, 23, 102, 103, 104] (by decide +kernel) (by decide +kernel)
set_option maxRecDepth 20000 in
theorem gX11_meanDemanded_Jx4a65c_isEmpty_aae02 : GoodIn wsX11_meanDemanded (wsV RX11 231 RJx4a65c yJx4a65c_isEmpty_aae02 wsJx4a65c_isEmpty_aae02) := goodIn_app (goodIn_of _ (by decide +kernel)) ggX11_meanDemanded_Jx4a65c_isEmpty_aae02
set_option maxRecDepth 20000 in
theorem ggX11_meanDemanded_Jx4a65c_size_8abf5 : GoodIn wsX11_meanDemanded wsJx4a65c_size_8abf5 := goodIn_r _ [27, 23, 102, 103, 104] (by decide +kernel) (by decide +kernel)
set_option maxRecDepth 20000 in
theorem gX11_meanDemanded_Jx4a65c_size_8abf5 : GoodIn wsX11_meanDemanded (wsV RX11 43 RJx4a65c yJx4a65c_size_8abf5 wsJx4a65c_size_8abf5) := goodIn_app (goodIn_of _ (by decide +kernel)) ggX11_meanDemanded_Jx4a65c_size_8abf5
set_option maxRecDepth 20000 in
theorem ggX11_meanDemanded_X11_demandedNow_ : GoodIn wsX11_meanDemanded wsX11_demandedNow_ := goodIn_r _ [31, 32, 33, 34, 4, 35, 1, 36, 37, 38, 39, 40, 41, 42, 43, 44, 45, 46, 47, 48, 49, 50, 21, 51, 23, 52, 53, 54, 55, 56, 57, 58, 59, 60, 61, 62, 63, 64, 24, 25, 26, 27, 65, 66, 67, 68, 69, 70, 71, 72, 73, 74, 75, 76, 77, 78, 79, 80, 81, 82, 83, 84, 85, 86, 87, 88, 89, 90, 91, 92, 93, 94, 95, 96, 97, 98, 99, 100, 101, 105, 106, 107, 108, 109, 110, 111, 112, 102, 103, 104] (by decide +kernel) (by decide +kernel)
set_option maxRecDepth 20000 in
theorem gX11_meanDemanded_X11_demandedNow_ : GoodIn wsX11_meanDemanded (wsV RX11 136 RX11 yX11_demandedNow_ wsX11_demandedNow_) := goodIn_app (goodIn_of _ (by decide +kernel)) ggX11_meanDemanded_X11_demandedNow_
theorem dX11_meanDemanded_0 : decode cX11_meanDemanded 0 = .ok (.aload_n 0, 1) := by decide +kernel
theorem dX11_meanDemanded_1 : decode cX11_meanDemanded 1 = .ok (.iload_n 1, 1) := by decide +kernel
theorem dX11_meanDemanded_2 : decode cX11_meanDemanded 2 = .ok (.invokestatic 51, 3) := by decide +kernel
theorem dX11_meanDemanded_5 : decode cX11_meanDemanded 5 = .ok (.iconst 1, 1) := by decide +kernel
theorem dX11_meanDemanded_6 : decode cX11_meanDemanded 6 = .ok (.invokevirtual 142, 3) := by decide +kernel
theorem dX11_meanDemanded_9 : decode cX11_meanDemanded 9 = .ok (.ifCond .ne 13, 3) := by decide +kernel
theorem dX11_meanDemanded_12 : decode cX11_meanDemanded 12 = .ok (.aload_n 0, 1) := by decide +kernel
theorem dX11_meanDemanded_13 : decode cX11_meanDemanded 13 = .ok (.getfield 23, 3) := by decide +kernel
theorem dX11_meanDemanded_16 : decode cX11_meanDemanded 16 = .ok (.invokevirtual 231, 3) := by decide +kernel
theorem dX11_meanDemanded_19 : decode cX11_meanDemanded 19 = .ok (.ifCond .eq 5, 3) := by decide +kernel
theorem dX11_meanDemanded_22 : decode cX11_meanDemanded 22 = .ok (.dconst 0, 1) := by decide +kernel
theorem dX11_meanDemanded_23 : decode cX11_meanDemanded 23 = .ok (.dreturn, 1) := by decide +kernel
theorem dX11_meanDemanded_24 : decode cX11_meanDemanded 24 = .ok (.iconst 0, 1) := by decide +kernel
theorem dX11_meanDemanded_25 : decode cX11_meanDemanded 25 = .ok (.istore_n 2, 1) := by decide +kernel
theorem dX11_meanDemanded_26 : decode cX11_meanDemanded 26 = .ok (.iconst 0, 1) := by decide +kernel
theorem dX11_meanDemanded_27 : decode cX11_meanDemanded 27 = .ok (.istore_n 3, 1) := by decide +kernel
theorem dX11_meanDemanded_28 : decode cX11_meanDemanded 28 = .ok (.iload_n 3, 1) := by decide +kernel
theorem dX11_meanDemanded_29 : decode cX11_meanDemanded 29 = .ok (.aload_n 0, 1) := by decide +kernel
theorem dX11_meanDemanded_30 : decode cX11_meanDemanded 30 = .ok (.getfield 23, 3) := by decide +kernel
theorem dX11_meanDemanded_33 : decode cX11_meanDemanded 33 = .ok (.invokevirtual 43, 3) := by decide +kernel
theorem dX11_meanDemanded_36 : decode cX11_meanDemanded 36 = .ok (.if_icmp .ge 18, 3) := by decide +kernel
theorem dX11_meanDemanded_39 : decode cX11_meanDemanded 39 = .ok (.iload_n 2, 1) := by decide +kernel
theorem dX11_meanDemanded_40 : decode cX11_meanDemanded 40 = .ok (.aload_n 0, 1) := by decide +kernel
theorem dX11_meanDemanded_41 : decode cX11_meanDemanded 41 = .ok (.iload_n 3, 1) := by decide +kernel
theorem dX11_meanDemanded_42 : decode cX11_meanDemanded 42 = .ok (.iload_n 1, 1) := by decide +kernel
theorem dX11_meanDemanded_43 : decode cX11_meanDemanded 43 = .ok (.invokevirtual 136, 3) := by decide +kernel
theorem dX11_meanDemanded_46 : decode cX11_meanDemanded 46 = .ok (.iadd, 1) := by decide +kernel
theorem dX11_meanDemanded_47 : decode cX11_meanDemanded 47 = .ok (.istore_n 2, 1) := by decide +kernel
theorem dX11_meanDemanded_48 : decode cX11_meanDemanded 48 = .ok (.iinc 3 1, 3) := by decide +kernel
theorem dX11_meanDemanded_51 : decode cX11_meanDemanded 51 = .ok (.goto (-23), 3) := by decide +kernel
theorem dX11_meanDemanded_54 : decode cX11_meanDemanded 54 = .ok (.iload_n 2, 1) := by decide +kernel
theorem dX11_meanDemanded_55 : decode cX11_meanDemanded 55 = .ok (.i2d, 1) := by decide +kernel
theorem dX11_meanDemanded_56 : decode cX11_meanDemanded 56 = .ok (.aload_n 0, 1) := by decide +kernel
theorem dX11_meanDemanded_57 : decode cX11_meanDemanded 57 = .ok (.getfield 23, 3) := by decide +kernel
theorem dX11_meanDemanded_60 : decode cX11_meanDemanded 60 = .ok (.invokevirtual 43, 3) := by decide +kernel
theorem dX11_meanDemanded_63 : decode cX11_meanDemanded 63 = .ok (.i2d, 1) := by decide +kernel
theorem dX11_meanDemanded_64 : decode cX11_meanDemanded 64 = .ok (.ddiv, 1) := by decide +kernel
theorem dX11_meanDemanded_65 : decode cX11_meanDemanded 65 = .ok (.dreturn, 1) := by decide +kernel
set_option maxRecDepth 20000 in
theorem ggX11_safe_Jx4a65c_size_8abf5 : GoodIn wsX11_safe wsJx4a65c_size_8abf5 := goodIn_r _ [9, 10, 123, 124, 125] (by decide +kernel) (by decide +kernel)
set_option maxRecDepth 20000 in
theorem gX11_safe_Jx4a65c_size_8abf5 : GoodIn wsX11_safe (wsV RX11 43 RJx4a65c yJx4a65c_size_8abf5 wsJx4a65c_size_8abf5) := goodIn_app (goodIn_of _ (by decide +kernel)) ggX11_safe_Jx4a65c_size_8abf5
set_option maxRecDepth 20000 in
theorem ggX11_safe_X11_isUnsafe : GoodIn wsX11_safe wsX11_isUnsafe := goodIn_r _ [15, 16, 17, 18, 14, 19, 1, 20, 21, 22, 23, 24, 25, 8, 26, 10, 27, 28, 29, 30, 31, 32, 33, 34, 35, 36, 37, 38, 39, 40, 41, 42, 43, 44, 45, 46, 47, 48, 49, 50, 51, 52, 6, 7, 9, 53, 5, 54, 55, 56, 57, 58, 59, 60, 61, 62, 63, 64, 65, 66, 67, 68, 69, 70, 71, 72, 73, 74, 75, 76, 77, 78, 79, 80, 81, 82, 83, 84, 85, 86, 87, 88, 89, 90, 91, 92, 93, 94, 95, 96, 97, 98, 99, 100, 101, 102, 103, 104, 105, 106, 107, 108, 109, 110, 111, 112, 113, 114, 115, 116, 117, 118, 119, 120, 121, 122, 126, 127, 128, 123, 124, 125, 129, 130, 131, 132, 133, 134, 135, 136, 137, 138] (by decide +kernel) (by decide +kernel)
set_option maxRecDepth 20000 in
theorem gX11_safe_X11_isUnsafe : GoodIn wsX11_safe (wsV RX11 169 RX11 yX11_isUnsafe wsX11_isUnsafe) := goodIn_app (goodIn_of _ (by decide +kernel)) ggX11_safe_X11_isUnsafe
set_option maxRecDepth 20000 in
theorem ggX11_safe_X11_inForceNow : GoodIn wsX11_safe wsX11_inForceNow := goodIn_r _ [19, 1, 20, 21, 22, 23, 24, 25, 8, 26, 10, 27, 28, 29, 30, 31, 32, 33, 34, 35, 36, 37, 38, 39, 40, 41, 42, 14, 43, 44, 45, 46, 47, 48, 49, 50, 51, 52, 6, 7, 9, 53, 5, 54, 55, 56, 57, 58, 59, 60, 61, 62, 63, 64, 65, 66, 67, 68, 69, 70, 71, 112, 113, 114, 115, 116, 117, 118, 119, 120, 121, 122, 126, 127, 128, 123, 124, 125, 129, 130, 131, 132, 133] (by decide +kernel) (by decide +kernel)
set_option maxRecDepth 20000 in
theorem gX11_safe_X11_inForceNow : GoodIn wsX11_safe (wsV RX11 133 RX11 yX11_inForceNow wsX11_inForceNow) := goodIn_app (goodIn_of _ (by decide +kernel)) ggX11_safe_X11_inForceNow
theorem dX11_safe_0 : decode cX11_safe 0 = .ok (.aload_n 0, 1) := by decide +kernel
theorem dX11_safe_1 : decode cX11_safe 1 = .ok (.getfield 23, 3) := by decide +kernel
theorem dX11_safe_4 : decode cX11_safe 4 = .ok (.invokevirtual 43, 3) := by decide +kernel
theorem dX11_safe_7 : decode cX11_safe 7 = .ok (.sipush 400, 3) := by decide +kernel
theorem dX11_safe_10 : decode cX11_safe 10 = .ok (.multianewarray 234 2, 4) := by decide +kernel
theorem dX11_safe_14 : decode cX11_safe 14 = .ok (.astore_n 3, 1) := by decide +kernel
theorem dX11_safe_15 : decode cX11_safe 15 = .ok (.iconst 0, 1) := by decide +kernel
theorem dX11_safe_16 : decode cX11_safe 16 = .ok (.istore 4, 2) := by decide +kernel
theorem dX11_safe_18 : decode cX11_safe 18 = .ok (.iload 4, 2) := by decide +kernel
theorem dX11_safe_20 : decode cX11_safe 20 = .ok (.aload_n 3, 1) := by decide +kernel
theorem dX11_safe_21 : decode cX11_safe 21 = .ok (.arraylength, 1) := by decide +kernel
theorem dX11_safe_22 : decode cX11_safe 22 = .ok (.if_icmp .ge 82, 3) := by decide +kernel
theorem dX11_safe_25 : decode cX11_safe 25 = .ok (.iconst 0, 1) := by decide +kernel
theorem dX11_safe_26 : decode cX11_safe 26 = .ok (.istore 5, 2) := by decide +kernel
theorem dX11_safe_28 : decode cX11_safe 28 = .ok (.iload 5, 2) := by decide +kernel
theorem dX11_safe_30 : decode cX11_safe 30 = .ok (.sipush 399, 3) := by decide +kernel
theorem dX11_safe_33 : decode cX11_safe 33 = .ok (.if_icmp .gt 65, 3) := by decide +kernel
theorem dX11_safe_36 : decode cX11_safe 36 = .ok (.aload_n 3, 1) := by decide +kernel
theorem dX11_safe_37 : decode cX11_safe 37 = .ok (.iload 4, 2) := by decide +kernel
theorem dX11_safe_39 : decode cX11_safe 39 = .ok (.aaload, 1) := by decide +kernel
theorem dX11_safe_40 : decode cX11_safe 40 = .ok (.iload 5, 2) := by decide +kernel
theorem dX11_safe_42 : decode cX11_safe 42 = .ok (.iload 5, 2) := by decide +kernel
theorem dX11_safe_44 : decode cX11_safe 44 = .ok (.aload_n 0, 1) := by decide +kernel
theorem dX11_safe_45 : decode cX11_safe 45 = .ok (.getfield 156, 3) := by decide +kernel
theorem dX11_safe_48 : decode cX11_safe 48 = .ok (.if_icmp .lt 31, 3) := by decide +kernel
theorem dX11_safe_51 : decode cX11_safe 51 = .ok (.iload 5, 2) := by decide +kernel
theorem dX11_safe_53 : decode cX11_safe 53 = .ok (.iload_n 1, 1) := by decide +kernel
theorem dX11_safe_54 : decode cX11_safe 54 = .ok (.if_icmp .lt 25, 3) := by decide +kernel
theorem dX11_safe_57 : decode cX11_safe 57 = .ok (.iload_n 2, 1) := by decide +kernel
theorem dX11_safe_58 : decode cX11_safe 58 = .ok (.iconst (-1), 1) := by decide +kernel
theorem dX11_safe_59 : decode cX11_safe 59 = .ok (.if_icmp .eq 9, 3) := by decide +kernel
theorem dX11_safe_62 : decode cX11_safe 62 = .ok (.iload 5, 2) := by decide +kernel
theorem dX11_safe_64 : decode cX11_safe 64 = .ok (.iload_n 2, 1) := by decide +kernel
theorem dX11_safe_65 : decode cX11_safe 65 = .ok (.if_icmp .gt 14, 3) := by decide +kernel
theorem dX11_safe_68 : decode cX11_safe 68 = .ok (.aload_n 0, 1) := by decide +kernel
theorem dX11_safe_69 : decode cX11_safe 69 = .ok (.iload 4, 2) := by decide +kernel
theorem dX11_safe_71 : decode cX11_safe 71 = .ok (.iload 5, 2) := by decide +kernel
theorem dX11_safe_73 : decode cX11_safe 73 = .ok (.invokevirtual 169, 3) := by decide +kernel
theorem dX11_safe_76 : decode cX11_safe 76 = .ok (.ifCond .eq 7, 3) := by decide +kernel
theorem dX11_safe_79 : decode cX11_safe 79 = .ok (.iconst (-1), 1) := by decide +kernel
theorem dX11_safe_80 : decode cX11_safe 80 = .ok (.goto 11, 3) := by decide +kernel
theorem dX11_safe_83 : decode cX11_safe 83 = .ok (.aload_n 0, 1) := by decide +kernel
theorem dX11_safe_84 : decode cX11_safe 84 = .ok (.iload 4, 2) := by decide +kernel
theorem dX11_safe_86 : decode cX11_safe 86 = .ok (.iload 5, 2) := by decide +kernel
theorem dX11_safe_88 : decode cX11_safe 88 = .ok (.invokevirtual 133, 3) := by decide +kernel
theorem dX11_safe_91 : decode cX11_safe 91 = .ok (.iastore, 1) := by decide +kernel
theorem dX11_safe_92 : decode cX11_safe 92 = .ok (.iinc 5 1, 3) := by decide +kernel
theorem dX11_safe_95 : decode cX11_safe 95 = .ok (.goto (-67), 3) := by decide +kernel
theorem dX11_safe_98 : decode cX11_safe 98 = .ok (.iinc 4 1, 3) := by decide +kernel
theorem dX11_safe_101 : decode cX11_safe 101 = .ok (.goto (-83), 3) := by decide +kernel
theorem dX11_safe_104 : decode cX11_safe 104 = .ok (.aload_n 3, 1) := by decide +kernel
theorem dX11_safe_105 : decode cX11_safe 105 = .ok (.areturn, 1) := by decide +kernel
set_option maxRecDepth 20000 in
theorem ggX11_harmed_X11_demandedNow : GoodIn wsX11_harmed wsX11_demandedNow := goodIn_r _ [6, 7, 8, 9, 10, 11, 12, 13, 14, 15, 16, 17, 18, 19, 20, 21, 22, 23, 24, 25, 26, 27, 28, 29, 30, 31, 32, 33, 34, 35, 36, 37, 38, 39, 40, 41, 42, 43, 44, 45, 5, 46, 47, 48, 49, 50, 51, 52, 53, 54, 55, 56, 57, 58, 59, 60, 61, 62, 63, 64, 65, 66, 67, 68, 69, 70, 71, 72, 73, 74, 75, 76, 77, 78, 79, 80, 81, 82, 83, 84, 85, 86, 87, 88, 89, 90] (by decide +kernel) (by decide +kernel)
set_option maxRecDepth 20000 in
theorem gX11_harmed_X11_demandedNow : GoodIn wsX11_harmed (wsV RX11 98 RX11 yX11_demandedNow wsX11_demandedNow) := goodIn_app (goodIn_of _ (by decide +kernel)) ggX11_harmed_X11_demandedNow
theorem dX11_harmed_0 : decode cX11_harmed 0 = .ok (.iconst 0, 1) := by decide +kernel
theorem dX11_harmed_1 : decode cX11_harmed 1 = .ok (.istore_n 3, 1) := by decide +kernel
theorem dX11_harmed_2 : decode cX11_harmed 2 = .ok (.iconst 0, 1) := by decide +kernel
theorem dX11_harmed_3 : decode cX11_harmed 3 = .ok (.istore 4, 2) := by decide +kernel
theorem dX11_harmed_5 : decode cX11_harmed 5 = .ok (.iload 4, 2) := by decide +kernel
theorem dX11_harmed_7 : decode cX11_harmed 7 = .ok (.aload_n 2, 1) := by decide +kernel
theorem dX11_harmed_8 : decode cX11_harmed 8 = .ok (.arraylength, 1) := by decide +kernel
theorem dX11_harmed_9 : decode cX11_harmed 9 = .ok (.if_icmp .ge 76, 3) := by decide +kernel
theorem dX11_harmed_12 : decode cX11_harmed 12 = .ok (.aload_n 0, 1) := by decide +kernel
theorem dX11_harmed_13 : decode cX11_harmed 13 = .ok (.getfield 156, 3) := by decide +kernel
theorem dX11_harmed_16 : decode cX11_harmed 16 = .ok (.istore 5, 2) := by decide +kernel
theorem dX11_harmed_18 : decode cX11_harmed 18 = .ok (.iload 5, 2) := by decide +kernel
theorem dX11_harmed_20 : decode cX11_harmed 20 = .ok (.sipush 399, 3) := by decide +kernel
theorem dX11_harmed_23 : decode cX11_harmed 23 = .ok (.if_icmp .gt 56, 3) := by decide +kernel
theorem dX11_harmed_26 : decode cX11_harmed 26 = .ok (.iload_n 3, 1) := by decide +kernel
theorem dX11_harmed_27 : decode cX11_harmed 27 = .ok (.iload 4, 2) := by decide +kernel
theorem dX11_harmed_29 : decode cX11_harmed 29 = .ok (.ishr, 1) := by decide +kernel
theorem dX11_harmed_30 : decode cX11_harmed 30 = .ok (.iconst 1, 1) := by decide +kernel
theorem dX11_harmed_31 : decode cX11_harmed 31 = .ok (.iand, 1) := by decide +kernel
theorem dX11_harmed_32 : decode cX11_harmed 32 = .ok (.ifCond .ne 47, 3) := by decide +kernel
theorem dX11_harmed_35 : decode cX11_harmed 35 = .ok (.aload_n 2, 1) := by decide +kernel
theorem dX11_harmed_36 : decode cX11_harmed 36 = .ok (.iload 4, 2) := by decide +kernel
theorem dX11_harmed_38 : decode cX11_harmed 38 = .ok (.aaload, 1) := by decide +kernel
theorem dX11_harmed_39 : decode cX11_harmed 39 = .ok (.iload 5, 2) := by decide +kernel
theorem dX11_harmed_41 : decode cX11_harmed 41 = .ok (.iaload, 1) := by decide +kernel
theorem dX11_harmed_42 : decode cX11_harmed 42 = .ok (.iconst (-1), 1) := by decide +kernel
theorem dX11_harmed_43 : decode cX11_harmed 43 = .ok (.if_icmp .eq 30, 3) := by decide +kernel
theorem dX11_harmed_46 : decode cX11_harmed 46 = .ok (.aload_n 2, 1) := by decide +kernel
theorem dX11_harmed_47 : decode cX11_harmed 47 = .ok (.iload 4, 2) := by decide +kernel
theorem dX11_harmed_49 : decode cX11_harmed 49 = .ok (.aaload, 1) := by decide +kernel
theorem dX11_harmed_50 : decode cX11_harmed 50 = .ok (.iload 5, 2) := by decide +kernel
theorem dX11_harmed_52 : decode cX11_harmed 52 = .ok (.iaload, 1) := by decide +kernel
theorem dX11_harmed_53 : decode cX11_harmed 53 = .ok (.aload_n 0, 1) := by decide +kernel
theorem dX11_harmed_54 : decode cX11_harmed 54 = .ok (.iload 4, 2) := by decide +kernel
theorem dX11_harmed_56 : decode cX11_harmed 56 = .ok (.iload 5, 2) := by decide +kernel
theorem dX11_harmed_58 : decode cX11_harmed 58 = .ok (.iconst (-1), 1) := by decide +kernel
theorem dX11_harmed_59 : decode cX11_harmed 59 = .ok (.aload_n 1, 1) := by decide +kernel
theorem dX11_harmed_60 : decode cX11_harmed 60 = .ok (.invokevirtual 98, 3) := by decide +kernel
theorem dX11_harmed_63 : decode cX11_harmed 63 = .ok (.if_icmp .ge 10, 3) := by decide +kernel
theorem dX11_harmed_66 : decode cX11_harmed 66 = .ok (.iload_n 3, 1) := by decide +kernel
theorem dX11_harmed_67 : decode cX11_harmed 67 = .ok (.iconst 1, 1) := by decide +kernel
theorem dX11_harmed_68 : decode cX11_harmed 68 = .ok (.iload 4, 2) := by decide +kernel
theorem dX11_harmed_70 : decode cX11_harmed 70 = .ok (.ishl, 1) := by decide +kernel
theorem dX11_harmed_71 : decode cX11_harmed 71 = .ok (.ior, 1) := by decide +kernel
theorem dX11_harmed_72 : decode cX11_harmed 72 = .ok (.istore_n 3, 1) := by decide +kernel
theorem dX11_harmed_73 : decode cX11_harmed 73 = .ok (.iinc 5 1, 3) := by decide +kernel
theorem dX11_harmed_76 : decode cX11_harmed 76 = .ok (.goto (-58), 3) := by decide +kernel
theorem dX11_harmed_79 : decode cX11_harmed 79 = .ok (.iinc 4 1, 3) := by decide +kernel
theorem dX11_harmed_82 : decode cX11_harmed 82 = .ok (.goto (-77), 3) := by decide +kernel
theorem dX11_harmed_85 : decode cX11_harmed 85 = .ok (.iload_n 3, 1) := by decide +kernel
theorem dX11_harmed_86 : decode cX11_harmed 86 = .ok (.ireturn, 1) := by decide +kernel
set_option maxRecDepth 20000 in
theorem ggX11_permit_X11_isNoPlace : GoodIn wsX11_permit wsX11_isNoPlace := goodIn_r _ [7, 8, 9, 6, 10, 11, 12, 13] (by decide +kernel) (by decide +kernel)
set_option maxRecDepth 20000 in
theorem gX11_permit_X11_isNoPlace : GoodIn wsX11_permit (va_wsS RX11 138 yX11_isNoPlace wsX11_isNoPlace) := goodIn_app (goodIn_of _ (by decide +kernel)) ggX11_permit_X11_isNoPlace
set_option maxRecDepth 20000 in
theorem ggX11_permit_X11_isIn : GoodIn wsX11_permit wsX11_isIn := goodIn_r _ [10] (by decide +kernel) (by decide +kernel)
set_option maxRecDepth 20000 in
theorem gX11_permit_X11_isIn : GoodIn wsX11_permit (va_wsS RX11 47 yX11_isIn wsX11_isIn) := goodIn_app (goodIn_of _ (by decide +kernel)) ggX11_permit_X11_isIn
set_option maxRecDepth 20000 in
theorem ggX11_permit_X11_start : GoodIn wsX11_permit wsX11_start := goodIn_r _ [17, 18, 19, 20, 21, 6, 22, 151, 152, 153, 154, 155, 156, 157, 158, 159, 160, 161] (by decide +kernel) (by decide +kernel)
set_option maxRecDepth 20000 in
theorem gX11_permit_X11_start : GoodIn wsX11_permit (wsV RX11 142 RX11 yX11_start wsX11_start) := goodIn_app (goodIn_of _ (by decide +kernel)) ggX11_permit_X11_start
set_option maxRecDepth 20000 in
theorem ggX11_permit_X9_init : GoodIn wsX11_permit wsX9_init := goodIn_r _ [25, 26, 27, 28, 29, 30, 31, 32, 33, 146, 147, 148, 149, 150] (by decide +kernel) (by decide +kernel)
set_option maxRecDepth 20000 in
theorem gX11_permit_X9_init : GoodIn wsX11_permit (wsX9_init) := ggX11_permit_X9_init
set_option maxRecDepth 20000 in
theorem ggX11_permit_X11_safe : GoodIn wsX11_permit wsX11_safe := goodIn_r _ [37, 38, 39, 40, 41, 42, 43, 44, 45, 46, 47, 48, 49, 50, 6, 51, 52, 53, 54, 55, 56, 57, 58, 59, 60, 61, 62, 63, 64, 65, 66, 67, 68, 69, 70, 71, 72, 73, 74, 75, 76, 77, 78, 79, 80, 81, 82, 83, 84, 85, 86, 87, 88, 89, 90, 91, 92, 93, 94, 95, 96, 97, 98, 99, 100, 101, 102, 103, 104, 105, 106, 107, 108, 109, 110, 111, 112, 113, 114, 115, 116, 117, 118, 119, 120, 121, 122, 123, 124, 125, 126, 127, 128, 129, 3, 130, 32, 33, 131, 132, 133, 134, 29, 30, 135, 136, 137, 31, 138, 139, 140, 141, 151, 152, 153, 154, 155, 156, 157, 158, 159, 160, 161, 162, 163, 164, 165, 166, 167, 168, 169, 170, 171, 172, 146, 147, 148, 149, 150] (by decide +kernel) (by decide +kernel)
set_option maxRecDepth 20000 in
theorem gX11_permit_X11_safe : GoodIn wsX11_permit (wsV RX11 236 RX11 yX11_safe wsX11_safe) := goodIn_app (goodIn_of _ (by decide +kernel)) ggX11_permit_X11_safe
set_option maxRecDepth 20000 in
theorem ggX11_permit_X11_harmed : GoodIn wsX11_permit wsX11_harmed := goodIn_r _ [145, 41, 112, 113, 114, 6, 115, 38, 56, 116, 57, 117, 118, 119, 120, 121, 98, 99, 100, 101, 59, 60, 61, 45, 62, 47, 63, 64, 65, 66, 67, 68, 69, 70, 71, 72, 73, 74, 75, 42, 43, 44, 46, 122, 123, 124, 125, 126, 127, 128, 129, 3, 130, 32, 33, 131, 132, 133, 134, 29, 30, 135, 136, 137, 31, 138, 139, 140, 141, 151, 152, 153, 154, 155, 156, 157, 158, 159, 160, 161, 165, 166, 167, 146, 147, 148, 149, 150, 162, 163, 164] (by decide +kernel) (by decide +kernel)
set_option maxRecDepth 20000 in
theorem gX11_permit_X11_harmed : GoodIn wsX11_permit (wsV RX11 240 RX11 yX11_harmed wsX11_harmed) := goodIn_app (goodIn_of _ (by decide +kernel)) ggX11_permit_X11_harmed
theorem dX11_permit_0 : decode cX11_permit 0 = .ok (.aload_n 0, 1) := by decide +kernel
theorem dX11_permit_1 : decode cX11_permit 1 = .ok (.iload_n 1, 1) := by decide +kernel
theorem dX11_permit_2 : decode cX11_permit 2 = .ok (.iload_n 2, 1) := by decide +kernel
theorem dX11_permit_3 : decode cX11_permit 3 = .ok (.iload 4, 2) := by decide +kernel
theorem dX11_permit_5 : decode cX11_permit 5 = .ok (.iload 5, 2) := by decide +kernel
theorem dX11_permit_7 : decode cX11_permit 7 = .ok (.invokestatic 138, 3) := by decide +kernel
theorem dX11_permit_10 : decode cX11_permit 10 = .ok (.ifCond .ne 14, 3) := by decide +kernel
theorem dX11_permit_13 : decode cX11_permit 13 = .ok (.iload_n 3, 1) := by decide +kernel
theorem dX11_permit_14 : decode cX11_permit 14 = .ok (.iconst 0, 1) := by decide +kernel
theorem dX11_permit_15 : decode cX11_permit 15 = .ok (.sipush 999, 3) := by decide +kernel
theorem dX11_permit_18 : decode cX11_permit 18 = .ok (.invokestatic 47, 3) := by decide +kernel
theorem dX11_permit_21 : decode cX11_permit 21 = .ok (.ifCond .ne 7, 3) := by decide +kernel
theorem dX11_permit_24 : decode cX11_permit 24 = .ok (.iconst 1, 1) := by decide +kernel
theorem dX11_permit_25 : decode cX11_permit 25 = .ok (.goto 4, 3) := by decide +kernel
theorem dX11_permit_28 : decode cX11_permit 28 = .ok (.iconst 0, 1) := by decide +kernel
theorem dX11_permit_29 : decode cX11_permit 29 = .ok (.iconst 1, 1) := by decide +kernel
theorem dX11_permit_30 : decode cX11_permit 30 = .ok (.invokevirtual 142, 3) := by decide +kernel
theorem dX11_permit_33 : decode cX11_permit 33 = .ok (.ifCond .eq 7, 3) := by decide +kernel
theorem dX11_permit_36 : decode cX11_permit 36 = .ok (.iconst 0, 1) := by decide +kernel
theorem dX11_permit_37 : decode cX11_permit 37 = .ok (.goto 29, 3) := by decide +kernel
theorem dX11_permit_40 : decode cX11_permit 40 = .ok (.aload_n 0, 1) := by decide +kernel
theorem dX11_permit_41 : decode cX11_permit 41 = .ok (.new 75, 3) := by decide +kernel
theorem dX11_permit_44 : decode cX11_permit 44 = .ok (.dup, 1) := by decide +kernel
theorem dX11_permit_45 : decode cX11_permit 45 = .ok (.iload_n 1, 1) := by decide +kernel
theorem dX11_permit_46 : decode cX11_permit 46 = .ok (.iload_n 2, 1) := by decide +kernel
theorem dX11_permit_47 : decode cX11_permit 47 = .ok (.iload_n 3, 1) := by decide +kernel
theorem dX11_permit_48 : decode cX11_permit 48 = .ok (.iload 4, 2) := by decide +kernel
theorem dX11_permit_50 : decode cX11_permit 50 = .ok (.iload 5, 2) := by decide +kernel
theorem dX11_permit_52 : decode cX11_permit 52 = .ok (.invokespecial 145, 3) := by decide +kernel
theorem dX11_permit_55 : decode cX11_permit 55 = .ok (.aload_n 0, 1) := by decide +kernel
theorem dX11_permit_56 : decode cX11_permit 56 = .ok (.iload 4, 2) := by decide +kernel
theorem dX11_permit_58 : decode cX11_permit 58 = .ok (.iload 5, 2) := by decide +kernel
theorem dX11_permit_60 : decode cX11_permit 60 = .ok (.invokevirtual 236, 3) := by decide +kernel
theorem dX11_permit_63 : decode cX11_permit 63 = .ok (.invokevirtual 240, 3) := by decide +kernel
theorem dX11_permit_66 : decode cX11_permit 66 = .ok (.ireturn, 1) := by decide +kernel
set_option maxRecDepth 20000 in
theorem ggX11_highest_X11_isNoPlace : GoodIn wsX11_highest wsX11_isNoPlace := goodIn_r _ [7, 8, 9, 6, 10, 11, 12, 13] (by decide +kernel) (by decide +kernel)
set_option maxRecDepth 20000 in
theorem gX11_highest_X11_isNoPlace : GoodIn wsX11_highest (va_wsS RX11 138 yX11_isNoPlace wsX11_isNoPlace) := goodIn_app (goodIn_of _ (by decide +kernel)) ggX11_highest_X11_isNoPlace
set_option maxRecDepth 20000 in
theorem ggX11_highest_X11_start : GoodIn wsX11_highest wsX11_start := goodIn_r _ [17, 18, 19, 20, 21, 6, 22, 151, 152, 153, 154, 155, 156, 157, 158, 159, 160, 161] (by decide +kernel) (by decide +kernel)
set_option maxRecDepth 20000 in
theorem gX11_highest_X11_start : GoodIn wsX11_highest (wsV RX11 142 RX11 yX11_start wsX11_start) := goodIn_app (goodIn_of _ (by decide +kernel)) ggX11_highest_X11_start
set_option maxRecDepth 20000 in
theorem ggX11_highest_X11_safe : GoodIn wsX11_highest wsX11_safe := goodIn_r _ [26, 27, 28, 29, 30, 31, 32, 33, 34, 35, 36, 37, 38, 39, 6, 40, 41, 42, 43, 44, 45, 46, 47, 48, 49, 50, 51, 52, 53, 54, 55, 56, 57, 58, 59, 60, 61, 62, 63, 64, 65, 66, 67, 68, 69, 70, 71, 72, 73, 74, 75, 76, 77, 78, 79, 80, 81, 82, 83, 84, 85, 86, 87, 88, 89, 90, 91, 92, 93, 94, 95, 96, 97, 98, 99, 100, 101, 102, 103, 104, 105, 106, 107, 108, 109, 110, 111, 112, 113, 114, 115, 116, 117, 118, 3, 119, 120, 121, 122, 123, 124, 125, 126, 127, 128, 129, 130, 131, 132, 133, 134, 135, 151, 152, 153, 154, 155, 156, 157, 158, 159, 160, 161, 162, 163, 164, 165, 166, 167, 168, 169, 170, 171, 172, 146, 147, 148, 149, 150] (by decide +kernel) (by decide +kernel)
set_option maxRecDepth 20000 in
theorem gX11_highest_X11_safe : GoodIn wsX11_highest (wsV RX11 236 RX11 yX11_safe wsX11_safe) := goodIn_app (goodIn_of _ (by decide +kernel)) ggX11_highest_X11_safe
set_option maxRecDepth 20000 in
theorem ggX11_highest_X9_init : GoodIn wsX11_highest wsX9_init := goodIn_r _ [138, 139, 140, 141, 126, 127, 131, 120, 121, 146, 147, 148, 149, 150] (by decide +kernel) (by decide +kernel)
set_option maxRecDepth 20000 in
theorem gX11_highest_X9_init : GoodIn wsX11_highest (wsX9_init) := ggX11_highest_X9_init
set_option maxRecDepth 20000 in
theorem ggX11_highest_X11_harmed : GoodIn wsX11_highest wsX11_harmed := goodIn_r _ [145, 30, 101, 102, 103, 6, 104, 27, 45, 105, 46, 106, 107, 108, 109, 110, 87, 88, 89, 90, 48, 49, 50, 34, 51, 36, 52, 53, 54, 55, 56, 57, 58, 59, 60, 61, 62, 63, 64, 31, 32, 33, 35, 111, 112, 113, 114, 115, 116, 117, 118, 3, 119, 120, 121, 122, 123, 124, 125, 126, 127, 128, 129, 130, 131, 132, 133, 134, 135, 151, 152, 153, 154, 155, 156, 157, 158, 159, 160, 161, 165, 166, 167, 146, 147, 148, 149, 150, 162, 163, 164] (by decide +kernel) (by decide +kernel)
set_option maxRecDepth 20000 in
theorem gX11_highest_X11_harmed : GoodIn wsX11_highest (wsV RX11 240 RX11 yX11_harmed wsX11_harmed) := goodIn_app (goodIn_of _ (by decide +kernel)) ggX11_highest_X11_harmed
theorem dX11_highest_0 : decode cX11_highest 0 = .ok (.aload_n 0, 1) := by decide +kernel
theorem dX11_highest_1 : decode cX11_highest 1 = .ok (.iload_n 1, 1) := by decide +kernel
theorem dX11_highest_2 : decode cX11_highest 2 = .ok (.iload_n 2, 1) := by decide +kernel
theorem dX11_highest_3 : decode cX11_highest 3 = .ok (.iload_n 3, 1) := by decide +kernel
theorem dX11_highest_4 : decode cX11_highest 4 = .ok (.iload 4, 2) := by decide +kernel
theorem dX11_highest_6 : decode cX11_highest 6 = .ok (.invokestatic 138, 3) := by decide +kernel
theorem dX11_highest_9 : decode cX11_highest 9 = .ok (.iconst 1, 1) := by decide +kernel
theorem dX11_highest_10 : decode cX11_highest 10 = .ok (.invokevirtual 142, 3) := by decide +kernel
theorem dX11_highest_13 : decode cX11_highest 13 = .ok (.ifCond .eq 5, 3) := by decide +kernel
theorem dX11_highest_16 : decode cX11_highest 16 = .ok (.iconst 0, 1) := by decide +kernel
theorem dX11_highest_17 : decode cX11_highest 17 = .ok (.ireturn, 1) := by decide +kernel
theorem dX11_highest_18 : decode cX11_highest 18 = .ok (.aload_n 0, 1) := by decide +kernel
theorem dX11_highest_19 : decode cX11_highest 19 = .ok (.iload_n 3, 1) := by decide +kernel
theorem dX11_highest_20 : decode cX11_highest 20 = .ok (.iload 4, 2) := by decide +kernel
theorem dX11_highest_22 : decode cX11_highest 22 = .ok (.invokevirtual 236, 3) := by decide +kernel
theorem dX11_highest_25 : decode cX11_highest 25 = .ok (.astore 5, 2) := by decide +kernel
theorem dX11_highest_27 : decode cX11_highest 27 = .ok (.iconst 0, 1) := by decide +kernel
theorem dX11_highest_28 : decode cX11_highest 28 = .ok (.istore 6, 2) := by decide +kernel
theorem dX11_highest_30 : decode cX11_highest 30 = .ok (.sipush 1000, 3) := by decide +kernel
theorem dX11_highest_33 : decode cX11_highest 33 = .ok (.istore 7, 2) := by decide +kernel
theorem dX11_highest_35 : decode cX11_highest 35 = .ok (.iload 6, 2) := by decide +kernel
theorem dX11_highest_37 : decode cX11_highest 37 = .ok (.iload 7, 2) := by decide +kernel
theorem dX11_highest_39 : decode cX11_highest 39 = .ok (.if_icmp .ge 63, 3) := by decide +kernel
theorem dX11_highest_42 : decode cX11_highest 42 = .ok (.iload 6, 2) := by decide +kernel
theorem dX11_highest_44 : decode cX11_highest 44 = .ok (.iload 7, 2) := by decide +kernel
theorem dX11_highest_46 : decode cX11_highest 46 = .ok (.iadd, 1) := by decide +kernel
theorem dX11_highest_47 : decode cX11_highest 47 = .ok (.iconst 2, 1) := by decide +kernel
theorem dX11_highest_48 : decode cX11_highest 48 = .ok (.idiv, 1) := by decide +kernel
theorem dX11_highest_49 : decode cX11_highest 49 = .ok (.istore 8, 2) := by decide +kernel
theorem dX11_highest_51 : decode cX11_highest 51 = .ok (.aload_n 0, 1) := by decide +kernel
theorem dX11_highest_52 : decode cX11_highest 52 = .ok (.new 75, 3) := by decide +kernel
theorem dX11_highest_55 : decode cX11_highest 55 = .ok (.dup, 1) := by decide +kernel
theorem dX11_highest_56 : decode cX11_highest 56 = .ok (.iload_n 1, 1) := by decide +kernel
theorem dX11_highest_57 : decode cX11_highest 57 = .ok (.iload_n 2, 1) := by decide +kernel
theorem dX11_highest_58 : decode cX11_highest 58 = .ok (.iload 8, 2) := by decide +kernel
theorem dX11_highest_60 : decode cX11_highest 60 = .ok (.iload_n 3, 1) := by decide +kernel
theorem dX11_highest_61 : decode cX11_highest 61 = .ok (.iload 4, 2) := by decide +kernel
theorem dX11_highest_63 : decode cX11_highest 63 = .ok (.invokespecial 145, 3) := by decide +kernel
theorem dX11_highest_66 : decode cX11_highest 66 = .ok (.aload 5, 2) := by decide +kernel
theorem dX11_highest_68 : decode cX11_highest 68 = .ok (.invokevirtual 240, 3) := by decide +kernel
theorem dX11_highest_71 : decode cX11_highest 71 = .ok (.ifCond .ne 12, 3) := by decide +kernel
theorem dX11_highest_74 : decode cX11_highest 74 = .ok (.iload 8, 2) := by decide +kernel
theorem dX11_highest_76 : decode cX11_highest 76 = .ok (.iconst 1, 1) := by decide +kernel
theorem dX11_highest_77 : decode cX11_highest 77 = .ok (.iadd, 1) := by decide +kernel
theorem dX11_highest_78 : decode cX11_highest 78 = .ok (.istore 6, 2) := by decide +kernel
theorem dX11_highest_80 : decode cX11_highest 80 = .ok (.goto 7, 3) := by decide +kernel
theorem dX11_highest_83 : decode cX11_highest 83 = .ok (.iload 8, 2) := by decide +kernel
theorem dX11_highest_85 : decode cX11_highest 85 = .ok (.istore 7, 2) := by decide +kernel
theorem dX11_highest_87 : decode cX11_highest 87 = .ok (.iload 6, 2) := by decide +kernel
theorem dX11_highest_89 : decode cX11_highest 89 = .ok (.sipush 999, 3) := by decide +kernel
theorem dX11_highest_92 : decode cX11_highest 92 = .ok (.if_icmp .le 7, 3) := by decide +kernel
theorem dX11_highest_95 : decode cX11_highest 95 = .ok (.sipush 999, 3) := by decide +kernel
theorem dX11_highest_98 : decode cX11_highest 98 = .ok (.ireturn, 1) := by decide +kernel
theorem dX11_highest_99 : decode cX11_highest 99 = .ok (.goto (-64), 3) := by decide +kernel
theorem dX11_highest_102 : decode cX11_highest 102 = .ok (.iload 6, 2) := by decide +kernel
theorem dX11_highest_104 : decode cX11_highest 104 = .ok (.iconst 1, 1) := by decide +kernel
theorem dX11_highest_105 : decode cX11_highest 105 = .ok (.isub, 1) := by decide +kernel
theorem dX11_highest_106 : decode cX11_highest 106 = .ok (.ireturn, 1) := by decide +kernel
set_option maxRecDepth 20000 in
theorem ggX11_unsafeOnNow_X11_isUnsafe : GoodIn wsX11_unsafeOnNow wsX11_isUnsafe := goodIn_r _ [6, 7, 8, 9, 5, 10, 11, 12, 13, 14, 15, 16, 17, 18, 19, 20, 21, 22, 23, 24, 25, 26, 27, 28, 29, 30, 31, 32, 33, 34, 35, 36, 37, 38, 39, 40, 41, 42, 43, 44, 45, 46, 47, 48, 49, 50, 51, 52, 53, 54, 55, 56, 57, 58, 59, 60, 61, 62, 63, 64, 65, 66, 67, 68, 69, 70, 71, 72, 73, 74, 75, 76, 77, 78, 79, 80, 81, 82, 83, 84, 85, 86, 87, 88, 89, 90, 91, 92, 93, 94, 95, 96, 97, 98, 99, 100, 101, 102, 103, 104, 105, 106, 107, 108, 109, 110, 111, 112, 113, 114, 115, 116, 117, 118, 119, 120, 121, 122, 123, 124, 125, 126, 127, 128, 129, 130, 131, 132, 133, 134, 135, 136] (by decide +kernel) (by decide +kernel)
set_option maxRecDepth 20000 in
theorem gX11_unsafeOnNow_X11_isUnsafe : GoodIn wsX11_unsafeOnNow (wsV RX11 169 RX11 yX11_isUnsafe wsX11_isUnsafe) := goodIn_app (goodIn_of _ (by decide +kernel)) ggX11_unsafeOnNow_X11_isUnsafe
theorem dX11_unsafeOnNow_0 : decode cX11_unsafeOnNow 0 = .ok (.aload_n 0, 1) := by decide +kernel
theorem dX11_unsafeOnNow_1 : decode cX11_unsafeOnNow 1 = .ok (.getfield 156, 3) := by decide +kernel
theorem dX11_unsafeOnNow_4 : decode cX11_unsafeOnNow 4 = .ok (.istore_n 2, 1) := by decide +kernel
theorem dX11_unsafeOnNow_5 : decode cX11_unsafeOnNow 5 = .ok (.iload_n 2, 1) := by decide +kernel
theorem dX11_unsafeOnNow_6 : decode cX11_unsafeOnNow 6 = .ok (.sipush 399, 3) := by decide +kernel
theorem dX11_unsafeOnNow_9 : decode cX11_unsafeOnNow 9 = .ok (.if_icmp .gt 20, 3) := by decide +kernel
theorem dX11_unsafeOnNow_12 : decode cX11_unsafeOnNow 12 = .ok (.aload_n 0, 1) := by decide +kernel
theorem dX11_unsafeOnNow_13 : decode cX11_unsafeOnNow 13 = .ok (.iload_n 1, 1) := by decide +kernel
theorem dX11_unsafeOnNow_14 : decode cX11_unsafeOnNow 14 = .ok (.iload_n 2, 1) := by decide +kernel
theorem dX11_unsafeOnNow_15 : decode cX11_unsafeOnNow 15 = .ok (.invokevirtual 169, 3) := by decide +kernel
theorem dX11_unsafeOnNow_18 : decode cX11_unsafeOnNow 18 = .ok (.ifCond .eq 5, 3) := by decide +kernel
theorem dX11_unsafeOnNow_21 : decode cX11_unsafeOnNow 21 = .ok (.iload_n 2, 1) := by decide +kernel
theorem dX11_unsafeOnNow_22 : decode cX11_unsafeOnNow 22 = .ok (.ireturn, 1) := by decide +kernel
theorem dX11_unsafeOnNow_23 : decode cX11_unsafeOnNow 23 = .ok (.iinc 2 1, 3) := by decide +kernel
theorem dX11_unsafeOnNow_26 : decode cX11_unsafeOnNow 26 = .ok (.goto (-21), 3) := by decide +kernel
theorem dX11_unsafeOnNow_29 : decode cX11_unsafeOnNow 29 = .ok (.iconst (-1), 1) := by decide +kernel
theorem dX11_unsafeOnNow_30 : decode cX11_unsafeOnNow 30 = .ok (.ireturn, 1) := by decide +kernel
set_option maxRecDepth 20000 in
theorem ggX11_unsafeOn_X11_isNoProcedure : GoodIn wsX11_unsafeOn wsX11_isNoProcedure := goodIn_r _ [5, 6, 7, 8, 9, 10, 11, 12, 13, 14, 4, 15, 130, 131, 132, 133, 134, 135, 136, 137, 138, 139, 140, 141, 142, 143] (by decide +kernel) (by decide +kernel)
set_option maxRecDepth 20000 in
theorem gX11_unsafeOn_X11_isNoProcedure : GoodIn wsX11_unsafeOn (wsV RX11 175 RX11 yX11_isNoProcedure wsX11_isNoProcedure) := goodIn_app (goodIn_of _ (by decide +kernel)) ggX11_unsafeOn_X11_isNoProcedure
set_option maxRecDepth 20000 in
theorem ggX11_unsafeOn_X11_start : GoodIn wsX11_unsafeOn wsX11_start := goodIn_r _ [19, 20, 21, 22, 23, 4, 24, 130, 131, 132, 133, 134, 135, 136, 137, 138, 139, 140] (by decide +kernel) (by decide +kernel)
set_option maxRecDepth 20000 in
theorem gX11_unsafeOn_X11_start : GoodIn wsX11_unsafeOn (wsV RX11 142 RX11 yX11_start wsX11_start) := goodIn_app (goodIn_of _ (by decide +kernel)) ggX11_unsafeOn_X11_start
set_option maxRecDepth 20000 in
theorem ggX11_unsafeOn_X11_unsafeOnNow : GoodIn wsX11_unsafeOn wsX11_unsafeOnNow := goodIn_r _ [28, 29, 30, 31, 32, 4, 33, 34, 35, 36, 37, 6, 38, 39, 40, 41, 42, 43, 10, 44, 12, 45, 46, 47, 48, 49, 50, 51, 52, 53, 54, 55, 56, 57, 58, 59, 60, 61, 62, 63, 64, 65, 66, 67, 68, 69, 70, 8, 9, 11, 71, 7, 72, 73, 74, 75, 76, 77, 78, 79, 80, 81, 82, 83, 84, 85, 86, 87, 88, 89, 90, 91, 92, 93, 94, 95, 96, 97, 98, 99, 100, 101, 102, 103, 104, 105, 106, 107, 108, 109, 110, 111, 112, 113, 114, 115, 116, 117, 118, 119, 120, 121, 122, 123, 124, 125, 126, 127, 128, 129, 130, 131, 132, 133, 134, 135, 136, 137, 138, 139, 140, 144, 145, 146, 141, 142, 143, 147, 148, 149, 150, 151, 152, 153, 154, 155, 156] (by decide +kernel) (by decide +kernel)
set_option maxRecDepth 20000 in
theorem gX11_unsafeOn_X11_unsafeOnNow : GoodIn wsX11_unsafeOn (wsV RX11 244 RX11 yX11_unsafeOnNow wsX11_unsafeOnNow) := goodIn_app (goodIn_of _ (by decide +kernel)) ggX11_unsafeOn_X11_unsafeOnNow
theorem dX11_unsafeOn_0 : decode cX11_unsafeOn 0 = .ok (.aload_n 0, 1) := by decide +kernel
theorem dX11_unsafeOn_1 : decode cX11_unsafeOn 1 = .ok (.aload_n 0, 1) := by decide +kernel
theorem dX11_unsafeOn_2 : decode cX11_unsafeOn 2 = .ok (.iload_n 1, 1) := by decide +kernel
theorem dX11_unsafeOn_3 : decode cX11_unsafeOn 3 = .ok (.invokevirtual 175, 3) := by decide +kernel
theorem dX11_unsafeOn_6 : decode cX11_unsafeOn 6 = .ok (.iconst 1, 1) := by decide +kernel
theorem dX11_unsafeOn_7 : decode cX11_unsafeOn 7 = .ok (.invokevirtual 142, 3) := by decide +kernel
theorem dX11_unsafeOn_10 : decode cX11_unsafeOn 10 = .ok (.ifCond .eq 7, 3) := by decide +kernel
theorem dX11_unsafeOn_13 : decode cX11_unsafeOn 13 = .ok (.iconst 0, 1) := by decide +kernel
theorem dX11_unsafeOn_14 : decode cX11_unsafeOn 14 = .ok (.goto 8, 3) := by decide +kernel
theorem dX11_unsafeOn_17 : decode cX11_unsafeOn 17 = .ok (.aload_n 0, 1) := by decide +kernel
theorem dX11_unsafeOn_18 : decode cX11_unsafeOn 18 = .ok (.iload_n 1, 1) := by decide +kernel
theorem dX11_unsafeOn_19 : decode cX11_unsafeOn 19 = .ok (.invokevirtual 244, 3) := by decide +kernel
theorem dX11_unsafeOn_22 : decode cX11_unsafeOn 22 = .ok (.ireturn, 1) := by decide +kernel
set_option maxRecDepth 20000 in
theorem ggX11_raiseForNow_X11_isUnsafe : GoodIn wsX11_raiseForNow wsX11_isUnsafe := goodIn_r _ [12, 13, 14, 15, 11, 16, 2, 3, 17, 18, 19, 20, 21, 22, 23, 24, 25, 26, 27, 28, 29, 30, 31, 32, 33, 34, 35, 36, 37, 38, 39, 40, 41, 42, 43, 44, 45, 46, 47, 48, 49, 50, 51, 52, 53, 54, 55, 56, 57, 58, 59, 60, 61, 62, 63, 4, 5, 6, 7, 64, 65, 66, 67, 68, 69, 70, 71, 72, 73, 74, 75, 76, 77, 78, 79, 80, 81, 82, 83, 84, 85, 86, 87, 88, 89, 90, 91, 92, 93, 94, 95, 96, 97, 98, 99, 100, 101, 102, 103, 104, 105, 106, 107, 108, 109, 110, 111, 112, 113, 114, 115, 116, 117, 118, 119, 120, 121, 122, 123, 124, 125, 126, 127, 128, 129, 130, 131, 132, 133, 134, 135, 136] (by decide +kernel) (by decide +kernel)
set_option maxRecDepth 20000 in
theorem gX11_raiseForNow_X11_isUnsafe : GoodIn wsX11_raiseForNow (wsV RX11 169 RX11 yX11_isUnsafe wsX11_isUnsafe) := goodIn_app (goodIn_of _ (by decide +kernel)) ggX11_raiseForNow_X11_isUnsafe
set_option maxRecDepth 20000 in
theorem ggX11_raiseForNow_X11_demandedNow_ : GoodIn wsX11_raiseForNow wsX11_demandedNow_ := goodIn_r _ [73, 74, 75, 76, 11, 77, 2, 3, 78, 17, 79, 80, 81, 82, 83, 4, 5, 6, 7, 19, 20, 21, 22, 23, 24, 25, 26, 27, 28, 29, 30, 31, 32, 33, 34, 35, 36, 37, 55, 51, 52, 53, 84, 85, 86, 87, 88, 89, 90, 91, 92, 93, 94, 95, 96, 97, 98, 99, 100, 101, 102, 103, 104, 105, 106, 107, 108, 109, 110, 111, 112, 113, 114, 115, 116, 117, 118, 119, 120, 121, 122, 123, 132, 133, 134, 135, 136, 124, 125, 126] (by decide +kernel) (by decide +kernel)
set_option maxRecDepth 20000 in
theorem gX11_raiseForNow_X11_demandedNow_ : GoodIn wsX11_raiseForNow (wsV RX11 136 RX11 yX11_demandedNow_ wsX11_demandedNow_) := goodIn_app (goodIn_of _ (by decide +kernel)) ggX11_raiseForNow_X11_demandedNow_
set_option maxRecDepth 20000 in
theorem ggX11_raiseForNow_Jx4a65c_get_915e3 : GoodIn wsX11_raiseForNow wsJx4a65c_get_915e3 := goodIn_r _ [23, 24, 25, 26, 27, 28, 29, 30, 31, 32, 33, 34, 35, 22, 36, 37, 124, 125, 126] (by decide +kernel) (by decide +kernel)
set_option maxRecDepth 20000 in
theorem gX11_raiseForNow_Jx4a65c_get_915e3 : GoodIn wsX11_raiseForNow (wsV RX11 55 RJx4a65c yJx4a65c_get_915e3 wsJx4a65c_get_915e3) := goodIn_app (goodIn_of _ (by decide +kernel)) ggX11_raiseForNow_Jx4a65c_get_915e3
set_option maxRecDepth 20000 in
theorem ggX11_raiseForNow_X10_chart : GoodIn wsX11_raiseForNow wsX10_chart := goodIn_r _ [47, 48, 49, 50, 51, 52, 22, 53, 24, 54, 20, 21, 23, 25, 26, 27, 28, 29, 30, 31, 32, 33, 34, 35, 36, 37, 121, 122, 123, 124, 125, 126] (by decide +kernel) (by decide +kernel)
set_option maxRecDepth 20000 in
theorem gX11_raiseForNow_X10_chart : GoodIn wsX11_raiseForNow (wsV RX11 126 RX10 yX10_chart wsX10_chart) := goodIn_app (goodIn_of _ (by decide +kernel)) ggX11_raiseForNow_X10_chart
theorem dX11_raiseForNow_0 : decode cX11_raiseForNow 0 = .ok (.iconst 0, 1) := by decide +kernel
theorem dX11_raiseForNow_1 : decode cX11_raiseForNow 1 = .ok (.istore_n 2, 1) := by decide +kernel
theorem dX11_raiseForNow_2 : decode cX11_raiseForNow 2 = .ok (.aload_n 0, 1) := by decide +kernel
theorem dX11_raiseForNow_3 : decode cX11_raiseForNow 3 = .ok (.getfield 156, 3) := by decide +kernel
theorem dX11_raiseForNow_6 : decode cX11_raiseForNow 6 = .ok (.istore_n 3, 1) := by decide +kernel
theorem dX11_raiseForNow_7 : decode cX11_raiseForNow 7 = .ok (.iload_n 3, 1) := by decide +kernel
theorem dX11_raiseForNow_8 : decode cX11_raiseForNow 8 = .ok (.sipush 399, 3) := by decide +kernel
theorem dX11_raiseForNow_11 : decode cX11_raiseForNow 11 = .ok (.if_icmp .gt 45, 3) := by decide +kernel
theorem dX11_raiseForNow_14 : decode cX11_raiseForNow 14 = .ok (.aload_n 0, 1) := by decide +kernel
theorem dX11_raiseForNow_15 : decode cX11_raiseForNow 15 = .ok (.iload_n 1, 1) := by decide +kernel
theorem dX11_raiseForNow_16 : decode cX11_raiseForNow 16 = .ok (.iload_n 3, 1) := by decide +kernel
theorem dX11_raiseForNow_17 : decode cX11_raiseForNow 17 = .ok (.invokevirtual 169, 3) := by decide +kernel
theorem dX11_raiseForNow_20 : decode cX11_raiseForNow 20 = .ok (.ifCond .eq 30, 3) := by decide +kernel
theorem dX11_raiseForNow_23 : decode cX11_raiseForNow 23 = .ok (.iload_n 2, 1) := by decide +kernel
theorem dX11_raiseForNow_24 : decode cX11_raiseForNow 24 = .ok (.aload_n 0, 1) := by decide +kernel
theorem dX11_raiseForNow_25 : decode cX11_raiseForNow 25 = .ok (.iload_n 1, 1) := by decide +kernel
theorem dX11_raiseForNow_26 : decode cX11_raiseForNow 26 = .ok (.iload_n 3, 1) := by decide +kernel
theorem dX11_raiseForNow_27 : decode cX11_raiseForNow 27 = .ok (.invokevirtual 136, 3) := by decide +kernel
theorem dX11_raiseForNow_30 : decode cX11_raiseForNow 30 = .ok (.aload_n 0, 1) := by decide +kernel
theorem dX11_raiseForNow_31 : decode cX11_raiseForNow 31 = .ok (.getfield 23, 3) := by decide +kernel
theorem dX11_raiseForNow_34 : decode cX11_raiseForNow 34 = .ok (.iload_n 1, 1) := by decide +kernel
theorem dX11_raiseForNow_35 : decode cX11_raiseForNow 35 = .ok (.invokevirtual 55, 3) := by decide +kernel
theorem dX11_raiseForNow_38 : decode cX11_raiseForNow 38 = .ok (.checkcast 59, 3) := by decide +kernel
theorem dX11_raiseForNow_41 : decode cX11_raiseForNow 41 = .ok (.iload_n 3, 1) := by decide +kernel
theorem dX11_raiseForNow_42 : decode cX11_raiseForNow 42 = .ok (.invokevirtual 126, 3) := by decide +kernel
theorem dX11_raiseForNow_45 : decode cX11_raiseForNow 45 = .ok (.isub, 1) := by decide +kernel
theorem dX11_raiseForNow_46 : decode cX11_raiseForNow 46 = .ok (.invokestatic 86, 3) := by decide +kernel
theorem dX11_raiseForNow_49 : decode cX11_raiseForNow 49 = .ok (.istore_n 2, 1) := by decide +kernel
theorem dX11_raiseForNow_50 : decode cX11_raiseForNow 50 = .ok (.iinc 3 1, 3) := by decide +kernel
theorem dX11_raiseForNow_53 : decode cX11_raiseForNow 53 = .ok (.goto (-46), 3) := by decide +kernel
theorem dX11_raiseForNow_56 : decode cX11_raiseForNow 56 = .ok (.iload_n 2, 1) := by decide +kernel
theorem dX11_raiseForNow_57 : decode cX11_raiseForNow 57 = .ok (.sipush 500, 3) := by decide +kernel
theorem dX11_raiseForNow_60 : decode cX11_raiseForNow 60 = .ok (.if_icmp .le 7, 3) := by decide +kernel
theorem dX11_raiseForNow_63 : decode cX11_raiseForNow 63 = .ok (.iconst (-1), 1) := by decide +kernel
theorem dX11_raiseForNow_64 : decode cX11_raiseForNow 64 = .ok (.goto 4, 3) := by decide +kernel
theorem dX11_raiseForNow_67 : decode cX11_raiseForNow 67 = .ok (.iload_n 2, 1) := by decide +kernel
theorem dX11_raiseForNow_68 : decode cX11_raiseForNow 68 = .ok (.ireturn, 1) := by decide +kernel
set_option maxRecDepth 20000 in
theorem ggX11_raiseFor_X11_isNoProcedure : GoodIn wsX11_raiseFor wsX11_isNoProcedure := goodIn_r _ [5, 6, 7, 8, 9, 10, 11, 12, 13, 14, 4, 15, 130, 131, 132, 133, 134, 135, 136, 137, 138, 139, 140, 141, 142, 143] (by decide +kernel) (by decide +kernel)
set_option maxRecDepth 20000 in
theorem gX11_raiseFor_X11_isNoProcedure : GoodIn wsX11_raiseFor (wsV RX11 175 RX11 yX11_isNoProcedure wsX11_isNoProcedure) := goodIn_app (goodIn_of _ (by decide +kernel)) ggX11_raiseFor_X11_isNoProcedure
set_option maxRecDepth 20000 in
theorem ggX11_raiseFor_X11_start : GoodIn wsX11_raiseFor wsX11_start := goodIn_r _ [19, 20, 21, 22, 23, 4, 24, 130, 131, 132, 133, 134, 135, 136, 137, 138, 139, 140] (by decide +kernel) (by decide +kernel)
set_option maxRecDepth 20000 in
theorem gX11_raiseFor_X11_start : GoodIn wsX11_raiseFor (wsV RX11 142 RX11 yX11_start wsX11_start) := goodIn_app (goodIn_of _ (by decide +kernel)) ggX11_raiseFor_X11_start
set_option maxRecDepth 20000 in
theorem ggX11_raiseFor_X11_raiseForNow : GoodIn wsX11_raiseFor wsX11_raiseForNow := goodIn_r _ [28, 29, 6, 30, 31, 32, 33, 34, 35, 36, 37, 4, 38, 39, 40, 41, 42, 43, 44, 45, 46, 47, 10, 48, 12, 49, 50, 51, 52, 53, 54, 55, 56, 57, 58, 59, 60, 61, 62, 63, 64, 65, 66, 67, 68, 69, 70, 71, 72, 73, 74, 8, 9, 11, 75, 7, 76, 77, 78, 79, 80, 81, 82, 83, 84, 85, 86, 87, 88, 89, 90, 91, 92, 93, 94, 95, 96, 97, 98, 99, 100, 101, 102, 103, 104, 105, 106, 107, 108, 109, 110, 111, 112, 113, 114, 115, 116, 117, 118, 119, 120, 121, 122, 123, 124, 125, 126, 127, 128, 129, 130, 131, 132, 133, 134, 135, 136, 137, 138, 139, 140, 144, 145, 146, 141, 142, 143, 147, 148, 149, 150, 151, 152, 153, 154, 155, 156] (by decide +kernel) (by decide +kernel)
set_option maxRecDepth 20000 in
theorem gX11_raiseFor_X11_raiseForNow : GoodIn wsX11_raiseFor (wsV RX11 247 RX11 yX11_raiseForNow wsX11_raiseForNow) := goodIn_app (goodIn_of _ (by decide +kernel)) ggX11_raiseFor_X11_raiseForNow
theorem dX11_raiseFor_0 : decode cX11_raiseFor 0 = .ok (.aload_n 0, 1) := by decide +kernel
theorem dX11_raiseFor_1 : decode cX11_raiseFor 1 = .ok (.aload_n 0, 1) := by decide +kernel
theorem dX11_raiseFor_2 : decode cX11_raiseFor 2 = .ok (.iload_n 1, 1) := by decide +kernel
theorem dX11_raiseFor_3 : decode cX11_raiseFor 3 = .ok (.invokevirtual 175, 3) := by decide +kernel
theorem dX11_raiseFor_6 : decode cX11_raiseFor 6 = .ok (.iconst 1, 1) := by decide +kernel
theorem dX11_raiseFor_7 : decode cX11_raiseFor 7 = .ok (.invokevirtual 142, 3) := by decide +kernel
theorem dX11_raiseFor_10 : decode cX11_raiseFor 10 = .ok (.ifCond .eq 7, 3) := by decide +kernel
theorem dX11_raiseFor_13 : decode cX11_raiseFor 13 = .ok (.iconst 0, 1) := by decide +kernel
theorem dX11_raiseFor_14 : decode cX11_raiseFor 14 = .ok (.goto 8, 3) := by decide +kernel
theorem dX11_raiseFor_17 : decode cX11_raiseFor 17 = .ok (.aload_n 0, 1) := by decide +kernel
theorem dX11_raiseFor_18 : decode cX11_raiseFor 18 = .ok (.iload_n 1, 1) := by decide +kernel
theorem dX11_raiseFor_19 : decode cX11_raiseFor 19 = .ok (.invokevirtual 247, 3) := by decide +kernel
theorem dX11_raiseFor_22 : decode cX11_raiseFor 22 = .ok (.ireturn, 1) := by decide +kernel
theorem dX11_add_0 : decode cX11_add 0 = .ok (.lload_n 0, 1) := by decide +kernel
theorem dX11_add_1 : decode cX11_add 1 = .ok (.ldc2_w 250, 3) := by decide +kernel
theorem dX11_add_4 : decode cX11_add 4 = .ok (.lmul, 1) := by decide +kernel
theorem dX11_add_5 : decode cX11_add 5 = .ok (.lload_n 2, 1) := by decide +kernel
theorem dX11_add_6 : decode cX11_add 6 = .ok (.ladd, 1) := by decide +kernel
theorem dX11_add_7 : decode cX11_add 7 = .ok (.lreturn, 1) := by decide +kernel
set_option maxRecDepth 20000 in
theorem ggX11_digest_X11_manyNow : GoodIn wsX11_digest wsX11_manyNow := goodIn_r _ [12, 13, 14, 15, 7, 5, 4, 16, 3, 17, 18, 19, 20, 21, 22, 23, 24, 25, 26, 27, 11, 28, 29, 30, 31, 32, 33, 34, 35, 36, 37, 38, 39, 40, 41, 42, 43, 44, 45, 46, 47, 48, 49, 50, 51, 52, 53, 54, 55, 56, 57, 58, 59, 60, 61, 62, 6, 63, 64, 65, 66, 67, 68, 69, 70, 71, 72, 73, 74, 75, 76, 77, 78, 79, 80, 81, 82, 83, 84, 85, 86, 87, 88, 89, 90, 91, 92, 93, 94, 95, 96, 97, 98, 99, 100, 101, 102, 103, 104, 105, 106, 107, 108, 109, 110, 111, 112, 113, 114, 115, 116, 117, 118, 119, 120, 160, 161, 162, 163, 164, 165, 166, 167, 168, 169, 170, 171, 172, 173, 174, 175, 176, 177, 178, 179, 180, 181, 182, 183, 184, 185, 186] (by decide +kernel) (by decide +kernel)
set_option maxRecDepth 20000 in
theorem gX11_digest_X11_manyNow : GoodIn wsX11_digest (wsV RX11 228 RX11 yX11_manyNow wsX11_manyNow) := goodIn_app (goodIn_of _ (by decide +kernel)) ggX11_digest_X11_manyNow
set_option maxRecDepth 20000 in
theorem ggX11_digest_X11_add : GoodIn wsX11_digest wsX11_add := goodIn_r _ [123, 124] (by decide +kernel) (by decide +kernel)
set_option maxRecDepth 20000 in
theorem gX11_digest_X11_add : GoodIn wsX11_digest (va_wsS RX11 254 yX11_add wsX11_add) := goodIn_app (goodIn_of _ (by decide +kernel)) ggX11_digest_X11_add
set_option maxRecDepth 20000 in
theorem ggX11_digest_Jx4a65c_size_8abf5 : GoodIn wsX11_digest wsJx4a65c_size_8abf5 := goodIn_r _ [23, 24, 171, 172, 173] (by decide +kernel) (by decide +kernel)
set_option maxRecDepth 20000 in
theorem gX11_digest_Jx4a65c_size_8abf5 : GoodIn wsX11_digest (wsV RX11 43 RJx4a65c yJx4a65c_size_8abf5 wsJx4a65c_size_8abf5) := goodIn_app (goodIn_of _ (by decide +kernel)) ggX11_digest_Jx4a65c_size_8abf5
set_option maxRecDepth 20000 in
theorem ggX11_digest_X11_ofObstacleNow : GoodIn wsX11_digest wsX11_ofObstacleNow := goodIn_r _ [128, 3, 99, 93, 129, 130, 131, 132, 34, 35, 36, 22, 37, 24, 38, 39, 40, 41, 42, 43, 44, 45, 46, 47, 48, 49, 50, 160, 161, 162, 163, 164, 165, 166, 167, 168, 169, 170, 182, 183, 184, 185, 186, 171, 172, 173] (by decide +kernel) (by decide +kernel)
set_option maxRecDepth 20000 in
theorem gX11_digest_X11_ofObstacleNow : GoodIn wsX11_digest (wsV RX11 204 RX11 yX11_ofObstacleNow wsX11_ofObstacleNow) := goodIn_app (goodIn_of _ (by decide +kernel)) ggX11_digest_X11_ofObstacleNow
set_option maxRecDepth 20000 in
theorem ggX11_digest_X11_demandedNow_ : GoodIn wsX11_digest wsX11_demandedNow_ := goodIn_r _ [85, 86, 87, 88, 11, 89, 4, 6, 90, 63, 91, 92, 3, 93, 94, 78, 79, 80, 81, 34, 35, 36, 22, 37, 24, 38, 39, 40, 41, 42, 43, 44, 45, 46, 47, 48, 49, 50, 19, 20, 21, 23, 95, 96, 97, 98, 99, 100, 101, 102, 103, 104, 105, 106, 107, 108, 109, 110, 111, 112, 113, 114, 115, 116, 117, 118, 119, 120, 160, 161, 162, 163, 164, 165, 166, 167, 168, 169, 170, 179, 180, 181, 182, 183, 184, 185, 186, 171, 172, 173] (by decide +kernel) (by decide +kernel)
set_option maxRecDepth 20000 in
theorem gX11_digest_X11_demandedNow_ : GoodIn wsX11_digest (wsV RX11 136 RX11 yX11_demandedNow_ wsX11_demandedNow_) := goodIn_app (goodIn_of _ (by decide +kernel)) ggX11_digest_X11_demandedNow_
set_option maxRecDepth 20000 in
theorem ggX11_digest_X11_inForceNow : GoodIn wsX11_digest wsX11_inForceNow := goodIn_r _ [62, 4, 6, 63, 7, 34, 35, 36, 22, 37, 24, 38, 39, 40, 41, 42, 43, 44, 45, 46, 47, 48, 49, 50, 51, 52, 53, 11, 54, 15, 64, 65, 66, 67, 68, 69, 70, 71, 20, 21, 23, 72, 19, 73, 74, 75, 76, 29, 30, 33, 77, 78, 79, 80, 81, 25, 26, 27, 28, 31, 32, 160, 161, 162, 163, 164, 165, 166, 167, 168, 169, 170, 179, 180, 181, 171, 172, 173, 174, 175, 176, 177, 178] (by decide +kernel) (by decide +kernel)
set_option maxRecDepth 20000 in
theorem gX11_digest_X11_inForceNow : GoodIn wsX11_digest (wsV RX11 133 RX11 yX11_inForceNow wsX11_inForceNow) := goodIn_app (goodIn_of _ (by decide +kernel)) ggX11_digest_X11_inForceNow
set_option maxRecDepth 20000 in
theorem ggX11_digest_Jx4a65c_get_915e3 : GoodIn wsX11_digest wsJx4a65c_get_915e3 := goodIn_r _ [37, 24, 38, 39, 40, 41, 42, 43, 44, 45, 46, 47, 48, 22, 49, 50, 171, 172, 173] (by decide +kernel) (by decide +kernel)
set_option maxRecDepth 20000 in
theorem gX11_digest_Jx4a65c_get_915e3 : GoodIn wsX11_digest (wsV RX11 55 RJx4a65c yJx4a65c_get_915e3 wsJx4a65c_get_915e3) := goodIn_app (goodIn_of _ (by decide +kernel)) ggX11_digest_Jx4a65c_get_915e3
set_option maxRecDepth 20000 in
theorem ggX11_digest_X10_chart : GoodIn wsX11_digest wsX10_chart := goodIn_r _ [68, 69, 70, 71, 20, 21, 22, 23, 24, 72, 35, 36, 37, 38, 39, 40, 41, 42, 43, 44, 45, 46, 47, 48, 49, 50, 179, 180, 181, 171, 172, 173] (by decide +kernel) (by decide +kernel)
set_option maxRecDepth 20000 in
theorem gX11_digest_X10_chart : GoodIn wsX11_digest (wsV RX11 126 RX10 yX10_chart wsX10_chart) := goodIn_app (goodIn_of _ (by decide +kernel)) ggX11_digest_X10_chart
set_option maxRecDepth 20000 in
theorem ggX11_digest_X11_decidesNow : GoodIn wsX11_digest wsX11_decidesNow := goodIn_r _ [136, 3, 82, 83, 84, 11, 85, 86, 87, 88, 89, 4, 6, 90, 63, 91, 92, 93, 94, 78, 79, 80, 81, 34, 35, 36, 22, 37, 24, 38, 39, 40, 41, 42, 43, 44, 45, 46, 47, 48, 49, 50, 19, 20, 21, 23, 95, 96, 97, 98, 99, 100, 101, 102, 103, 104, 105, 106, 107, 108, 109, 110, 111, 112, 113, 114, 115, 116, 117, 118, 119, 120, 160, 161, 162, 163, 164, 165, 166, 167, 168, 169, 170, 179, 180, 181, 182, 183, 184, 185, 186, 171, 172, 173] (by decide +kernel) (by decide +kernel)
set_option maxRecDepth 20000 in
theorem gX11_digest_X11_decidesNow : GoodIn wsX11_digest (wsV RX11 215 RX11 yX11_decidesNow wsX11_decidesNow) := goodIn_app (goodIn_of _ (by decide +kernel)) ggX11_digest_X11_decidesNow
set_option maxRecDepth 20000 in
theorem ggX11_digest_X11_unsafeOnNow : GoodIn wsX11_digest wsX11_unsafeOnNow := goodIn_r _ [140, 5, 55, 56, 57, 11, 58, 59, 60, 61, 62, 4, 6, 63, 7, 34, 35, 36, 22, 37, 24, 38, 39, 40, 41, 42, 43, 44, 45, 46, 47, 48, 49, 50, 51, 52, 53, 54, 15, 64, 65, 66, 67, 68, 69, 70, 71, 20, 21, 23, 72, 19, 73, 74, 75, 76, 29, 30, 33, 77, 78, 79, 80, 81, 25, 26, 27, 28, 31, 32, 82, 83, 84, 85, 86, 87, 88, 89, 90, 91, 92, 3, 93, 94, 95, 96, 97, 98, 99, 100, 101, 102, 103, 104, 105, 106, 107, 108, 109, 110, 111, 112, 113, 114, 115, 116, 117, 118, 119, 120, 160, 161, 162, 163, 164, 165, 166, 167, 168, 169, 170, 179, 180, 181, 171, 172, 173, 174, 175, 176, 177, 178, 182, 183, 184, 185, 186] (by decide +kernel) (by decide +kernel)
set_option maxRecDepth 20000 in
theorem gX11_digest_X11_unsafeOnNow : GoodIn wsX11_digest (wsV RX11 244 RX11 yX11_unsafeOnNow wsX11_unsafeOnNow) := goodIn_app (goodIn_of _ (by decide +kernel)) ggX11_digest_X11_unsafeOnNow
set_option maxRecDepth 20000 in
theorem ggX11_digest_X11_raiseForNow : GoodIn wsX11_digest wsX11_raiseForNow := goodIn_r _ [144, 5, 4, 6, 78, 79, 80, 81, 55, 56, 57, 11, 58, 59, 60, 61, 62, 63, 7, 34, 35, 36, 22, 37, 24, 38, 39, 40, 41, 42, 43, 44, 45, 46, 47, 48, 49, 50, 51, 52, 53, 54, 15, 64, 65, 66, 67, 68, 69, 70, 71, 20, 21, 23, 72, 19, 73, 74, 75, 76, 29, 30, 33, 77, 25, 26, 27, 28, 31, 32, 82, 83, 84, 85, 86, 87, 88, 89, 90, 91, 92, 3, 93, 94, 95, 96, 97, 98, 99, 100, 101, 102, 103, 104, 105, 106, 107, 108, 109, 110, 111, 112, 113, 114, 115, 116, 117, 118, 119, 120, 160, 161, 162, 163, 164, 165, 166, 167, 168, 169, 170, 179, 180, 181, 171, 172, 173, 174, 175, 176, 177, 178, 182, 183, 184, 185, 186] (by decide +kernel) (by decide +kernel)
set_option maxRecDepth 20000 in
theorem gX11_digest_X11_raiseForNow : GoodIn wsX11_digest (wsV RX11 247 RX11 yX11_raiseForNow wsX11_raiseForNow) := goodIn_app (goodIn_of _ (by decide +kernel)) ggX11_digest_X11_raiseForNow
set_option maxRecDepth 20000 in
theorem ggX11_digest_X11_ofNoticeNow : GoodIn wsX11_digest wsX11_ofNoticeNow := goodIn_r _ [148, 7, 29, 30, 33, 77, 31, 32, 5, 34, 35, 36, 22, 37, 24, 38, 39, 40, 41, 42, 43, 44, 45, 46, 47, 48, 49, 50, 19, 20, 21, 23, 25, 26, 27, 11, 28, 160, 161, 162, 163, 164, 165, 166, 167, 168, 169, 170, 174, 175, 176, 177, 178, 171, 172, 173] (by decide +kernel) (by decide +kernel)
set_option maxRecDepth 20000 in
theorem gX11_digest_X11_ofNoticeNow : GoodIn wsX11_digest (wsV RX11 218 RX11 yX11_ofNoticeNow wsX11_ofNoticeNow) := goodIn_app (goodIn_of _ (by decide +kernel)) ggX11_digest_X11_ofNoticeNow
set_option maxRecDepth 20000 in
theorem ggX11_digest_X11_misledNow : GoodIn wsX11_digest wsX11_misledNow := goodIn_r _ [152, 4, 5, 19, 20, 21, 22, 23, 24, 153, 154, 155, 11, 156, 14, 6, 13, 34, 35, 36, 37, 38, 39, 40, 41, 42, 43, 44, 45, 46, 47, 48, 49, 50, 64, 65, 66, 67, 68, 69, 70, 71, 72, 73, 74, 75, 76, 7, 29, 30, 33, 63, 77, 78, 79, 80, 81, 25, 26, 27, 28, 31, 32, 59, 60, 61, 62, 51, 52, 53, 54, 15, 160, 161, 162, 163, 164, 165, 166, 167, 168, 169, 170, 171, 172, 173, 179, 180, 181, 174, 175, 176, 177, 178] (by decide +kernel) (by decide +kernel)
set_option maxRecDepth 20000 in
theorem gX11_digest_X11_misledNow : GoodIn wsX11_digest (wsV RX11 225 RX11 yX11_misledNow wsX11_misledNow) := goodIn_app (goodIn_of _ (by decide +kernel)) ggX11_digest_X11_misledNow
set_option maxRecDepth 20000 in
theorem ggX11_digest_X11_believesNow : GoodIn wsX11_digest wsX11_believesNow := goodIn_r _ [156, 14, 4, 6, 13, 34, 35, 36, 22, 37, 24, 38, 39, 40, 41, 42, 43, 44, 45, 46, 47, 48, 49, 50, 64, 65, 66, 67, 68, 69, 70, 71, 20, 21, 23, 72, 73, 74, 75, 11, 76, 7, 29, 30, 33, 63, 77, 78, 79, 80, 81, 25, 26, 27, 28, 31, 32, 160, 161, 162, 163, 164, 165, 166, 167, 168, 169, 170, 171, 172, 173, 179, 180, 181, 174, 175, 176, 177, 178] (by decide +kernel) (by decide +kernel)
set_option maxRecDepth 20000 in
theorem gX11_digest_X11_believesNow : GoodIn wsX11_digest (wsV RX11 221 RX11 yX11_believesNow wsX11_believesNow) := goodIn_app (goodIn_of _ (by decide +kernel)) ggX11_digest_X11_believesNow
set_option maxRecDepth 20000 in
theorem ggX11_digest_X11_by : GoodIn wsX11_digest wsX11_by := goodIn_r _ [159] (by decide +kernel) (by decide +kernel)
set_option maxRecDepth 20000 in
theorem gX11_digest_X11_by : GoodIn wsX11_digest (va_wsS RX11 213 yX11_by wsX11_by) := goodIn_app (goodIn_of _ (by decide +kernel)) ggX11_digest_X11_by
theorem dX11_digest_0 : decode cX11_digest 0 = .ok (.aload_n 0, 1) := by decide +kernel
theorem dX11_digest_1 : decode cX11_digest 1 = .ok (.iconst 0, 1) := by decide +kernel
theorem dX11_digest_2 : decode cX11_digest 2 = .ok (.putfield 35, 3) := by decide +kernel
theorem dX11_digest_5 : decode cX11_digest 5 = .ok (.ldc2_w 252, 3) := by decide +kernel
theorem dX11_digest_8 : decode cX11_digest 8 = .ok (.lstore_n 1, 1) := by decide +kernel
theorem dX11_digest_9 : decode cX11_digest 9 = .ok (.iconst 0, 1) := by decide +kernel
theorem dX11_digest_10 : decode cX11_digest 10 = .ok (.istore_n 3, 1) := by decide +kernel
theorem dX11_digest_11 : decode cX11_digest 11 = .ok (.iload_n 3, 1) := by decide +kernel
theorem dX11_digest_12 : decode cX11_digest 12 = .ok (.bipush 20, 2) := by decide +kernel
theorem dX11_digest_14 : decode cX11_digest 14 = .ok (.if_icmp .ge 20, 3) := by decide +kernel
theorem dX11_digest_17 : decode cX11_digest 17 = .ok (.lload_n 1, 1) := by decide +kernel
theorem dX11_digest_18 : decode cX11_digest 18 = .ok (.aload_n 0, 1) := by decide +kernel
theorem dX11_digest_19 : decode cX11_digest 19 = .ok (.iload_n 3, 1) := by decide +kernel
theorem dX11_digest_20 : decode cX11_digest 20 = .ok (.invokevirtual 228, 3) := by decide +kernel
theorem dX11_digest_23 : decode cX11_digest 23 = .ok (.i2l, 1) := by decide +kernel
theorem dX11_digest_24 : decode cX11_digest 24 = .ok (.invokestatic 254, 3) := by decide +kernel
theorem dX11_digest_27 : decode cX11_digest 27 = .ok (.lstore_n 1, 1) := by decide +kernel
theorem dX11_digest_28 : decode cX11_digest 28 = .ok (.iinc 3 1, 3) := by decide +kernel
theorem dX11_digest_31 : decode cX11_digest 31 = .ok (.goto (-20), 3) := by decide +kernel
theorem dX11_digest_34 : decode cX11_digest 34 = .ok (.iconst 0, 1) := by decide +kernel
theorem dX11_digest_35 : decode cX11_digest 35 = .ok (.istore_n 3, 1) := by decide +kernel
theorem dX11_digest_36 : decode cX11_digest 36 = .ok (.iload_n 3, 1) := by decide +kernel
theorem dX11_digest_37 : decode cX11_digest 37 = .ok (.aload_n 0, 1) := by decide +kernel
theorem dX11_digest_38 : decode cX11_digest 38 = .ok (.getfield 10, 3) := by decide +kernel
theorem dX11_digest_41 : decode cX11_digest 41 = .ok (.invokevirtual 43, 3) := by decide +kernel
theorem dX11_digest_44 : decode cX11_digest 44 = .ok (.if_icmp .ge 37, 3) := by decide +kernel
theorem dX11_digest_47 : decode cX11_digest 47 = .ok (.iconst 0, 1) := by decide +kernel
theorem dX11_digest_48 : decode cX11_digest 48 = .ok (.istore 4, 2) := by decide +kernel
theorem dX11_digest_50 : decode cX11_digest 50 = .ok (.iload 4, 2) := by decide +kernel
theorem dX11_digest_52 : decode cX11_digest 52 = .ok (.iconst 5, 1) := by decide +kernel
theorem dX11_digest_53 : decode cX11_digest 53 = .ok (.if_icmp .ge 22, 3) := by decide +kernel
theorem dX11_digest_56 : decode cX11_digest 56 = .ok (.lload_n 1, 1) := by decide +kernel
theorem dX11_digest_57 : decode cX11_digest 57 = .ok (.aload_n 0, 1) := by decide +kernel
theorem dX11_digest_58 : decode cX11_digest 58 = .ok (.iload_n 3, 1) := by decide +kernel
theorem dX11_digest_59 : decode cX11_digest 59 = .ok (.iload 4, 2) := by decide +kernel
theorem dX11_digest_61 : decode cX11_digest 61 = .ok (.invokevirtual 204, 3) := by decide +kernel
theorem dX11_digest_64 : decode cX11_digest 64 = .ok (.i2l, 1) := by decide +kernel
theorem dX11_digest_65 : decode cX11_digest 65 = .ok (.invokestatic 254, 3) := by decide +kernel
theorem dX11_digest_68 : decode cX11_digest 68 = .ok (.lstore_n 1, 1) := by decide +kernel
theorem dX11_digest_69 : decode cX11_digest 69 = .ok (.iinc 4 1, 3) := by decide +kernel
theorem dX11_digest_72 : decode cX11_digest 72 = .ok (.goto (-22), 3) := by decide +kernel
theorem dX11_digest_75 : decode cX11_digest 75 = .ok (.iinc 3 1, 3) := by decide +kernel
theorem dX11_digest_78 : decode cX11_digest 78 = .ok (.goto (-42), 3) := by decide +kernel
theorem dX11_digest_81 : decode cX11_digest 81 = .ok (.iconst 0, 1) := by decide +kernel
theorem dX11_digest_82 : decode cX11_digest 82 = .ok (.istore_n 3, 1) := by decide +kernel
theorem dX11_digest_83 : decode cX11_digest 83 = .ok (.iload_n 3, 1) := by decide +kernel
theorem dX11_digest_84 : decode cX11_digest 84 = .ok (.aload_n 0, 1) := by decide +kernel
theorem dX11_digest_85 : decode cX11_digest 85 = .ok (.getfield 23, 3) := by decide +kernel
theorem dX11_digest_88 : decode cX11_digest 88 = .ok (.invokevirtual 43, 3) := by decide +kernel
theorem dX11_digest_91 : decode cX11_digest 91 = .ok (.if_icmp .ge 115, 3) := by decide +kernel
theorem dX11_digest_94 : decode cX11_digest 94 = .ok (.lload_n 1, 1) := by decide +kernel
theorem dX11_digest_95 : decode cX11_digest 95 = .ok (.aload_n 0, 1) := by decide +kernel
theorem dX11_digest_96 : decode cX11_digest 96 = .ok (.iload_n 3, 1) := by decide +kernel
theorem dX11_digest_97 : decode cX11_digest 97 = .ok (.aload_n 0, 1) := by decide +kernel
theorem dX11_digest_98 : decode cX11_digest 98 = .ok (.getfield 156, 3) := by decide +kernel
theorem dX11_digest_101 : decode cX11_digest 101 = .ok (.invokevirtual 136, 3) := by decide +kernel
theorem dX11_digest_104 : decode cX11_digest 104 = .ok (.i2l, 1) := by decide +kernel
theorem dX11_digest_105 : decode cX11_digest 105 = .ok (.invokestatic 254, 3) := by decide +kernel
theorem dX11_digest_108 : decode cX11_digest 108 = .ok (.aload_n 0, 1) := by decide +kernel
theorem dX11_digest_109 : decode cX11_digest 109 = .ok (.iload_n 3, 1) := by decide +kernel
theorem dX11_digest_110 : decode cX11_digest 110 = .ok (.aload_n 0, 1) := by decide +kernel
theorem dX11_digest_111 : decode cX11_digest 111 = .ok (.getfield 156, 3) := by decide +kernel
theorem dX11_digest_114 : decode cX11_digest 114 = .ok (.invokevirtual 133, 3) := by decide +kernel
theorem dX11_digest_117 : decode cX11_digest 117 = .ok (.i2l, 1) := by decide +kernel
theorem dX11_digest_118 : decode cX11_digest 118 = .ok (.invokestatic 254, 3) := by decide +kernel
theorem dX11_digest_121 : decode cX11_digest 121 = .ok (.lstore_n 1, 1) := by decide +kernel
theorem dX11_digest_122 : decode cX11_digest 122 = .ok (.lload_n 1, 1) := by decide +kernel
theorem dX11_digest_123 : decode cX11_digest 123 = .ok (.aload_n 0, 1) := by decide +kernel
theorem dX11_digest_124 : decode cX11_digest 124 = .ok (.getfield 23, 3) := by decide +kernel
theorem dX11_digest_127 : decode cX11_digest 127 = .ok (.iload_n 3, 1) := by decide +kernel
theorem dX11_digest_128 : decode cX11_digest 128 = .ok (.invokevirtual 55, 3) := by decide +kernel
theorem dX11_digest_131 : decode cX11_digest 131 = .ok (.checkcast 59, 3) := by decide +kernel
theorem dX11_digest_134 : decode cX11_digest 134 = .ok (.aload_n 0, 1) := by decide +kernel
theorem dX11_digest_135 : decode cX11_digest 135 = .ok (.getfield 156, 3) := by decide +kernel
theorem dX11_digest_138 : decode cX11_digest 138 = .ok (.invokevirtual 126, 3) := by decide +kernel
theorem dX11_digest_141 : decode cX11_digest 141 = .ok (.i2l, 1) := by decide +kernel
theorem dX11_digest_142 : decode cX11_digest 142 = .ok (.invokestatic 254, 3) := by decide +kernel
theorem dX11_digest_145 : decode cX11_digest 145 = .ok (.aload_n 0, 1) := by decide +kernel
theorem dX11_digest_146 : decode cX11_digest 146 = .ok (.getfield 23, 3) := by decide +kernel
theorem dX11_digest_149 : decode cX11_digest 149 = .ok (.iload_n 3, 1) := by decide +kernel
theorem dX11_digest_150 : decode cX11_digest 150 = .ok (.invokevirtual 55, 3) := by decide +kernel
theorem dX11_digest_153 : decode cX11_digest 153 = .ok (.checkcast 59, 3) := by decide +kernel
theorem dX11_digest_156 : decode cX11_digest 156 = .ok (.sipush 399, 3) := by decide +kernel
theorem dX11_digest_159 : decode cX11_digest 159 = .ok (.invokevirtual 126, 3) := by decide +kernel
theorem dX11_digest_162 : decode cX11_digest 162 = .ok (.i2l, 1) := by decide +kernel
theorem dX11_digest_163 : decode cX11_digest 163 = .ok (.invokestatic 254, 3) := by decide +kernel
theorem dX11_digest_166 : decode cX11_digest 166 = .ok (.lstore_n 1, 1) := by decide +kernel
theorem dX11_digest_167 : decode cX11_digest 167 = .ok (.lload_n 1, 1) := by decide +kernel
theorem dX11_digest_168 : decode cX11_digest 168 = .ok (.aload_n 0, 1) := by decide +kernel
theorem dX11_digest_169 : decode cX11_digest 169 = .ok (.iload_n 3, 1) := by decide +kernel
theorem dX11_digest_170 : decode cX11_digest 170 = .ok (.aload_n 0, 1) := by decide +kernel
theorem dX11_digest_171 : decode cX11_digest 171 = .ok (.getfield 156, 3) := by decide +kernel
theorem dX11_digest_174 : decode cX11_digest 174 = .ok (.invokevirtual 215, 3) := by decide +kernel
theorem dX11_digest_177 : decode cX11_digest 177 = .ok (.i2l, 1) := by decide +kernel
theorem dX11_digest_178 : decode cX11_digest 178 = .ok (.invokestatic 254, 3) := by decide +kernel
theorem dX11_digest_181 : decode cX11_digest 181 = .ok (.aload_n 0, 1) := by decide +kernel
theorem dX11_digest_182 : decode cX11_digest 182 = .ok (.iload_n 3, 1) := by decide +kernel
theorem dX11_digest_183 : decode cX11_digest 183 = .ok (.invokevirtual 244, 3) := by decide +kernel
theorem dX11_digest_186 : decode cX11_digest 186 = .ok (.i2l, 1) := by decide +kernel
theorem dX11_digest_187 : decode cX11_digest 187 = .ok (.invokestatic 254, 3) := by decide +kernel
theorem dX11_digest_190 : decode cX11_digest 190 = .ok (.aload_n 0, 1) := by decide +kernel
theorem dX11_digest_191 : decode cX11_digest 191 = .ok (.iload_n 3, 1) := by decide +kernel
theorem dX11_digest_192 : decode cX11_digest 192 = .ok (.invokevirtual 247, 3) := by decide +kernel
theorem dX11_digest_195 : decode cX11_digest 195 = .ok (.i2l, 1) := by decide +kernel
theorem dX11_digest_196 : decode cX11_digest 196 = .ok (.invokestatic 254, 3) := by decide +kernel
theorem dX11_digest_199 : decode cX11_digest 199 = .ok (.lstore_n 1, 1) := by decide +kernel
theorem dX11_digest_200 : decode cX11_digest 200 = .ok (.iinc 3 1, 3) := by decide +kernel
theorem dX11_digest_203 : decode cX11_digest 203 = .ok (.goto (-120), 3) := by decide +kernel
theorem dX11_digest_206 : decode cX11_digest 206 = .ok (.iconst 0, 1) := by decide +kernel
theorem dX11_digest_207 : decode cX11_digest 207 = .ok (.istore_n 3, 1) := by decide +kernel
theorem dX11_digest_208 : decode cX11_digest 208 = .ok (.iload_n 3, 1) := by decide +kernel
theorem dX11_digest_209 : decode cX11_digest 209 = .ok (.aload_n 0, 1) := by decide +kernel
theorem dX11_digest_210 : decode cX11_digest 210 = .ok (.getfield 26, 3) := by decide +kernel
theorem dX11_digest_213 : decode cX11_digest 213 = .ok (.invokevirtual 43, 3) := by decide +kernel
theorem dX11_digest_216 : decode cX11_digest 216 = .ok (.if_icmp .ge 38, 3) := by decide +kernel
theorem dX11_digest_219 : decode cX11_digest 219 = .ok (.iconst 0, 1) := by decide +kernel
theorem dX11_digest_220 : decode cX11_digest 220 = .ok (.istore 4, 2) := by decide +kernel
theorem dX11_digest_222 : decode cX11_digest 222 = .ok (.iload 4, 2) := by decide +kernel
theorem dX11_digest_224 : decode cX11_digest 224 = .ok (.bipush 6, 2) := by decide +kernel
theorem dX11_digest_226 : decode cX11_digest 226 = .ok (.if_icmp .ge 22, 3) := by decide +kernel
theorem dX11_digest_229 : decode cX11_digest 229 = .ok (.lload_n 1, 1) := by decide +kernel
theorem dX11_digest_230 : decode cX11_digest 230 = .ok (.aload_n 0, 1) := by decide +kernel
theorem dX11_digest_231 : decode cX11_digest 231 = .ok (.iload_n 3, 1) := by decide +kernel
theorem dX11_digest_232 : decode cX11_digest 232 = .ok (.iload 4, 2) := by decide +kernel
theorem dX11_digest_234 : decode cX11_digest 234 = .ok (.invokevirtual 218, 3) := by decide +kernel
theorem dX11_digest_237 : decode cX11_digest 237 = .ok (.i2l, 1) := by decide +kernel
theorem dX11_digest_238 : decode cX11_digest 238 = .ok (.invokestatic 254, 3) := by decide +kernel
theorem dX11_digest_241 : decode cX11_digest 241 = .ok (.lstore_n 1, 1) := by decide +kernel
theorem dX11_digest_242 : decode cX11_digest 242 = .ok (.iinc 4 1, 3) := by decide +kernel
theorem dX11_digest_245 : decode cX11_digest 245 = .ok (.goto (-23), 3) := by decide +kernel
theorem dX11_digest_248 : decode cX11_digest 248 = .ok (.iinc 3 1, 3) := by decide +kernel
theorem dX11_digest_251 : decode cX11_digest 251 = .ok (.goto (-43), 3) := by decide +kernel
theorem dX11_digest_254 : decode cX11_digest 254 = .ok (.iconst 0, 1) := by decide +kernel
theorem dX11_digest_255 : decode cX11_digest 255 = .ok (.istore_n 3, 1) := by decide +kernel
theorem dX11_digest_256 : decode cX11_digest 256 = .ok (.iload_n 3, 1) := by decide +kernel
theorem dX11_digest_257 : decode cX11_digest 257 = .ok (.iconst 4, 1) := by decide +kernel
theorem dX11_digest_258 : decode cX11_digest 258 = .ok (.if_icmp .ge 62, 3) := by decide +kernel
theorem dX11_digest_261 : decode cX11_digest 261 = .ok (.lload_n 1, 1) := by decide +kernel
theorem dX11_digest_262 : decode cX11_digest 262 = .ok (.aload_n 0, 1) := by decide +kernel
theorem dX11_digest_263 : decode cX11_digest 263 = .ok (.iload_n 3, 1) := by decide +kernel
theorem dX11_digest_264 : decode cX11_digest 264 = .ok (.invokevirtual 225, 3) := by decide +kernel
theorem dX11_digest_267 : decode cX11_digest 267 = .ok (.i2l, 1) := by decide +kernel
theorem dX11_digest_268 : decode cX11_digest 268 = .ok (.invokestatic 254, 3) := by decide +kernel
theorem dX11_digest_271 : decode cX11_digest 271 = .ok (.lstore_n 1, 1) := by decide +kernel
theorem dX11_digest_272 : decode cX11_digest 272 = .ok (.iconst 0, 1) := by decide +kernel
theorem dX11_digest_273 : decode cX11_digest 273 = .ok (.istore 4, 2) := by decide +kernel
theorem dX11_digest_275 : decode cX11_digest 275 = .ok (.iload 4, 2) := by decide +kernel
theorem dX11_digest_277 : decode cX11_digest 277 = .ok (.aload_n 0, 1) := by decide +kernel
theorem dX11_digest_278 : decode cX11_digest 278 = .ok (.getfield 23, 3) := by decide +kernel
theorem dX11_digest_281 : decode cX11_digest 281 = .ok (.invokevirtual 43, 3) := by decide +kernel
theorem dX11_digest_284 : decode cX11_digest 284 = .ok (.if_icmp .ge 30, 3) := by decide +kernel
theorem dX11_digest_287 : decode cX11_digest 287 = .ok (.lload_n 1, 1) := by decide +kernel
theorem dX11_digest_288 : decode cX11_digest 288 = .ok (.aload_n 0, 1) := by decide +kernel
theorem dX11_digest_289 : decode cX11_digest 289 = .ok (.iload_n 3, 1) := by decide +kernel
theorem dX11_digest_290 : decode cX11_digest 290 = .ok (.iload 4, 2) := by decide +kernel
theorem dX11_digest_292 : decode cX11_digest 292 = .ok (.aload_n 0, 1) := by decide +kernel
theorem dX11_digest_293 : decode cX11_digest 293 = .ok (.getfield 156, 3) := by decide +kernel
theorem dX11_digest_296 : decode cX11_digest 296 = .ok (.invokevirtual 221, 3) := by decide +kernel
theorem dX11_digest_299 : decode cX11_digest 299 = .ok (.iconst 1, 1) := by decide +kernel
theorem dX11_digest_300 : decode cX11_digest 300 = .ok (.invokestatic 213, 3) := by decide +kernel
theorem dX11_digest_303 : decode cX11_digest 303 = .ok (.i2l, 1) := by decide +kernel
theorem dX11_digest_304 : decode cX11_digest 304 = .ok (.invokestatic 254, 3) := by decide +kernel
theorem dX11_digest_307 : decode cX11_digest 307 = .ok (.lstore_n 1, 1) := by decide +kernel
theorem dX11_digest_308 : decode cX11_digest 308 = .ok (.iinc 4 1, 3) := by decide +kernel
theorem dX11_digest_311 : decode cX11_digest 311 = .ok (.goto (-36), 3) := by decide +kernel
theorem dX11_digest_314 : decode cX11_digest 314 = .ok (.iinc 3 1, 3) := by decide +kernel
theorem dX11_digest_317 : decode cX11_digest 317 = .ok (.goto (-61), 3) := by decide +kernel
theorem dX11_digest_320 : decode cX11_digest 320 = .ok (.lload_n 1, 1) := by decide +kernel
theorem dX11_digest_321 : decode cX11_digest 321 = .ok (.lreturn, 1) := by decide +kernel
