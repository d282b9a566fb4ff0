set_option maxRecDepth 20000 in
theorem ggX7_init_X4_init : GoodIn wsX7_init wsX4_init := goodIn_r _ [31, 32, 2, 3, 33, 34, 35, 36, 37, 38, 39, 40, 41, 42, 43, 44, 45, 46, 47, 128, 96, 97, 98, 99, 100, 101] (by decide +kernel) (by decide +kernel)
set_option maxRecDepth 20000 in
theorem gX7_init_X4_init_n9 : GoodIn wsX7_init (wsX4_init) := ggX7_init_X4_init
set_option maxRecDepth 20000 in
theorem ggX7_init_X0_init : GoodIn wsX7_init wsX0_init := goodIn_r _ [50, 51, 2, 3, 52, 34, 35, 53, 54, 55, 43, 44, 45, 46, 47, 56, 57, 58, 59, 128, 110, 111] (by decide +kernel) (by decide +kernel)
set_option maxRecDepth 20000 in
theorem gX7_init_X0_init : GoodIn wsX7_init (wsX0_init) := ggX7_init_X0_init
set_option maxRecDepth 20000 in
theorem ggX7_init_X5_init : GoodIn wsX7_init wsX5_init := goodIn_r _ [61, 62, 2, 3, 63, 34, 35, 64, 65, 66, 67, 43, 44, 45, 46, 47, 128, 112, 113, 114] (by decide +kernel) (by decide +kernel)
set_option maxRecDepth 20000 in
theorem gX7_init_X5_init_n25 : GoodIn wsX7_init (wsX5_init) := ggX7_init_X5_init
set_option maxRecDepth 20000 in
theorem ggX7_init_X1_init : GoodIn wsX7_init wsX1_init := goodIn_r _ [69, 70, 2, 3, 71, 34, 35, 72, 73, 74, 75, 76, 43, 44, 45, 46, 47, 128, 115, 116, 117, 118] (by decide +kernel) (by decide +kernel)
set_option maxRecDepth 20000 in
theorem gX7_init_X1_init_n32 : GoodIn wsX7_init (wsX1_init) := ggX7_init_X1_init
set_option maxRecDepth 20000 in
theorem ggX7_init_X3_init : GoodIn wsX7_init wsX3_init := goodIn_r _ [78, 79, 2, 3, 80, 34, 35, 81, 82, 83, 84, 85, 86, 87, 88, 43, 44, 45, 46, 47, 128, 119, 120, 121, 122, 123, 124, 125] (by decide +kernel) (by decide +kernel)
set_option maxRecDepth 20000 in
theorem gX7_init_X3_init_n39 : GoodIn wsX7_init (wsX3_init) := ggX7_init_X3_init
set_option maxRecDepth 20000 in
theorem ggX7_init_X2_init : GoodIn wsX7_init wsX2_init := goodIn_r _ [90, 91, 2, 3, 92, 34, 35, 93, 94, 95, 43, 44, 45, 46, 47, 128, 126, 127] (by decide +kernel) (by decide +kernel)
set_option maxRecDepth 20000 in
theorem gX7_init_X2_init_n46 : GoodIn wsX7_init (wsX2_init) := ggX7_init_X2_init
theorem dX7_init_0 : decode cX7_init 0 = .ok (.aload_n 0, 1) := by decide +kernel
theorem dX7_init_1 : decode cX7_init 1 = .ok (.invokespecial 1, 3) := by decide +kernel
theorem dX7_init_4 : decode cX7_init 4 = .ok (.aload_n 0, 1) := by decide +kernel
theorem dX7_init_5 : decode cX7_init 5 = .ok (.new 7, 3) := by decide +kernel
theorem dX7_init_8 : decode cX7_init 8 = .ok (.dup, 1) := by decide +kernel
theorem dX7_init_9 : decode cX7_init 9 = .ok (.invokespecial 9, 3) := by decide +kernel
theorem dX7_init_12 : decode cX7_init 12 = .ok (.putfield 10, 3) := by decide +kernel
theorem dX7_init_15 : decode cX7_init 15 = .ok (.aload_n 0, 1) := by decide +kernel
theorem dX7_init_16 : decode cX7_init 16 = .ok (.new 16, 3) := by decide +kernel
theorem dX7_init_19 : decode cX7_init 19 = .ok (.dup, 1) := by decide +kernel
theorem dX7_init_20 : decode cX7_init 20 = .ok (.invokespecial 18, 3) := by decide +kernel
theorem dX7_init_23 : decode cX7_init 23 = .ok (.putfield 19, 3) := by decide +kernel
theorem dX7_init_26 : decode cX7_init 26 = .ok (.aload_n 0, 1) := by decide +kernel
theorem dX7_init_27 : decode cX7_init 27 = .ok (.new 23, 3) := by decide +kernel
theorem dX7_init_30 : decode cX7_init 30 = .ok (.dup, 1) := by decide +kernel
theorem dX7_init_31 : decode cX7_init 31 = .ok (.invokespecial 25, 3) := by decide +kernel
theorem dX7_init_34 : decode cX7_init 34 = .ok (.putfield 26, 3) := by decide +kernel
theorem dX7_init_37 : decode cX7_init 37 = .ok (.aload_n 0, 1) := by decide +kernel
theorem dX7_init_38 : decode cX7_init 38 = .ok (.new 30, 3) := by decide +kernel
theorem dX7_init_41 : decode cX7_init 41 = .ok (.dup, 1) := by decide +kernel
theorem dX7_init_42 : decode cX7_init 42 = .ok (.invokespecial 32, 3) := by decide +kernel
theorem dX7_init_45 : decode cX7_init 45 = .ok (.putfield 33, 3) := by decide +kernel
theorem dX7_init_48 : decode cX7_init 48 = .ok (.aload_n 0, 1) := by decide +kernel
theorem dX7_init_49 : decode cX7_init 49 = .ok (.new 37, 3) := by decide +kernel
theorem dX7_init_52 : decode cX7_init 52 = .ok (.dup, 1) := by decide +kernel
theorem dX7_init_53 : decode cX7_init 53 = .ok (.invokespecial 39, 3) := by decide +kernel
theorem dX7_init_56 : decode cX7_init 56 = .ok (.putfield 40, 3) := by decide +kernel
theorem dX7_init_59 : decode cX7_init 59 = .ok (.aload_n 0, 1) := by decide +kernel
theorem dX7_init_60 : decode cX7_init 60 = .ok (.new 44, 3) := by decide +kernel
theorem dX7_init_63 : decode cX7_init 63 = .ok (.dup, 1) := by decide +kernel
theorem dX7_init_64 : decode cX7_init 64 = .ok (.invokespecial 46, 3) := by decide +kernel
theorem dX7_init_67 : decode cX7_init 67 = .ok (.putfield 47, 3) := by decide +kernel
theorem dX7_init_70 : decode cX7_init 70 = .ok (.aload_n 0, 1) := by decide +kernel
theorem dX7_init_71 : decode cX7_init 71 = .ok (.iconst 0, 1) := by decide +kernel
theorem dX7_init_72 : decode cX7_init 72 = .ok (.putfield 51, 3) := by decide +kernel
theorem dX7_init_75 : decode cX7_init 75 = .ok (.aload_n 0, 1) := by decide +kernel
theorem dX7_init_76 : decode cX7_init 76 = .ok (.iconst 0, 1) := by decide +kernel
theorem dX7_init_77 : decode cX7_init 77 = .ok (.putfield 55, 3) := by decide +kernel
theorem dX7_init_80 : decode cX7_init 80 = .ok (.return_, 1) := by decide +kernel
set_option maxRecDepth 20000 in
theorem ggX7_obstacle_X7_requirePlace : GoodIn wsX7_obstacle wsX7_requirePlace := goodIn_ca (goodIn_r _ [7, 8, 9, 6, 10, 11, 12, 13, 14, 15] (by decide +kernel) (by decide +kernel)) (goodIn_sub (fun _ h => List.mem_cons_of_mem _ (List.mem_append_right _ h)) (by decide +kernel))
set_option maxRecDepth 20000 in
theorem gX7_obstacle_X7_requirePlace : GoodIn wsX7_obstacle (va_wsS RX7 58 yX7_requirePlace wsX7_requirePlace) := goodIn_app (goodIn_of _ (by decide +kernel)) ggX7_obstacle_X7_requirePlace
set_option maxRecDepth 20000 in
theorem ggX7_obstacle_X7_requireTop : GoodIn wsX7_obstacle wsX7_requireTop := goodIn_ca (goodIn_r _ [18, 8, 9, 6, 10, 11, 12] (by decide +kernel) (by decide +kernel)) (goodIn_sub (fun _ h => List.mem_cons_of_mem _ (List.mem_append_right _ h)) (by decide +kernel))
set_option maxRecDepth 20000 in
theorem gX7_obstacle_X7_requireTop : GoodIn wsX7_obstacle (va_wsS RX7 62 yX7_requireTop wsX7_requireTop) := goodIn_app (goodIn_of _ (by decide +kernel)) ggX7_obstacle_X7_requireTop
set_option maxRecDepth 20000 in
theorem ggX7_obstacle_X4_add : GoodIn wsX7_obstacle wsX4_add := goodIn_r _ [23, 24, 25, 26, 27, 28, 29, 30, 31, 32, 33, 34, 35, 44, 45, 46, 47, 48, 49, 50] (by decide +kernel) (by decide +kernel)
set_option maxRecDepth 20000 in
theorem gX7_obstacle_X4_add : GoodIn wsX7_obstacle (wsV RX7 76 RX4 yX4_add wsX4_add) := goodIn_app (goodIn_of _ (by decide +kernel)) ggX7_obstacle_X4_add
theorem dX7_obstacle_0 : decode cX7_obstacle 0 = .ok (.iload_n 1, 1) := by decide +kernel
theorem dX7_obstacle_1 : decode cX7_obstacle 1 = .ok (.iload_n 2, 1) := by decide +kernel
theorem dX7_obstacle_2 : decode cX7_obstacle 2 = .ok (.iload 4, 2) := by decide +kernel
theorem dX7_obstacle_4 : decode cX7_obstacle 4 = .ok (.iload 5, 2) := by decide +kernel
theorem dX7_obstacle_6 : decode cX7_obstacle 6 = .ok (.invokestatic 58, 3) := by decide +kernel
theorem dX7_obstacle_9 : decode cX7_obstacle 9 = .ok (.iload_n 3, 1) := by decide +kernel
theorem dX7_obstacle_10 : decode cX7_obstacle 10 = .ok (.invokestatic 62, 3) := by decide +kernel
theorem dX7_obstacle_13 : decode cX7_obstacle 13 = .ok (.aload_n 0, 1) := by decide +kernel
theorem dX7_obstacle_14 : decode cX7_obstacle 14 = .ok (.getfield 10, 3) := by decide +kernel
theorem dX7_obstacle_17 : decode cX7_obstacle 17 = .ok (.getfield 66, 3) := by decide +kernel
theorem dX7_obstacle_20 : decode cX7_obstacle 20 = .ok (.bipush 12, 2) := by decide +kernel
theorem dX7_obstacle_22 : decode cX7_obstacle 22 = .ok (.if_icmp .lt 13, 3) := by decide +kernel
theorem dX7_obstacle_25 : decode cX7_obstacle 25 = .ok (.new 69, 3) := by decide +kernel
theorem dX7_obstacle_28 : decode cX7_obstacle 28 = .ok (.dup, 1) := by decide +kernel
theorem dX7_obstacle_29 : decode cX7_obstacle 29 = .ok (.ldc 71, 2) := by decide +kernel
theorem dX7_obstacle_31 : decode cX7_obstacle 31 = .ok (.invokespecial 73, 3) := by decide +kernel
theorem dX7_obstacle_34 : decode cX7_obstacle 34 = .ok (.athrow, 1) := by decide +kernel
theorem dX7_obstacle_35 : decode cX7_obstacle 35 = .ok (.aload_n 0, 1) := by decide +kernel
theorem dX7_obstacle_36 : decode cX7_obstacle 36 = .ok (.getfield 10, 3) := by decide +kernel
theorem dX7_obstacle_39 : decode cX7_obstacle 39 = .ok (.iload_n 1, 1) := by decide +kernel
theorem dX7_obstacle_40 : decode cX7_obstacle 40 = .ok (.iload_n 2, 1) := by decide +kernel
theorem dX7_obstacle_41 : decode cX7_obstacle 41 = .ok (.iload_n 3, 1) := by decide +kernel
theorem dX7_obstacle_42 : decode cX7_obstacle 42 = .ok (.iload 4, 2) := by decide +kernel
theorem dX7_obstacle_44 : decode cX7_obstacle 44 = .ok (.iload 5, 2) := by decide +kernel
theorem dX7_obstacle_46 : decode cX7_obstacle 46 = .ok (.invokevirtual 76, 3) := by decide +kernel
theorem dX7_obstacle_49 : decode cX7_obstacle 49 = .ok (.ireturn, 1) := by decide +kernel
set_option maxRecDepth 20000 in
theorem ggX7_check_X7_requireAid : GoodIn wsX7_check wsX7_requireAid := goodIn_ca (goodIn_r _ [10, 11, 12] (by decide +kernel) (by decide +kernel)) (goodIn_sub (fun _ h => List.mem_cons_of_mem _ (List.mem_append_left _ (List.mem_append_right _ h))) (by decide +kernel))
set_option maxRecDepth 20000 in
theorem gX7_check_X7_requireAid : GoodIn wsX7_check (va_wsS RX7 108 yX7_requireAid wsX7_requireAid) := goodIn_app (goodIn_of _ (by decide +kernel)) ggX7_check_X7_requireAid
set_option maxRecDepth 20000 in
theorem ggX7_check_X7_requireArgument : GoodIn wsX7_check wsX7_requireArgument := goodIn_ca (goodIn_r _ [15, 16, 17] (by decide +kernel) (by decide +kernel)) (goodIn_sub (fun _ h => List.mem_cons_of_mem _ (List.mem_append_right _ h)) (by decide +kernel))
set_option maxRecDepth 20000 in
theorem gX7_check_X7_requireArgument : GoodIn wsX7_check (va_wsS RX7 111 yX7_requireArgument wsX7_requireArgument) := goodIn_app (goodIn_of _ (by decide +kernel)) ggX7_check_X7_requireArgument
set_option maxRecDepth 20000 in
theorem ggX7_check_X6_put : GoodIn wsX7_check wsX6_put := goodIn_r _ [22, 23, 34] (by decide +kernel) (by decide +kernel)
set_option maxRecDepth 20000 in
theorem gX7_check_X6_put : GoodIn wsX7_check (wsV RX7 104 RX6 yX6_put wsX6_put) := goodIn_app (goodIn_of _ (by decide +kernel)) ggX7_check_X6_put
theorem dX7_check_0 : decode cX7_check 0 = .ok (.iload_n 1, 1) := by decide +kernel
theorem dX7_check_1 : decode cX7_check 1 = .ok (.invokestatic 108, 3) := by decide +kernel
theorem dX7_check_4 : decode cX7_check 4 = .ok (.iload_n 2, 1) := by decide +kernel
theorem dX7_check_5 : decode cX7_check 5 = .ok (.iconst 0, 1) := by decide +kernel
theorem dX7_check_6 : decode cX7_check 6 = .ok (.sipush 200, 3) := by decide +kernel
theorem dX7_check_9 : decode cX7_check 9 = .ok (.invokestatic 111, 3) := by decide +kernel
theorem dX7_check_12 : decode cX7_check 12 = .ok (.aload_n 0, 1) := by decide +kernel
theorem dX7_check_13 : decode cX7_check 13 = .ok (.getfield 51, 3) := by decide +kernel
theorem dX7_check_16 : decode cX7_check 16 = .ok (.iload_n 2, 1) := by decide +kernel
theorem dX7_check_17 : decode cX7_check 17 = .ok (.iadd, 1) := by decide +kernel
theorem dX7_check_18 : decode cX7_check 18 = .ok (.sipush 399, 3) := by decide +kernel
theorem dX7_check_21 : decode cX7_check 21 = .ok (.invokestatic 118, 3) := by decide +kernel
theorem dX7_check_24 : decode cX7_check 24 = .ok (.istore_n 3, 1) := by decide +kernel
theorem dX7_check_25 : decode cX7_check 25 = .ok (.aload_n 0, 1) := by decide +kernel
theorem dX7_check_26 : decode cX7_check 26 = .ok (.getfield 19, 3) := by decide +kernel
theorem dX7_check_29 : decode cX7_check 29 = .ok (.getfield 121, 3) := by decide +kernel
theorem dX7_check_32 : decode cX7_check 32 = .ok (.iload_n 1, 1) := by decide +kernel
theorem dX7_check_33 : decode cX7_check 33 = .ok (.iload_n 3, 1) := by decide +kernel
theorem dX7_check_34 : decode cX7_check 34 = .ok (.invokevirtual 104, 3) := by decide +kernel
theorem dX7_check_37 : decode cX7_check 37 = .ok (.iload_n 3, 1) := by decide +kernel
theorem dX7_check_38 : decode cX7_check 38 = .ok (.ireturn, 1) := by decide +kernel
set_option maxRecDepth 20000 in
theorem ggX7_procedure_X7_requireAid : GoodIn wsX7_procedure wsX7_requireAid := goodIn_ca (goodIn_r _ [7, 8, 9] (by decide +kernel) (by decide +kernel)) (goodIn_sub (fun _ h => List.mem_cons_of_mem _ (List.mem_append_left _ (List.mem_append_right _ h))) (by decide +kernel))
set_option maxRecDepth 20000 in
theorem gX7_procedure_X7_requireAid : GoodIn wsX7_procedure (va_wsS RX7 108 yX7_requireAid wsX7_requireAid) := goodIn_app (goodIn_of _ (by decide +kernel)) ggX7_procedure_X7_requireAid
set_option maxRecDepth 20000 in
theorem ggX7_procedure_X7_requireArgument : GoodIn wsX7_procedure wsX7_requireArgument := goodIn_ca (goodIn_r _ [12, 13, 14] (by decide +kernel) (by decide +kernel)) (goodIn_sub (fun _ h => List.mem_cons_of_mem _ (List.mem_append_right _ h)) (by decide +kernel))
set_option maxRecDepth 20000 in
theorem gX7_procedure_X7_requireArgument : GoodIn wsX7_procedure (va_wsS RX7 111 yX7_requireArgument wsX7_requireArgument) := goodIn_app (goodIn_of _ (by decide +kernel)) ggX7_procedure_X7_requireArgument
set_option maxRecDepth 20000 in
theorem ggX7_procedure_X5_add : GoodIn wsX7_procedure wsX5_add := goodIn_r _ [19, 20, 21, 22, 23, 24, 25, 26, 27, 28, 37, 38, 39, 40] (by decide +kernel) (by decide +kernel)
set_option maxRecDepth 20000 in
theorem gX7_procedure_X5_add : GoodIn wsX7_procedure (wsV RX7 127 RX5 yX5_add wsX5_add) := goodIn_app (goodIn_of _ (by decide +kernel)) ggX7_procedure_X5_add
theorem dX7_procedure_0 : decode cX7_procedure 0 = .ok (.iload_n 1, 1) := by decide +kernel
theorem dX7_procedure_1 : decode cX7_procedure 1 = .ok (.invokestatic 108, 3) := by decide +kernel
theorem dX7_procedure_4 : decode cX7_procedure 4 = .ok (.iload_n 2, 1) := by decide +kernel
theorem dX7_procedure_5 : decode cX7_procedure 5 = .ok (.bipush 10, 2) := by decide +kernel
theorem dX7_procedure_7 : decode cX7_procedure 7 = .ok (.bipush 40, 2) := by decide +kernel
theorem dX7_procedure_9 : decode cX7_procedure 9 = .ok (.invokestatic 111, 3) := by decide +kernel
theorem dX7_procedure_12 : decode cX7_procedure 12 = .ok (.aload_n 0, 1) := by decide +kernel
theorem dX7_procedure_13 : decode cX7_procedure 13 = .ok (.getfield 26, 3) := by decide +kernel
theorem dX7_procedure_16 : decode cX7_procedure 16 = .ok (.getfield 124, 3) := by decide +kernel
theorem dX7_procedure_19 : decode cX7_procedure 19 = .ok (.iconst 4, 1) := by decide +kernel
theorem dX7_procedure_20 : decode cX7_procedure 20 = .ok (.if_icmp .lt 13, 3) := by decide +kernel
theorem dX7_procedure_23 : decode cX7_procedure 23 = .ok (.new 69, 3) := by decide +kernel
theorem dX7_procedure_26 : decode cX7_procedure 26 = .ok (.dup, 1) := by decide +kernel
theorem dX7_procedure_27 : decode cX7_procedure 27 = .ok (.ldc 125, 2) := by decide +kernel
theorem dX7_procedure_29 : decode cX7_procedure 29 = .ok (.invokespecial 73, 3) := by decide +kernel
theorem dX7_procedure_32 : decode cX7_procedure 32 = .ok (.athrow, 1) := by decide +kernel
theorem dX7_procedure_33 : decode cX7_procedure 33 = .ok (.aload_n 0, 1) := by decide +kernel
theorem dX7_procedure_34 : decode cX7_procedure 34 = .ok (.getfield 26, 3) := by decide +kernel
theorem dX7_procedure_37 : decode cX7_procedure 37 = .ok (.iload_n 1, 1) := by decide +kernel
theorem dX7_procedure_38 : decode cX7_procedure 38 = .ok (.iload_n 2, 1) := by decide +kernel
theorem dX7_procedure_39 : decode cX7_procedure 39 = .ok (.invokevirtual 127, 3) := by decide +kernel
theorem dX7_procedure_42 : decode cX7_procedure 42 = .ok (.ireturn, 1) := by decide +kernel
set_option maxRecDepth 20000 in
theorem ggX7_pass_X7_requireArgument : GoodIn wsX7_pass wsX7_requireArgument := goodIn_ca (goodIn_r _ [8, 9, 10] (by decide +kernel) (by decide +kernel)) (goodIn_sub (fun _ h => List.mem_cons_of_mem _ (List.mem_append_right _ h)) (by decide +kernel))
set_option maxRecDepth 20000 in
theorem gX7_pass_X7_requireArgument : GoodIn wsX7_pass (va_wsS RX7 111 yX7_requireArgument wsX7_requireArgument) := goodIn_app (goodIn_of _ (by decide +kernel)) ggX7_pass_X7_requireArgument
set_option maxRecDepth 20000 in
theorem ggX7_pass_X7_unsafeSet : GoodIn wsX7_pass wsX7_unsafeSet := goodIn_r _ [14, 15, 3, 16, 17, 18, 7, 19, 20, 21, 22, 23, 24, 25, 26, 27, 28, 29, 30, 31, 32, 33, 34, 35, 36, 37, 38, 39, 40, 41, 42, 43, 44, 45, 46, 47, 48, 49, 50, 51, 52, 53, 54, 55, 56, 57, 58, 59, 60, 61, 62, 63, 64, 65, 66, 67, 68, 69, 70, 71, 72, 73, 74, 75, 76, 77, 78, 79, 80, 81, 82, 83, 84, 85, 86, 87, 88, 89, 90, 91, 92, 93, 94, 95, 96, 97, 98, 106, 107, 108, 109, 110, 111, 112, 113, 114, 115, 116, 117, 118, 119, 120, 121, 122, 123, 124, 125, 126, 127, 128, 129, 130, 131, 132, 133, 134, 135, 136] (by decide +kernel) (by decide +kernel)
set_option maxRecDepth 20000 in
theorem gX7_pass_X7_unsafeSet : GoodIn wsX7_pass (wsV RX7 131 RX7 yX7_unsafeSet wsX7_unsafeSet) := goodIn_app (goodIn_of _ (by decide +kernel)) ggX7_pass_X7_unsafeSet
set_option maxRecDepth 20000 in
theorem ggX7_pass_J6_bitCount_0f7a4 : GoodIn wsX7_pass wsJ6_bitCount_0f7a4 := goodIn_r _ [102, 103, 104, 105] (by decide +kernel) (by decide +kernel)
set_option maxRecDepth 20000 in
theorem gX7_pass_J6_bitCount_0f7a4 : GoodIn wsX7_pass (va_wsS RX7 135 yJ6_bitCount_0f7a4 wsJ6_bitCount_0f7a4) := goodIn_app (goodIn_of _ (by decide +kernel)) ggX7_pass_J6_bitCount_0f7a4
theorem dX7_pass_0 : decode cX7_pass 0 = .ok (.iload_n 1, 1) := by decide +kernel
theorem dX7_pass_1 : decode cX7_pass 1 = .ok (.iconst 1, 1) := by decide +kernel
theorem dX7_pass_2 : decode cX7_pass 2 = .ok (.bipush 60, 2) := by decide +kernel
theorem dX7_pass_4 : decode cX7_pass 4 = .ok (.invokestatic 111, 3) := by decide +kernel
theorem dX7_pass_7 : decode cX7_pass 7 = .ok (.aload_n 0, 1) := by decide +kernel
theorem dX7_pass_8 : decode cX7_pass 8 = .ok (.getfield 51, 3) := by decide +kernel
theorem dX7_pass_11 : decode cX7_pass 11 = .ok (.iload_n 1, 1) := by decide +kernel
theorem dX7_pass_12 : decode cX7_pass 12 = .ok (.iadd, 1) := by decide +kernel
theorem dX7_pass_13 : decode cX7_pass 13 = .ok (.sipush 399, 3) := by decide +kernel
theorem dX7_pass_16 : decode cX7_pass 16 = .ok (.if_icmp .le 13, 3) := by decide +kernel
theorem dX7_pass_19 : decode cX7_pass 19 = .ok (.new 69, 3) := by decide +kernel
theorem dX7_pass_22 : decode cX7_pass 22 = .ok (.dup, 1) := by decide +kernel
theorem dX7_pass_23 : decode cX7_pass 23 = .ok (.ldc 129, 2) := by decide +kernel
theorem dX7_pass_25 : decode cX7_pass 25 = .ok (.invokespecial 73, 3) := by decide +kernel
theorem dX7_pass_28 : decode cX7_pass 28 = .ok (.athrow, 1) := by decide +kernel
theorem dX7_pass_29 : decode cX7_pass 29 = .ok (.iconst 0, 1) := by decide +kernel
theorem dX7_pass_30 : decode cX7_pass 30 = .ok (.istore_n 2, 1) := by decide +kernel
theorem dX7_pass_31 : decode cX7_pass 31 = .ok (.iconst 0, 1) := by decide +kernel
theorem dX7_pass_32 : decode cX7_pass 32 = .ok (.istore_n 3, 1) := by decide +kernel
theorem dX7_pass_33 : decode cX7_pass 33 = .ok (.iload_n 3, 1) := by decide +kernel
theorem dX7_pass_34 : decode cX7_pass 34 = .ok (.iload_n 1, 1) := by decide +kernel
theorem dX7_pass_35 : decode cX7_pass 35 = .ok (.if_icmp .ge 29, 3) := by decide +kernel
theorem dX7_pass_38 : decode cX7_pass 38 = .ok (.aload_n 0, 1) := by decide +kernel
theorem dX7_pass_39 : decode cX7_pass 39 = .ok (.dup, 1) := by decide +kernel
theorem dX7_pass_40 : decode cX7_pass 40 = .ok (.getfield 51, 3) := by decide +kernel
theorem dX7_pass_43 : decode cX7_pass 43 = .ok (.iconst 1, 1) := by decide +kernel
theorem dX7_pass_44 : decode cX7_pass 44 = .ok (.iadd, 1) := by decide +kernel
theorem dX7_pass_45 : decode cX7_pass 45 = .ok (.putfield 51, 3) := by decide +kernel
theorem dX7_pass_48 : decode cX7_pass 48 = .ok (.iload_n 2, 1) := by decide +kernel
theorem dX7_pass_49 : decode cX7_pass 49 = .ok (.aload_n 0, 1) := by decide +kernel
theorem dX7_pass_50 : decode cX7_pass 50 = .ok (.invokevirtual 131, 3) := by decide +kernel
theorem dX7_pass_53 : decode cX7_pass 53 = .ok (.invokestatic 135, 3) := by decide +kernel
theorem dX7_pass_56 : decode cX7_pass 56 = .ok (.iadd, 1) := by decide +kernel
theorem dX7_pass_57 : decode cX7_pass 57 = .ok (.istore_n 2, 1) := by decide +kernel
theorem dX7_pass_58 : decode cX7_pass 58 = .ok (.iinc 3 1, 3) := by decide +kernel
theorem dX7_pass_61 : decode cX7_pass 61 = .ok (.goto (-28), 3) := by decide +kernel
theorem dX7_pass_64 : decode cX7_pass 64 = .ok (.aload_n 0, 1) := by decide +kernel
theorem dX7_pass_65 : decode cX7_pass 65 = .ok (.dup, 1) := by decide +kernel
theorem dX7_pass_66 : decode cX7_pass 66 = .ok (.getfield 55, 3) := by decide +kernel
theorem dX7_pass_69 : decode cX7_pass 69 = .ok (.iload_n 2, 1) := by decide +kernel
theorem dX7_pass_70 : decode cX7_pass 70 = .ok (.iadd, 1) := by decide +kernel
theorem dX7_pass_71 : decode cX7_pass 71 = .ok (.putfield 55, 3) := by decide +kernel
theorem dX7_pass_74 : decode cX7_pass 74 = .ok (.iload_n 2, 1) := by decide +kernel
theorem dX7_pass_75 : decode cX7_pass 75 = .ok (.ireturn, 1) := by decide +kernel
set_option maxRecDepth 20000 in
theorem ggX7_amend_X7_requireProcedure : GoodIn wsX7_amend wsX7_requireProcedure := goodIn_ca (goodIn_r _ [13, 14, 15, 16, 69, 70, 71, 72, 73, 74, 75, 76, 81, 82, 83] (by decide +kernel) (by decide +kernel)) (goodIn_sub (fun _ h => List.mem_cons_of_mem _ (List.mem_append_right _ h)) (by decide +kernel))
set_option maxRecDepth 20000 in
theorem gX7_amend_X7_requireProcedure : GoodIn wsX7_amend (wsV RX7 140 RX7 yX7_requireProcedure wsX7_requireProcedure) := goodIn_app (goodIn_of _ (by decide +kernel)) ggX7_amend_X7_requireProcedure
set_option maxRecDepth 20000 in
theorem ggX7_amend_X7_leastHeight : GoodIn wsX7_amend wsX7_leastHeight := goodIn_r _ [20, 16, 21, 5, 6, 7, 8, 22, 23, 24, 12, 25, 26, 27, 28, 29, 30, 31, 32, 33, 34, 35, 36, 37, 38, 39, 40, 41, 42, 43, 44, 45, 46, 47, 48, 49, 50, 51, 52, 53, 54, 55, 69, 70, 71, 72, 73, 74, 75, 76, 81, 82, 83, 84, 85, 86, 87, 88, 89, 90, 91, 92] (by decide +kernel) (by decide +kernel)
set_option maxRecDepth 20000 in
theorem gX7_amend_X7_leastHeight : GoodIn wsX7_amend (wsV RX7 146 RX7 yX7_leastHeight wsX7_leastHeight) := goodIn_app (goodIn_of _ (by decide +kernel)) ggX7_amend_X7_leastHeight
set_option maxRecDepth 20000 in
theorem ggX7_amend_X1_add : GoodIn wsX7_amend wsX1_add := goodIn_r _ [60, 61, 62, 63, 64, 65, 66, 67, 30, 68, 32, 77, 78, 79, 80, 92] (by decide +kernel) (by decide +kernel)
set_option maxRecDepth 20000 in
theorem gX7_amend_X1_add : GoodIn wsX7_amend (wsV RX7 150 RX1 yX1_add wsX1_add) := goodIn_app (goodIn_of _ (by decide +kernel)) ggX7_amend_X1_add
theorem dX7_amend_0 : decode cX7_amend 0 = .ok (.aload_n 0, 1) := by decide +kernel
theorem dX7_amend_1 : decode cX7_amend 1 = .ok (.iload_n 1, 1) := by decide +kernel
theorem dX7_amend_2 : decode cX7_amend 2 = .ok (.invokevirtual 140, 3) := by decide +kernel
theorem dX7_amend_5 : decode cX7_amend 5 = .ok (.aload_n 0, 1) := by decide +kernel
theorem dX7_amend_6 : decode cX7_amend 6 = .ok (.getfield 51, 3) := by decide +kernel
theorem dX7_amend_9 : decode cX7_amend 9 = .ok (.bipush 14, 2) := by decide +kernel
theorem dX7_amend_11 : decode cX7_amend 11 = .ok (.iadd, 1) := by decide +kernel
theorem dX7_amend_12 : decode cX7_amend 12 = .ok (.bipush 28, 2) := by decide +kernel
theorem dX7_amend_14 : decode cX7_amend 14 = .ok (.iadd, 1) := by decide +kernel
theorem dX7_amend_15 : decode cX7_amend 15 = .ok (.iconst 1, 1) := by decide +kernel
theorem dX7_amend_16 : decode cX7_amend 16 = .ok (.isub, 1) := by decide +kernel
theorem dX7_amend_17 : decode cX7_amend 17 = .ok (.bipush 28, 2) := by decide +kernel
theorem dX7_amend_19 : decode cX7_amend 19 = .ok (.idiv, 1) := by decide +kernel
theorem dX7_amend_20 : decode cX7_amend 20 = .ok (.bipush 28, 2) := by decide +kernel
theorem dX7_amend_22 : decode cX7_amend 22 = .ok (.imul, 1) := by decide +kernel
theorem dX7_amend_23 : decode cX7_amend 23 = .ok (.istore_n 2, 1) := by decide +kernel
theorem dX7_amend_24 : decode cX7_amend 24 = .ok (.aload_n 0, 1) := by decide +kernel
theorem dX7_amend_25 : decode cX7_amend 25 = .ok (.getfield 33, 3) := by decide +kernel
theorem dX7_amend_28 : decode cX7_amend 28 = .ok (.getfield 143, 3) := by decide +kernel
theorem dX7_amend_31 : decode cX7_amend 31 = .ok (.bipush 20, 2) := by decide +kernel
theorem dX7_amend_33 : decode cX7_amend 33 = .ok (.if_icmp .ge 10, 3) := by decide +kernel
theorem dX7_amend_36 : decode cX7_amend 36 = .ok (.iload_n 2, 1) := by decide +kernel
theorem dX7_amend_37 : decode cX7_amend 37 = .ok (.sipush 399, 3) := by decide +kernel
theorem dX7_amend_40 : decode cX7_amend 40 = .ok (.if_icmp .le 13, 3) := by decide +kernel
theorem dX7_amend_43 : decode cX7_amend 43 = .ok (.new 69, 3) := by decide +kernel
theorem dX7_amend_46 : decode cX7_amend 46 = .ok (.dup, 1) := by decide +kernel
theorem dX7_amend_47 : decode cX7_amend 47 = .ok (.ldc 144, 2) := by decide +kernel
theorem dX7_amend_49 : decode cX7_amend 49 = .ok (.invokespecial 73, 3) := by decide +kernel
theorem dX7_amend_52 : decode cX7_amend 52 = .ok (.athrow, 1) := by decide +kernel
theorem dX7_amend_53 : decode cX7_amend 53 = .ok (.iconst 0, 1) := by decide +kernel
theorem dX7_amend_54 : decode cX7_amend 54 = .ok (.istore_n 3, 1) := by decide +kernel
theorem dX7_amend_55 : decode cX7_amend 55 = .ok (.iload_n 2, 1) := by decide +kernel
theorem dX7_amend_56 : decode cX7_amend 56 = .ok (.istore 4, 2) := by decide +kernel
theorem dX7_amend_58 : decode cX7_amend 58 = .ok (.iload 4, 2) := by decide +kernel
theorem dX7_amend_60 : decode cX7_amend 60 = .ok (.iload_n 2, 1) := by decide +kernel
theorem dX7_amend_61 : decode cX7_amend 61 = .ok (.bipush 28, 2) := by decide +kernel
theorem dX7_amend_63 : decode cX7_amend 63 = .ok (.iadd, 1) := by decide +kernel
theorem dX7_amend_64 : decode cX7_amend 64 = .ok (.if_icmp .ge 30, 3) := by decide +kernel
theorem dX7_amend_67 : decode cX7_amend 67 = .ok (.iload 4, 2) := by decide +kernel
theorem dX7_amend_69 : decode cX7_amend 69 = .ok (.sipush 399, 3) := by decide +kernel
theorem dX7_amend_72 : decode cX7_amend 72 = .ok (.if_icmp .gt 22, 3) := by decide +kernel
theorem dX7_amend_75 : decode cX7_amend 75 = .ok (.iload_n 3, 1) := by decide +kernel
theorem dX7_amend_76 : decode cX7_amend 76 = .ok (.aload_n 0, 1) := by decide +kernel
theorem dX7_amend_77 : decode cX7_amend 77 = .ok (.iload_n 1, 1) := by decide +kernel
theorem dX7_amend_78 : decode cX7_amend 78 = .ok (.iload 4, 2) := by decide +kernel
theorem dX7_amend_80 : decode cX7_amend 80 = .ok (.iconst (-1), 1) := by decide +kernel
theorem dX7_amend_81 : decode cX7_amend 81 = .ok (.invokevirtual 146, 3) := by decide +kernel
theorem dX7_amend_84 : decode cX7_amend 84 = .ok (.invokestatic 98, 3) := by decide +kernel
theorem dX7_amend_87 : decode cX7_amend 87 = .ok (.istore_n 3, 1) := by decide +kernel
theorem dX7_amend_88 : decode cX7_amend 88 = .ok (.iinc 4 1, 3) := by decide +kernel
theorem dX7_amend_91 : decode cX7_amend 91 = .ok (.goto (-33), 3) := by decide +kernel
theorem dX7_amend_94 : decode cX7_amend 94 = .ok (.aload_n 0, 1) := by decide +kernel
theorem dX7_amend_95 : decode cX7_amend 95 = .ok (.getfield 33, 3) := by decide +kernel
theorem dX7_amend_98 : decode cX7_amend 98 = .ok (.iload_n 1, 1) := by decide +kernel
theorem dX7_amend_99 : decode cX7_amend 99 = .ok (.iload_n 2, 1) := by decide +kernel
theorem dX7_amend_100 : decode cX7_amend 100 = .ok (.iload_n 3, 1) := by decide +kernel
theorem dX7_amend_101 : decode cX7_amend 101 = .ok (.invokevirtual 150, 3) := by decide +kernel
theorem dX7_amend_104 : decode cX7_amend 104 = .ok (.iload_n 3, 1) := by decide +kernel
theorem dX7_amend_105 : decode cX7_amend 105 = .ok (.ireturn, 1) := by decide +kernel
set_option maxRecDepth 20000 in
theorem ggX7_raise_X7_requireProcedure : GoodIn wsX7_raise wsX7_requireProcedure := goodIn_ca (goodIn_r _ [6, 7, 8, 9, 43, 44, 45, 46, 47, 48, 49, 50, 51, 52, 53] (by decide +kernel) (by decide +kernel)) (goodIn_sub (fun _ h => List.mem_cons_of_mem _ (List.mem_append_left _ (List.mem_append_left _ (List.mem_append_right _ h)))) (by decide +kernel))
set_option maxRecDepth 20000 in
theorem gX7_raise_X7_requireProcedure : GoodIn wsX7_raise (wsV RX7 140 RX7 yX7_requireProcedure wsX7_requireProcedure) := goodIn_app (goodIn_of _ (by decide +kernel)) ggX7_raise_X7_requireProcedure
set_option maxRecDepth 20000 in
theorem ggX7_raise_X7_requireArgument : GoodIn wsX7_raise wsX7_requireArgument := goodIn_ca (goodIn_r _ [12, 13, 14] (by decide +kernel) (by decide +kernel)) (goodIn_sub (fun _ h => List.mem_cons_of_mem _ (List.mem_append_left _ (List.mem_append_right _ h))) (by decide +kernel))
set_option maxRecDepth 20000 in
theorem gX7_raise_X7_requireArgument : GoodIn wsX7_raise (va_wsS RX7 111 yX7_requireArgument wsX7_requireArgument) := goodIn_app (goodIn_of _ (by decide +kernel)) ggX7_raise_X7_requireArgument
set_option maxRecDepth 20000 in
theorem ggX7_raise_X7_requireDaysToCome : GoodIn wsX7_raise wsX7_requireDaysToCome := goodIn_ca (goodIn_r _ [18, 19, 10, 11, 5, 12, 13, 14, 43, 44, 45, 46, 47, 48, 49, 50] (by decide +kernel) (by decide +kernel)) (goodIn_sub (fun _ h => List.mem_cons_of_mem _ (List.mem_append_left _ (List.mem_append_right _ h))) (by decide +kernel))
set_option maxRecDepth 20000 in
theorem gX7_raise_X7_requireDaysToCome : GoodIn wsX7_raise (wsV RX7 152 RX7 yX7_requireDaysToCome wsX7_requireDaysToCome) := goodIn_app (goodIn_of _ (by decide +kernel)) ggX7_raise_X7_requireDaysToCome
set_option maxRecDepth 20000 in
theorem ggX7_raise_X7_requireNoticeLeft : GoodIn wsX7_raise wsX7_requireNoticeLeft := goodIn_ca (goodIn_r _ [23, 24, 25, 1, 43, 44, 45, 46, 47, 48, 49, 50, 54, 55, 56, 57, 58, 59, 60] (by decide +kernel) (by decide +kernel)) (goodIn_sub (fun _ h => List.mem_cons_of_mem _ (List.mem_append_right _ h)) (by decide +kernel))
set_option maxRecDepth 20000 in
theorem gX7_raise_X7_requireNoticeLeft : GoodIn wsX7_raise (wsV RX7 155 RX7 yX7_requireNoticeLeft wsX7_requireNoticeLeft) := goodIn_app (goodIn_of _ (by decide +kernel)) ggX7_raise_X7_requireNoticeLeft
set_option maxRecDepth 20000 in
theorem ggX7_raise_X3_add : GoodIn wsX7_raise wsX3_add := goodIn_r _ [30, 31, 32, 33, 34, 35, 36, 37, 38, 39, 40, 41, 42, 54, 55, 56, 57, 58, 59, 60, 61] (by decide +kernel) (by decide +kernel)
set_option maxRecDepth 20000 in
theorem gX7_raise_X3_add : GoodIn wsX7_raise (wsV RX7 158 RX3 yX3_add wsX3_add) := goodIn_app (goodIn_of _ (by decide +kernel)) ggX7_raise_X3_add
theorem dX7_raise_0 : decode cX7_raise 0 = .ok (.aload_n 0, 1) := by decide +kernel
theorem dX7_raise_1 : decode cX7_raise 1 = .ok (.iload_n 1, 1) := by decide +kernel
theorem dX7_raise_2 : decode cX7_raise 2 = .ok (.invokevirtual 140, 3) := by decide +kernel
theorem dX7_raise_5 : decode cX7_raise 5 = .ok (.iload_n 2, 1) := by decide +kernel
theorem dX7_raise_6 : decode cX7_raise 6 = .ok (.iconst 1, 1) := by decide +kernel
theorem dX7_raise_7 : decode cX7_raise 7 = .ok (.sipush 500, 3) := by decide +kernel
theorem dX7_raise_10 : decode cX7_raise 10 = .ok (.invokestatic 111, 3) := by decide +kernel
theorem dX7_raise_13 : decode cX7_raise 13 = .ok (.aload_n 0, 1) := by decide +kernel
theorem dX7_raise_14 : decode cX7_raise 14 = .ok (.iload_n 3, 1) := by decide +kernel
theorem dX7_raise_15 : decode cX7_raise 15 = .ok (.iload 4, 2) := by decide +kernel
theorem dX7_raise_17 : decode cX7_raise 17 = .ok (.invokevirtual 152, 3) := by decide +kernel
theorem dX7_raise_20 : decode cX7_raise 20 = .ok (.aload_n 0, 1) := by decide +kernel
theorem dX7_raise_21 : decode cX7_raise 21 = .ok (.invokevirtual 155, 3) := by decide +kernel
theorem dX7_raise_24 : decode cX7_raise 24 = .ok (.aload_n 0, 1) := by decide +kernel
theorem dX7_raise_25 : decode cX7_raise 25 = .ok (.getfield 40, 3) := by decide +kernel
theorem dX7_raise_28 : decode cX7_raise 28 = .ok (.iconst 0, 1) := by decide +kernel
theorem dX7_raise_29 : decode cX7_raise 29 = .ok (.iload_n 1, 1) := by decide +kernel
theorem dX7_raise_30 : decode cX7_raise 30 = .ok (.iload_n 2, 1) := by decide +kernel
theorem dX7_raise_31 : decode cX7_raise 31 = .ok (.iload_n 3, 1) := by decide +kernel
theorem dX7_raise_32 : decode cX7_raise 32 = .ok (.iload 4, 2) := by decide +kernel
theorem dX7_raise_34 : decode cX7_raise 34 = .ok (.invokevirtual 158, 3) := by decide +kernel
theorem dX7_raise_37 : decode cX7_raise 37 = .ok (.ireturn, 1) := by decide +kernel
set_option maxRecDepth 20000 in
theorem ggX7_out_X7_requireAid : GoodIn wsX7_out wsX7_requireAid := goodIn_ca (goodIn_r _ [5, 6, 7] (by decide +kernel) (by decide +kernel)) (goodIn_sub (fun _ h => List.mem_cons_of_mem _ (List.mem_append_left _ (List.mem_append_left _ (List.mem_append_right _ h)))) (by decide +kernel))
set_option maxRecDepth 20000 in
theorem gX7_out_X7_requireAid : GoodIn wsX7_out (va_wsS RX7 108 yX7_requireAid wsX7_requireAid) := goodIn_app (goodIn_of _ (by decide +kernel)) ggX7_out_X7_requireAid
set_option maxRecDepth 20000 in
theorem ggX7_out_X7_requireDaysToCome : GoodIn wsX7_out wsX7_requireDaysToCome := goodIn_ca (goodIn_r _ [11, 12, 13, 14, 4, 15, 16, 17, 41, 42, 43, 44, 45, 46, 47, 48] (by decide +kernel) (by decide +kernel)) (goodIn_sub (fun _ h => List.mem_cons_of_mem _ (List.mem_append_left _ (List.mem_append_right _ h))) (by decide +kernel))
set_option maxRecDepth 20000 in
theorem gX7_out_X7_requireDaysToCome : GoodIn wsX7_out (wsV RX7 152 RX7 yX7_requireDaysToCome wsX7_requireDaysToCome) := goodIn_app (goodIn_of _ (by decide +kernel)) ggX7_out_X7_requireDaysToCome
set_option maxRecDepth 20000 in
theorem ggX7_out_X7_requireNoticeLeft : GoodIn wsX7_out wsX7_requireNoticeLeft := goodIn_ca (goodIn_r _ [21, 22, 23, 1, 41, 42, 43, 44, 45, 46, 47, 48, 49, 50, 51, 52, 53, 54, 55] (by decide +kernel) (by decide +kernel)) (goodIn_sub (fun _ h => List.mem_cons_of_mem _ (List.mem_append_right _ h)) (by decide +kernel))
set_option maxRecDepth 20000 in
theorem gX7_out_X7_requireNoticeLeft : GoodIn wsX7_out (wsV RX7 155 RX7 yX7_requireNoticeLeft wsX7_requireNoticeLeft) := goodIn_app (goodIn_of _ (by decide +kernel)) ggX7_out_X7_requireNoticeLeft
set_option maxRecDepth 20000 in
theorem ggX7_out_X3_add : GoodIn wsX7_out wsX3_add := goodIn_r _ [28, 29, 30, 31, 32, 33, 34, 35, 36, 37, 38, 39, 40, 49, 50, 51, 52, 53, 54, 55, 56] (by decide +kernel) (by decide +kernel)
set_option maxRecDepth 20000 in
theorem gX7_out_X3_add : GoodIn wsX7_out (wsV RX7 158 RX3 yX3_add wsX3_add) := goodIn_app (goodIn_of _ (by decide +kernel)) ggX7_out_X3_add
theorem dX7_out_0 : decode cX7_out 0 = .ok (.iload_n 1, 1) := by decide +kernel
theorem dX7_out_1 : decode cX7_out 1 = .ok (.invokestatic 108, 3) := by decide +kernel
theorem dX7_out_4 : decode cX7_out 4 = .ok (.aload_n 0, 1) := by decide +kernel
theorem dX7_out_5 : decode cX7_out 5 = .ok (.iload_n 2, 1) := by decide +kernel
theorem dX7_out_6 : decode cX7_out 6 = .ok (.iload_n 3, 1) := by decide +kernel
theorem dX7_out_7 : decode cX7_out 7 = .ok (.invokevirtual 152, 3) := by decide +kernel
theorem dX7_out_10 : decode cX7_out 10 = .ok (.aload_n 0, 1) := by decide +kernel
theorem dX7_out_11 : decode cX7_out 11 = .ok (.invokevirtual 155, 3) := by decide +kernel
theorem dX7_out_14 : decode cX7_out 14 = .ok (.aload_n 0, 1) := by decide +kernel
theorem dX7_out_15 : decode cX7_out 15 = .ok (.getfield 40, 3) := by decide +kernel
theorem dX7_out_18 : decode cX7_out 18 = .ok (.iconst 1, 1) := by decide +kernel
theorem dX7_out_19 : decode cX7_out 19 = .ok (.iload_n 1, 1) := by decide +kernel
theorem dX7_out_20 : decode cX7_out 20 = .ok (.iconst 0, 1) := by decide +kernel
theorem dX7_out_21 : decode cX7_out 21 = .ok (.iload_n 2, 1) := by decide +kernel
theorem dX7_out_22 : decode cX7_out 22 = .ok (.iload_n 3, 1) := by decide +kernel
theorem dX7_out_23 : decode cX7_out 23 = .ok (.invokevirtual 158, 3) := by decide +kernel
theorem dX7_out_26 : decode cX7_out 26 = .ok (.ireturn, 1) := by decide +kernel
set_option maxRecDepth 20000 in
theorem ggX7_close_X7_requireProcedure : GoodIn wsX7_close wsX7_requireProcedure := goodIn_ca (goodIn_r _ [6, 7, 8, 9, 43, 44, 45, 46, 47, 48, 49, 50, 51, 52, 53] (by decide +kernel) (by decide +kernel)) (goodIn_sub (fun _ h => List.mem_cons_of_mem _ (List.mem_append_left _ (List.mem_append_left _ (List.mem_append_right _ h)))) (by decide +kernel))
set_option maxRecDepth 20000 in
theorem gX7_close_X7_requireProcedure : GoodIn wsX7_close (wsV RX7 140 RX7 yX7_requireProcedure wsX7_requireProcedure) := goodIn_app (goodIn_of _ (by decide +kernel)) ggX7_close_X7_requireProcedure
set_option maxRecDepth 20000 in
theorem ggX7_close_X7_requireDaysToCome : GoodIn wsX7_close wsX7_requireDaysToCome := goodIn_ca (goodIn_r _ [13, 14, 15, 16, 5, 17, 18, 19, 43, 44, 45, 46, 47, 48, 49, 50] (by decide +kernel) (by decide +kernel)) (goodIn_sub (fun _ h => List.mem_cons_of_mem _ (List.mem_append_left _ (List.mem_append_right _ h))) (by decide +kernel))
set_option maxRecDepth 20000 in
theorem gX7_close_X7_requireDaysToCome : GoodIn wsX7_close (wsV RX7 152 RX7 yX7_requireDaysToCome wsX7_requireDaysToCome) := goodIn_app (goodIn_of _ (by decide +kernel)) ggX7_close_X7_requireDaysToCome
set_option maxRecDepth 20000 in
theorem ggX7_close_X7_requireNoticeLeft : GoodIn wsX7_close wsX7_requireNoticeLeft := goodIn_ca (goodIn_r _ [23, 24, 25, 1, 43, 44, 45, 46, 47, 48, 49, 50, 54, 55, 56, 57, 58, 59, 60] (by decide +kernel) (by decide +kernel)) (goodIn_sub (fun _ h => List.mem_cons_of_mem _ (List.mem_append_right _ h)) (by decide +kernel))
set_option maxRecDepth 20000 in
theorem gX7_close_X7_requireNoticeLeft : GoodIn wsX7_close (wsV RX7 155 RX7 yX7_requireNoticeLeft wsX7_requireNoticeLeft) := goodIn_app (goodIn_of _ (by decide +kernel)) ggX7_close_X7_requireNoticeLeft
set_option maxRecDepth 20000 in
theorem ggX7_close_X3_add : GoodIn wsX7_close wsX3_add := goodIn_r _ [30, 31, 32, 33, 34, 35, 36, 37, 38, 39, 40, 41, 42, 54, 55, 56, 57, 58, 59, 60, 61] (by decide +kernel) (by decide +kernel)
set_option maxRecDepth 20000 in
theorem gX7_close_X3_add : GoodIn wsX7_close (wsV RX7 158 RX3 yX3_add wsX3_add) := goodIn_app (goodIn_of _ (by decide +kernel)) ggX7_close_X3_add
theorem dX7_close_0 : decode cX7_close 0 = .ok (.aload_n 0, 1) := by decide +kernel
theorem dX7_close_1 : decode cX7_close 1 = .ok (.iload_n 1, 1) := by decide +kernel
theorem dX7_close_2 : decode cX7_close 2 = .ok (.invokevirtual 140, 3) := by decide +kernel
theorem dX7_close_5 : decode cX7_close 5 = .ok (.aload_n 0, 1) := by decide +kernel
theorem dX7_close_6 : decode cX7_close 6 = .ok (.iload_n 2, 1) := by decide +kernel
theorem dX7_close_7 : decode cX7_close 7 = .ok (.iload_n 3, 1) := by decide +kernel
theorem dX7_close_8 : decode cX7_close 8 = .ok (.invokevirtual 152, 3) := by decide +kernel
theorem dX7_close_11 : decode cX7_close 11 = .ok (.aload_n 0, 1) := by decide +kernel
theorem dX7_close_12 : decode cX7_close 12 = .ok (.invokevirtual 155, 3) := by decide +kernel
theorem dX7_close_15 : decode cX7_close 15 = .ok (.aload_n 0, 1) := by decide +kernel
theorem dX7_close_16 : decode cX7_close 16 = .ok (.getfield 40, 3) := by decide +kernel
theorem dX7_close_19 : decode cX7_close 19 = .ok (.iconst 2, 1) := by decide +kernel
theorem dX7_close_20 : decode cX7_close 20 = .ok (.iload_n 1, 1) := by decide +kernel
theorem dX7_close_21 : decode cX7_close 21 = .ok (.iconst 0, 1) := by decide +kernel
theorem dX7_close_22 : decode cX7_close 22 = .ok (.iload_n 2, 1) := by decide +kernel
theorem dX7_close_23 : decode cX7_close 23 = .ok (.iload_n 3, 1) := by decide +kernel
theorem dX7_close_24 : decode cX7_close 24 = .ok (.invokevirtual 158, 3) := by decide +kernel
theorem dX7_close_27 : decode cX7_close 27 = .ok (.ireturn, 1) := by decide +kernel
set_option maxRecDepth 20000 in
theorem ggX7_cancel_X7_requireNotice : GoodIn wsX7_cancel wsX7_requireNotice := goodIn_ca (goodIn_r _ [9, 10, 11, 3, 43, 44, 45, 46, 47, 48, 49, 50, 51, 52, 53, 54, 55, 56, 57] (by decide +kernel) (by decide +kernel)) (goodIn_sub (fun _ h => List.mem_cons_of_mem _ (List.mem_append_right _ h)) (by decide +kernel))
set_option maxRecDepth 20000 in
theorem gX7_cancel_X7_requireNotice : GoodIn wsX7_cancel (wsV RX7 159 RX7 yX7_requireNotice wsX7_requireNotice) := goodIn_app (goodIn_of _ (by decide +kernel)) ggX7_cancel_X7_requireNotice
set_option maxRecDepth 20000 in
theorem ggX7_cancel_X6_at : GoodIn wsX7_cancel wsX6_at := goodIn_r _ [16, 17, 58] (by decide +kernel) (by decide +kernel)
set_option maxRecDepth 20000 in
theorem gX7_cancel_X6_at : GoodIn wsX7_cancel (wsV RX7 87 RX6 yX6_at wsX6_at) := goodIn_app (goodIn_of _ (by decide +kernel)) ggX7_cancel_X6_at
set_option maxRecDepth 20000 in
theorem ggX7_cancel_X7_requireNoticeLeft : GoodIn wsX7_cancel wsX7_requireNoticeLeft := goodIn_ca (goodIn_r _ [21, 1, 2, 3, 43, 44, 45, 46, 47, 48, 49, 50, 51, 52, 53, 54, 55, 56, 57] (by decide +kernel) (by decide +kernel)) (goodIn_sub (fun _ h => List.mem_cons_of_mem _ (List.mem_append_left _ (List.mem_append_right _ h))) (by decide +kernel))
set_option maxRecDepth 20000 in
theorem gX7_cancel_X7_requireNoticeLeft : GoodIn wsX7_cancel (wsV RX7 155 RX7 yX7_requireNoticeLeft wsX7_requireNoticeLeft) := goodIn_app (goodIn_of _ (by decide +kernel)) ggX7_cancel_X7_requireNoticeLeft
set_option maxRecDepth 20000 in
theorem ggX7_cancel_X3_addCancel : GoodIn wsX7_cancel wsX3_addCancel := goodIn_r _ [26, 27, 28, 29, 30, 25, 31, 32, 33, 34, 35, 36, 37, 38, 39, 40, 15, 41, 17, 42, 13, 14, 16, 51, 52, 53, 54, 55, 56, 57, 58] (by decide +kernel) (by decide +kernel)
set_option maxRecDepth 20000 in
theorem gX7_cancel_X3_addCancel : GoodIn wsX7_cancel (wsV RX7 165 RX3 yX3_addCancel wsX3_addCancel) := goodIn_app (goodIn_of _ (by decide +kernel)) ggX7_cancel_X3_addCancel
theorem dX7_cancel_0 : decode cX7_cancel 0 = .ok (.aload_n 0, 1) := by decide +kernel
theorem dX7_cancel_1 : decode cX7_cancel 1 = .ok (.iload_n 1, 1) := by decide +kernel
theorem dX7_cancel_2 : decode cX7_cancel 2 = .ok (.invokevirtual 159, 3) := by decide +kernel
theorem dX7_cancel_5 : decode cX7_cancel 5 = .ok (.aload_n 0, 1) := by decide +kernel
theorem dX7_cancel_6 : decode cX7_cancel 6 = .ok (.getfield 40, 3) := by decide +kernel
theorem dX7_cancel_9 : decode cX7_cancel 9 = .ok (.getfield 162, 3) := by decide +kernel
theorem dX7_cancel_12 : decode cX7_cancel 12 = .ok (.iload_n 1, 1) := by decide +kernel
theorem dX7_cancel_13 : decode cX7_cancel 13 = .ok (.invokevirtual 87, 3) := by decide +kernel
theorem dX7_cancel_16 : decode cX7_cancel 16 = .ok (.iconst 3, 1) := by decide +kernel
theorem dX7_cancel_17 : decode cX7_cancel 17 = .ok (.if_icmp .ne 13, 3) := by decide +kernel
theorem dX7_cancel_20 : decode cX7_cancel 20 = .ok (.new 69, 3) := by decide +kernel
theorem dX7_cancel_23 : decode cX7_cancel 23 = .ok (.dup, 1) := by decide +kernel
theorem dX7_cancel_24 : decode cX7_cancel 24 = .ok (.ldc 163, 2) := by decide +kernel
theorem dX7_cancel_26 : decode cX7_cancel 26 = .ok (.invokespecial 73, 3) := by decide +kernel
theorem dX7_cancel_29 : decode cX7_cancel 29 = .ok (.athrow, 1) := by decide +kernel
theorem dX7_cancel_30 : decode cX7_cancel 30 = .ok (.aload_n 0, 1) := by decide +kernel
theorem dX7_cancel_31 : decode cX7_cancel 31 = .ok (.invokevirtual 155, 3) := by decide +kernel
theorem dX7_cancel_34 : decode cX7_cancel 34 = .ok (.aload_n 0, 1) := by decide +kernel
theorem dX7_cancel_35 : decode cX7_cancel 35 = .ok (.getfield 40, 3) := by decide +kernel
theorem dX7_cancel_38 : decode cX7_cancel 38 = .ok (.iload_n 1, 1) := by decide +kernel
theorem dX7_cancel_39 : decode cX7_cancel 39 = .ok (.aload_n 0, 1) := by decide +kernel
theorem dX7_cancel_40 : decode cX7_cancel 40 = .ok (.getfield 51, 3) := by decide +kernel
theorem dX7_cancel_43 : decode cX7_cancel 43 = .ok (.invokevirtual 165, 3) := by decide +kernel
theorem dX7_cancel_46 : decode cX7_cancel 46 = .ok (.ireturn, 1) := by decide +kernel
set_option maxRecDepth 20000 in
theorem ggX7_load_X7_requireCrew : GoodIn wsX7_load wsX7_requireCrew := goodIn_ca (goodIn_r _ [6, 7, 8] (by decide +kernel) (by decide +kernel)) (goodIn_sub (fun _ h => List.mem_cons_of_mem _ (List.mem_append_right _ h)) (by decide +kernel))
set_option maxRecDepth 20000 in
theorem gX7_load_X7_requireCrew : GoodIn wsX7_load (va_wsS RX7 168 yX7_requireCrew wsX7_requireCrew) := goodIn_app (goodIn_of _ (by decide +kernel)) ggX7_load_X7_requireCrew
set_option maxRecDepth 20000 in
theorem ggX7_load_X6_at : GoodIn wsX7_load wsX6_at := goodIn_r _ [13, 14, 29] (by decide +kernel) (by decide +kernel)
set_option maxRecDepth 20000 in
theorem gX7_load_X6_at : GoodIn wsX7_load (wsV RX7 87 RX6 yX6_at wsX6_at) := goodIn_app (goodIn_of _ (by decide +kernel)) ggX7_load_X6_at
set_option maxRecDepth 20000 in
theorem ggX7_load_X6_put : GoodIn wsX7_load wsX6_put := goodIn_r _ [18, 14, 29] (by decide +kernel) (by decide +kernel)
set_option maxRecDepth 20000 in
theorem gX7_load_X6_put : GoodIn wsX7_load (wsV RX7 104 RX6 yX6_put wsX6_put) := goodIn_app (goodIn_of _ (by decide +kernel)) ggX7_load_X6_put
theorem dX7_load_0 : decode cX7_load 0 = .ok (.iload_n 1, 1) := by decide +kernel
theorem dX7_load_1 : decode cX7_load 1 = .ok (.invokestatic 168, 3) := by decide +kernel
theorem dX7_load_4 : decode cX7_load 4 = .ok (.aload_n 0, 1) := by decide +kernel
theorem dX7_load_5 : decode cX7_load 5 = .ok (.getfield 47, 3) := by decide +kernel
theorem dX7_load_8 : decode cX7_load 8 = .ok (.getfield 171, 3) := by decide +kernel
theorem dX7_load_11 : decode cX7_load 11 = .ok (.iload_n 1, 1) := by decide +kernel
theorem dX7_load_12 : decode cX7_load 12 = .ok (.invokevirtual 87, 3) := by decide +kernel
theorem dX7_load_15 : decode cX7_load 15 = .ok (.istore_n 2, 1) := by decide +kernel
theorem dX7_load_16 : decode cX7_load 16 = .ok (.aload_n 0, 1) := by decide +kernel
theorem dX7_load_17 : decode cX7_load 17 = .ok (.getfield 47, 3) := by decide +kernel
theorem dX7_load_20 : decode cX7_load 20 = .ok (.getfield 171, 3) := by decide +kernel
theorem dX7_load_23 : decode cX7_load 23 = .ok (.iload_n 1, 1) := by decide +kernel
theorem dX7_load_24 : decode cX7_load 24 = .ok (.aload_n 0, 1) := by decide +kernel
theorem dX7_load_25 : decode cX7_load 25 = .ok (.getfield 51, 3) := by decide +kernel
theorem dX7_load_28 : decode cX7_load 28 = .ok (.invokevirtual 104, 3) := by decide +kernel
theorem dX7_load_31 : decode cX7_load 31 = .ok (.iload_n 2, 1) := by decide +kernel
theorem dX7_load_32 : decode cX7_load 32 = .ok (.ireturn, 1) := by decide +kernel
set_option maxRecDepth 20000 in
theorem ggX7_read_X7_requireCrew : GoodIn wsX7_read wsX7_requireCrew := goodIn_ca (goodIn_r _ [6, 7, 8] (by decide +kernel) (by decide +kernel)) (goodIn_sub (fun _ h => List.mem_cons_of_mem _ (List.mem_append_right _ h)) (by decide +kernel))
set_option maxRecDepth 20000 in
theorem gX7_read_X7_requireCrew : GoodIn wsX7_read (va_wsS RX7 168 yX7_requireCrew wsX7_requireCrew) := goodIn_app (goodIn_of _ (by decide +kernel)) ggX7_read_X7_requireCrew
set_option maxRecDepth 20000 in
theorem ggX7_read_X6_at : GoodIn wsX7_read wsX6_at := goodIn_r _ [13, 14, 36] (by decide +kernel) (by decide +kernel)
set_option maxRecDepth 20000 in
theorem gX7_read_X6_at : GoodIn wsX7_read (wsV RX7 87 RX6 yX6_at wsX6_at) := goodIn_app (goodIn_of _ (by decide +kernel)) ggX7_read_X6_at
set_option maxRecDepth 20000 in
theorem ggX7_read_X6_put : GoodIn wsX7_read wsX6_put := goodIn_r _ [18, 14, 36] (by decide +kernel) (by decide +kernel)
set_option maxRecDepth 20000 in
theorem gX7_read_X6_put : GoodIn wsX7_read (wsV RX7 104 RX6 yX6_put wsX6_put) := goodIn_app (goodIn_of _ (by decide +kernel)) ggX7_read_X6_put
theorem dX7_read_0 : decode cX7_read 0 = .ok (.iload_n 1, 1) := by decide +kernel
theorem dX7_read_1 : decode cX7_read 1 = .ok (.invokestatic 168, 3) := by decide +kernel
theorem dX7_read_4 : decode cX7_read 4 = .ok (.aload_n 0, 1) := by decide +kernel
theorem dX7_read_5 : decode cX7_read 5 = .ok (.getfield 47, 3) := by decide +kernel
theorem dX7_read_8 : decode cX7_read 8 = .ok (.getfield 174, 3) := by decide +kernel
theorem dX7_read_11 : decode cX7_read 11 = .ok (.iload_n 1, 1) := by decide +kernel
theorem dX7_read_12 : decode cX7_read 12 = .ok (.invokevirtual 87, 3) := by decide +kernel
theorem dX7_read_15 : decode cX7_read 15 = .ok (.istore_n 2, 1) := by decide +kernel
theorem dX7_read_16 : decode cX7_read 16 = .ok (.aload_n 0, 1) := by decide +kernel
theorem dX7_read_17 : decode cX7_read 17 = .ok (.getfield 47, 3) := by decide +kernel
theorem dX7_read_20 : decode cX7_read 20 = .ok (.getfield 174, 3) := by decide +kernel
theorem dX7_read_23 : decode cX7_read 23 = .ok (.iload_n 1, 1) := by decide +kernel
theorem dX7_read_24 : decode cX7_read 24 = .ok (.aload_n 0, 1) := by decide +kernel
theorem dX7_read_25 : decode cX7_read 25 = .ok (.getfield 40, 3) := by decide +kernel
theorem dX7_read_28 : decode cX7_read 28 = .ok (.getfield 177, 3) := by decide +kernel
theorem dX7_read_31 : decode cX7_read 31 = .ok (.invokevirtual 104, 3) := by decide +kernel
theorem dX7_read_34 : decode cX7_read 34 = .ok (.aload_n 0, 1) := by decide +kernel
theorem dX7_read_35 : decode cX7_read 35 = .ok (.getfield 40, 3) := by decide +kernel
theorem dX7_read_38 : decode cX7_read 38 = .ok (.getfield 177, 3) := by decide +kernel
theorem dX7_read_41 : decode cX7_read 41 = .ok (.iload_n 2, 1) := by decide +kernel
theorem dX7_read_42 : decode cX7_read 42 = .ok (.isub, 1) := by decide +kernel
theorem dX7_read_43 : decode cX7_read 43 = .ok (.ireturn, 1) := by decide +kernel
set_option maxRecDepth 20000 in
theorem ggX7_ofObstacle_X7_requireObstacle : GoodIn wsX7_ofObstacle wsX7_requireObstacle := goodIn_ca (goodIn_r _ [6, 7, 8, 1, 20, 21, 22, 23, 24, 25, 26, 27, 28, 29, 30, 31, 32, 33] (by decide +kernel) (by decide +kernel)) (goodIn_sub (fun _ h => List.mem_cons_of_mem _ (List.mem_append_left _ (List.mem_append_right _ h))) (by decide +kernel))
set_option maxRecDepth 20000 in
theorem gX7_ofObstacle_X7_requireObstacle : GoodIn wsX7_ofObstacle (wsV RX7 80 RX7 yX7_requireObstacle wsX7_requireObstacle) := goodIn_app (goodIn_of _ (by decide +kernel)) ggX7_ofObstacle_X7_requireObstacle
set_option maxRecDepth 20000 in
theorem ggX7_ofObstacle_X7_requireArgument : GoodIn wsX7_ofObstacle wsX7_requireArgument := goodIn_ca (goodIn_r _ [11, 12, 13] (by decide +kernel) (by decide +kernel)) (goodIn_sub (fun _ h => List.mem_cons_of_mem _ (List.mem_append_right _ h)) (by decide +kernel))
set_option maxRecDepth 20000 in
theorem gX7_ofObstacle_X7_requireArgument : GoodIn wsX7_ofObstacle (va_wsS RX7 111 yX7_requireArgument wsX7_requireArgument) := goodIn_app (goodIn_of _ (by decide +kernel)) ggX7_ofObstacle_X7_requireArgument
set_option maxRecDepth 20000 in
theorem ggX7_ofObstacle_X6_at : GoodIn wsX7_ofObstacle wsX6_at := goodIn_r _ [18, 19, 34] (by decide +kernel) (by decide +kernel)
set_option maxRecDepth 20000 in
theorem gX7_ofObstacle_X6_at : GoodIn wsX7_ofObstacle (wsV RX7 87 RX6 yX6_at wsX6_at) := goodIn_app (goodIn_of _ (by decide +kernel)) ggX7_ofObstacle_X6_at
theorem dX7_ofObstacle_0 : decode cX7_ofObstacle 0 = .ok (.aload_n 0, 1) := by decide +kernel
theorem dX7_ofObstacle_1 : decode cX7_ofObstacle 1 = .ok (.iload_n 1, 1) := by decide +kernel
theorem dX7_ofObstacle_2 : decode cX7_ofObstacle 2 = .ok (.invokevirtual 80, 3) := by decide +kernel
theorem dX7_ofObstacle_5 : decode cX7_ofObstacle 5 = .ok (.iload_n 2, 1) := by decide +kernel
theorem dX7_ofObstacle_6 : decode cX7_ofObstacle 6 = .ok (.iconst 0, 1) := by decide +kernel
theorem dX7_ofObstacle_7 : decode cX7_ofObstacle 7 = .ok (.iconst 4, 1) := by decide +kernel
theorem dX7_ofObstacle_8 : decode cX7_ofObstacle 8 = .ok (.invokestatic 111, 3) := by decide +kernel
theorem dX7_ofObstacle_11 : decode cX7_ofObstacle 11 = .ok (.iload_n 2, 1) := by decide +kernel
theorem dX7_ofObstacle_12 : decode cX7_ofObstacle 12 = .ok (.tableswitch 80 0 3 #[32, 44, 56, 68], 32) := by decide +kernel
theorem dX7_ofObstacle_44 : decode cX7_ofObstacle 44 = .ok (.aload_n 0, 1) := by decide +kernel
theorem dX7_ofObstacle_45 : decode cX7_ofObstacle 45 = .ok (.getfield 10, 3) := by decide +kernel
theorem dX7_ofObstacle_48 : decode cX7_ofObstacle 48 = .ok (.getfield 178, 3) := by decide +kernel
theorem dX7_ofObstacle_51 : decode cX7_ofObstacle 51 = .ok (.iload_n 1, 1) := by decide +kernel
theorem dX7_ofObstacle_52 : decode cX7_ofObstacle 52 = .ok (.invokevirtual 87, 3) := by decide +kernel
theorem dX7_ofObstacle_55 : decode cX7_ofObstacle 55 = .ok (.ireturn, 1) := by decide +kernel
theorem dX7_ofObstacle_56 : decode cX7_ofObstacle 56 = .ok (.aload_n 0, 1) := by decide +kernel
theorem dX7_ofObstacle_57 : decode cX7_ofObstacle 57 = .ok (.getfield 10, 3) := by decide +kernel
theorem dX7_ofObstacle_60 : decode cX7_ofObstacle 60 = .ok (.getfield 181, 3) := by decide +kernel
theorem dX7_ofObstacle_63 : decode cX7_ofObstacle 63 = .ok (.iload_n 1, 1) := by decide +kernel
theorem dX7_ofObstacle_64 : decode cX7_ofObstacle 64 = .ok (.invokevirtual 87, 3) := by decide +kernel
theorem dX7_ofObstacle_67 : decode cX7_ofObstacle 67 = .ok (.ireturn, 1) := by decide +kernel
theorem dX7_ofObstacle_68 : decode cX7_ofObstacle 68 = .ok (.aload_n 0, 1) := by decide +kernel
theorem dX7_ofObstacle_69 : decode cX7_ofObstacle 69 = .ok (.getfield 10, 3) := by decide +kernel
theorem dX7_ofObstacle_72 : decode cX7_ofObstacle 72 = .ok (.getfield 184, 3) := by decide +kernel
theorem dX7_ofObstacle_75 : decode cX7_ofObstacle 75 = .ok (.iload_n 1, 1) := by decide +kernel
theorem dX7_ofObstacle_76 : decode cX7_ofObstacle 76 = .ok (.invokevirtual 87, 3) := by decide +kernel
theorem dX7_ofObstacle_79 : decode cX7_ofObstacle 79 = .ok (.ireturn, 1) := by decide +kernel
theorem dX7_ofObstacle_80 : decode cX7_ofObstacle 80 = .ok (.aload_n 0, 1) := by decide +kernel
theorem dX7_ofObstacle_81 : decode cX7_ofObstacle 81 = .ok (.getfield 10, 3) := by decide +kernel
theorem dX7_ofObstacle_84 : decode cX7_ofObstacle 84 = .ok (.getfield 95, 3) := by decide +kernel
theorem dX7_ofObstacle_87 : decode cX7_ofObstacle 87 = .ok (.iload_n 1, 1) := by decide +kernel
theorem dX7_ofObstacle_88 : decode cX7_ofObstacle 88 = .ok (.invokevirtual 87, 3) := by decide +kernel
theorem dX7_ofObstacle_91 : decode cX7_ofObstacle 91 = .ok (.ireturn, 1) := by decide +kernel
theorem dX7_ofObstacle_92 : decode cX7_ofObstacle 92 = .ok (.aload_n 0, 1) := by decide +kernel
theorem dX7_ofObstacle_93 : decode cX7_ofObstacle 93 = .ok (.getfield 10, 3) := by decide +kernel
theorem dX7_ofObstacle_96 : decode cX7_ofObstacle 96 = .ok (.getfield 83, 3) := by decide +kernel
theorem dX7_ofObstacle_99 : decode cX7_ofObstacle 99 = .ok (.iload_n 1, 1) := by decide +kernel
theorem dX7_ofObstacle_100 : decode cX7_ofObstacle 100 = .ok (.invokevirtual 87, 3) := by decide +kernel
theorem dX7_ofObstacle_103 : decode cX7_ofObstacle 103 = .ok (.ireturn, 1) := by decide +kernel
set_option maxRecDepth 20000 in
theorem ggX7_demanded_X7_requireProcedure : GoodIn wsX7_demanded wsX7_requireProcedure := goodIn_ca (goodIn_r _ [5, 6, 7, 8, 63, 64, 65, 66, 67, 68, 69, 70, 71, 72, 73] (by decide +kernel) (by decide +kernel)) (goodIn_sub (fun _ h => List.mem_cons_of_mem _ (List.mem_append_left _ (List.mem_append_right _ h))) (by decide +kernel))
set_option maxRecDepth 20000 in
theorem gX7_demanded_X7_requireProcedure : GoodIn wsX7_demanded (wsV RX7 140 RX7 yX7_requireProcedure wsX7_requireProcedure) := goodIn_app (goodIn_of _ (by decide +kernel)) ggX7_demanded_X7_requireProcedure
set_option maxRecDepth 20000 in
theorem ggX7_demanded_X7_requireDay : GoodIn wsX7_demanded wsX7_requireDay := goodIn_ca (goodIn_r _ [11, 12, 13, 4, 14, 15, 16] (by decide +kernel) (by decide +kernel)) (goodIn_sub (fun _ h => List.mem_cons_of_mem _ (List.mem_append_right _ h)) (by decide +kernel))
set_option maxRecDepth 20000 in
theorem gX7_demanded_X7_requireDay : GoodIn wsX7_demanded (va_wsS RX7 187 yX7_requireDay wsX7_requireDay) := goodIn_app (goodIn_of _ (by decide +kernel)) ggX7_demanded_X7_requireDay
set_option maxRecDepth 20000 in
theorem ggX7_demanded_X7_requireCategory : GoodIn wsX7_demanded wsX7_requireCategory := goodIn_ca (goodIn_r _ [19, 12, 13, 4, 14, 15, 16] (by decide +kernel) (by decide +kernel)) (goodIn_sub (fun _ h => List.mem_cons_of_mem _ (List.mem_append_right _ h)) (by decide +kernel))
set_option maxRecDepth 20000 in
theorem gX7_demanded_X7_requireCategory : GoodIn wsX7_demanded (va_wsS RX7 190 yX7_requireCategory wsX7_requireCategory) := goodIn_app (goodIn_of _ (by decide +kernel)) ggX7_demanded_X7_requireCategory
set_option maxRecDepth 20000 in
theorem ggX7_demanded_X7_leastHeight : GoodIn wsX7_demanded wsX7_leastHeight := goodIn_r _ [23, 8, 24, 25, 26, 27, 28, 29, 30, 31, 4, 32, 33, 34, 35, 36, 37, 38, 39, 40, 41, 42, 43, 44, 45, 46, 47, 48, 49, 50, 51, 52, 53, 54, 55, 56, 57, 58, 59, 60, 61, 62, 63, 64, 65, 66, 67, 68, 69, 70, 71, 72, 73, 74, 75, 76, 77, 78, 79, 80, 81, 82] (by decide +kernel) (by decide +kernel)
set_option maxRecDepth 20000 in
theorem gX7_demanded_X7_leastHeight : GoodIn wsX7_demanded (wsV RX7 146 RX7 yX7_leastHeight wsX7_leastHeight) := goodIn_app (goodIn_of _ (by decide +kernel)) ggX7_demanded_X7_leastHeight
theorem dX7_demanded_0 : decode cX7_demanded 0 = .ok (.aload_n 0, 1) := by decide +kernel
theorem dX7_demanded_1 : decode cX7_demanded 1 = .ok (.iload_n 1, 1) := by decide +kernel
theorem dX7_demanded_2 : decode cX7_demanded 2 = .ok (.invokevirtual 140, 3) := by decide +kernel
theorem dX7_demanded_5 : decode cX7_demanded 5 = .ok (.iload_n 2, 1) := by decide +kernel
theorem dX7_demanded_6 : decode cX7_demanded 6 = .ok (.invokestatic 187, 3) := by decide +kernel
theorem dX7_demanded_9 : decode cX7_demanded 9 = .ok (.iload_n 3, 1) := by decide +kernel
theorem dX7_demanded_10 : decode cX7_demanded 10 = .ok (.invokestatic 190, 3) := by decide +kernel
theorem dX7_demanded_13 : decode cX7_demanded 13 = .ok (.aload_n 0, 1) := by decide +kernel
theorem dX7_demanded_14 : decode cX7_demanded 14 = .ok (.iload_n 1, 1) := by decide +kernel
theorem dX7_demanded_15 : decode cX7_demanded 15 = .ok (.iload_n 2, 1) := by decide +kernel
theorem dX7_demanded_16 : decode cX7_demanded 16 = .ok (.iconst (-1), 1) := by decide +kernel
theorem dX7_demanded_17 : decode cX7_demanded 17 = .ok (.invokevirtual 146, 3) := by decide +kernel
theorem dX7_demanded_20 : decode cX7_demanded 20 = .ok (.bipush 10, 2) := by decide +kernel
theorem dX7_demanded_22 : decode cX7_demanded 22 = .ok (.iload_n 3, 1) := by decide +kernel
theorem dX7_demanded_23 : decode cX7_demanded 23 = .ok (.imul, 1) := by decide +kernel
theorem dX7_demanded_24 : decode cX7_demanded 24 = .ok (.iadd, 1) := by decide +kernel
theorem dX7_demanded_25 : decode cX7_demanded 25 = .ok (.ireturn, 1) := by decide +kernel
set_option maxRecDepth 20000 in
theorem ggX7_decides_X7_requireProcedure : GoodIn wsX7_decides wsX7_requireProcedure := goodIn_ca (goodIn_r _ [6, 7, 8, 9, 60, 61, 62, 63, 64, 65, 66, 67, 74, 75, 76] (by decide +kernel) (by decide +kernel)) (goodIn_sub (fun _ h => List.mem_cons_of_mem _ (List.mem_append_left _ (List.mem_append_right _ h))) (by decide +kernel))
set_option maxRecDepth 20000 in
theorem gX7_decides_X7_requireProcedure : GoodIn wsX7_decides (wsV RX7 140 RX7 yX7_requireProcedure wsX7_requireProcedure) := goodIn_app (goodIn_of _ (by decide +kernel)) ggX7_decides_X7_requireProcedure
set_option maxRecDepth 20000 in
theorem ggX7_decides_X7_requireDay : GoodIn wsX7_decides wsX7_requireDay := goodIn_ca (goodIn_r _ [12, 13, 14, 5, 15, 16, 17] (by decide +kernel) (by decide +kernel)) (goodIn_sub (fun _ h => List.mem_cons_of_mem _ (List.mem_append_right _ h)) (by decide +kernel))
set_option maxRecDepth 20000 in
theorem gX7_decides_X7_requireDay : GoodIn wsX7_decides (va_wsS RX7 187 yX7_requireDay wsX7_requireDay) := goodIn_app (goodIn_of _ (by decide +kernel)) ggX7_decides_X7_requireDay
set_option maxRecDepth 20000 in
theorem ggX7_decides_X7_leastHeight : GoodIn wsX7_decides wsX7_leastHeight := goodIn_r _ [21, 9, 1, 22, 23, 24, 25, 26, 27, 28, 5, 29, 30, 31, 32, 33, 34, 35, 36, 37, 38, 39, 40, 41, 42, 43, 44, 45, 46, 47, 48, 49, 50, 51, 52, 53, 54, 55, 56, 57, 58, 59, 60, 61, 62, 63, 64, 65, 66, 67, 74, 75, 76, 68, 69, 70, 71, 72, 73, 77, 78, 79] (by decide +kernel) (by decide +kernel)
set_option maxRecDepth 20000 in
theorem gX7_decides_X7_leastHeight : GoodIn wsX7_decides (wsV RX7 146 RX7 yX7_leastHeight wsX7_leastHeight) := goodIn_app (goodIn_of _ (by decide +kernel)) ggX7_decides_X7_leastHeight
theorem dX7_decides_0 : decode cX7_decides 0 = .ok (.aload_n 0, 1) := by decide +kernel
theorem dX7_decides_1 : decode cX7_decides 1 = .ok (.iload_n 1, 1) := by decide +kernel
theorem dX7_decides_2 : decode cX7_decides 2 = .ok (.invokevirtual 140, 3) := by decide +kernel
theorem dX7_decides_5 : decode cX7_decides 5 = .ok (.iload_n 2, 1) := by decide +kernel
theorem dX7_decides_6 : decode cX7_decides 6 = .ok (.invokestatic 187, 3) := by decide +kernel
theorem dX7_decides_9 : decode cX7_decides 9 = .ok (.aload_n 0, 1) := by decide +kernel
theorem dX7_decides_10 : decode cX7_decides 10 = .ok (.iload_n 1, 1) := by decide +kernel
theorem dX7_decides_11 : decode cX7_decides 11 = .ok (.iload_n 2, 1) := by decide +kernel
theorem dX7_decides_12 : decode cX7_decides 12 = .ok (.iconst (-1), 1) := by decide +kernel
theorem dX7_decides_13 : decode cX7_decides 13 = .ok (.invokevirtual 146, 3) := by decide +kernel
theorem dX7_decides_16 : decode cX7_decides 16 = .ok (.istore_n 3, 1) := by decide +kernel
theorem dX7_decides_17 : decode cX7_decides 17 = .ok (.iconst (-1), 1) := by decide +kernel
theorem dX7_decides_18 : decode cX7_decides 18 = .ok (.istore 4, 2) := by decide +kernel
theorem dX7_decides_20 : decode cX7_decides 20 = .ok (.iconst 0, 1) := by decide +kernel
theorem dX7_decides_21 : decode cX7_decides 21 = .ok (.istore 5, 2) := by decide +kernel
theorem dX7_decides_23 : decode cX7_decides 23 = .ok (.iload 5, 2) := by decide +kernel
theorem dX7_decides_25 : decode cX7_decides 25 = .ok (.aload_n 0, 1) := by decide +kernel
theorem dX7_decides_26 : decode cX7_decides 26 = .ok (.getfield 10, 3) := by decide +kernel
theorem dX7_decides_29 : decode cX7_decides 29 = .ok (.getfield 66, 3) := by decide +kernel
theorem dX7_decides_32 : decode cX7_decides 32 = .ok (.if_icmp .ge 32, 3) := by decide +kernel
theorem dX7_decides_35 : decode cX7_decides 35 = .ok (.aload_n 0, 1) := by decide +kernel
theorem dX7_decides_36 : decode cX7_decides 36 = .ok (.iload_n 1, 1) := by decide +kernel
theorem dX7_decides_37 : decode cX7_decides 37 = .ok (.iload_n 2, 1) := by decide +kernel
theorem dX7_decides_38 : decode cX7_decides 38 = .ok (.iload 5, 2) := by decide +kernel
theorem dX7_decides_40 : decode cX7_decides 40 = .ok (.invokevirtual 146, 3) := by decide +kernel
theorem dX7_decides_43 : decode cX7_decides 43 = .ok (.istore 6, 2) := by decide +kernel
theorem dX7_decides_45 : decode cX7_decides 45 = .ok (.iload 6, 2) := by decide +kernel
theorem dX7_decides_47 : decode cX7_decides 47 = .ok (.iload_n 3, 1) := by decide +kernel
theorem dX7_decides_48 : decode cX7_decides 48 = .ok (.if_icmp .ge 10, 3) := by decide +kernel
theorem dX7_decides_51 : decode cX7_decides 51 = .ok (.iload 6, 2) := by decide +kernel
theorem dX7_decides_53 : decode cX7_decides 53 = .ok (.istore_n 3, 1) := by decide +kernel
theorem dX7_decides_54 : decode cX7_decides 54 = .ok (.iload 5, 2) := by decide +kernel
theorem dX7_decides_56 : decode cX7_decides 56 = .ok (.istore 4, 2) := by decide +kernel
theorem dX7_decides_58 : decode cX7_decides 58 = .ok (.iinc 5 1, 3) := by decide +kernel
theorem dX7_decides_61 : decode cX7_decides 61 = .ok (.goto (-38), 3) := by decide +kernel
theorem dX7_decides_64 : decode cX7_decides 64 = .ok (.iload 4, 2) := by decide +kernel
theorem dX7_decides_66 : decode cX7_decides 66 = .ok (.ireturn, 1) := by decide +kernel
set_option maxRecDepth 20000 in
theorem ggX7_chart_X7_requireProcedure : GoodIn wsX7_chart wsX7_requireProcedure := goodIn_ca (goodIn_r _ [6, 7, 8, 9, 33, 34, 35, 36, 37, 38, 39, 40, 41, 42, 43] (by decide +kernel) (by decide +kernel)) (goodIn_sub (fun _ h => List.mem_cons_of_mem _ (List.mem_append_left _ (List.mem_append_right _ h))) (by decide +kernel))
set_option maxRecDepth 20000 in
theorem gX7_chart_X7_requireProcedure : GoodIn wsX7_chart (wsV RX7 140 RX7 yX7_requireProcedure wsX7_requireProcedure) := goodIn_app (goodIn_of _ (by decide +kernel)) ggX7_chart_X7_requireProcedure
set_option maxRecDepth 20000 in
theorem ggX7_chart_X7_requireDay : GoodIn wsX7_chart wsX7_requireDay := goodIn_ca (goodIn_r _ [12, 13, 14, 5, 15, 16, 17] (by decide +kernel) (by decide +kernel)) (goodIn_sub (fun _ h => List.mem_cons_of_mem _ (List.mem_append_right _ h)) (by decide +kernel))
set_option maxRecDepth 20000 in
theorem gX7_chart_X7_requireDay : GoodIn wsX7_chart (va_wsS RX7 187 yX7_requireDay wsX7_requireDay) := goodIn_app (goodIn_of _ (by decide +kernel)) ggX7_chart_X7_requireDay
set_option maxRecDepth 20000 in
theorem ggX7_chart_X1_heightOn : GoodIn wsX7_chart wsX1_heightOn := goodIn_r _ [22, 23, 24, 25, 26, 27, 28, 29, 30, 31, 32, 44, 45, 46, 47, 48] (by decide +kernel) (by decide +kernel)
set_option maxRecDepth 20000 in
theorem gX7_chart_X1_heightOn : GoodIn wsX7_chart (wsV RX7 193 RX1 yX1_heightOn wsX1_heightOn) := goodIn_app (goodIn_of _ (by decide +kernel)) ggX7_chart_X1_heightOn
theorem dX7_chart_0 : decode cX7_chart 0 = .ok (.aload_n 0, 1) := by decide +kernel
theorem dX7_chart_1 : decode cX7_chart 1 = .ok (.iload_n 1, 1) := by decide +kernel
theorem dX7_chart_2 : decode cX7_chart 2 = .ok (.invokevirtual 140, 3) := by decide +kernel
theorem dX7_chart_5 : decode cX7_chart 5 = .ok (.iload_n 2, 1) := by decide +kernel
theorem dX7_chart_6 : decode cX7_chart 6 = .ok (.invokestatic 187, 3) := by decide +kernel
theorem dX7_chart_9 : decode cX7_chart 9 = .ok (.aload_n 0, 1) := by decide +kernel
theorem dX7_chart_10 : decode cX7_chart 10 = .ok (.getfield 33, 3) := by decide +kernel
theorem dX7_chart_13 : decode cX7_chart 13 = .ok (.iload_n 1, 1) := by decide +kernel
theorem dX7_chart_14 : decode cX7_chart 14 = .ok (.iload_n 2, 1) := by decide +kernel
theorem dX7_chart_15 : decode cX7_chart 15 = .ok (.invokevirtual 193, 3) := by decide +kernel
theorem dX7_chart_18 : decode cX7_chart 18 = .ok (.ireturn, 1) := by decide +kernel
set_option maxRecDepth 20000 in
theorem ggX7_inForce_X7_requireProcedure : GoodIn wsX7_inForce wsX7_requireProcedure := goodIn_ca (goodIn_r _ [5, 6, 7, 8, 73, 74, 75, 76, 77, 78, 79, 80, 81, 82, 83] (by decide +kernel) (by decide +kernel)) (goodIn_sub (fun _ h => List.mem_cons_of_mem _ (List.mem_append_left _ (List.mem_append_right _ h))) (by decide +kernel))
set_option maxRecDepth 20000 in
theorem gX7_inForce_X7_requireProcedure : GoodIn wsX7_inForce (wsV RX7 140 RX7 yX7_requireProcedure wsX7_requireProcedure) := goodIn_app (goodIn_of _ (by decide +kernel)) ggX7_inForce_X7_requireProcedure
set_option maxRecDepth 20000 in
theorem ggX7_inForce_X7_requireDay : GoodIn wsX7_inForce wsX7_requireDay := goodIn_ca (goodIn_r _ [11, 12, 13, 4, 14, 15, 16] (by decide +kernel) (by decide +kernel)) (goodIn_sub (fun _ h => List.mem_cons_of_mem _ (List.mem_append_right _ h)) (by decide +kernel))
set_option maxRecDepth 20000 in
theorem gX7_inForce_X7_requireDay : GoodIn wsX7_inForce (va_wsS RX7 187 yX7_requireDay wsX7_requireDay) := goodIn_app (goodIn_of _ (by decide +kernel)) ggX7_inForce_X7_requireDay
set_option maxRecDepth 20000 in
theorem ggX7_inForce_X7_requireCategory : GoodIn wsX7_inForce wsX7_requireCategory := goodIn_ca (goodIn_r _ [19, 12, 13, 4, 14, 15, 16] (by decide +kernel) (by decide +kernel)) (goodIn_sub (fun _ h => List.mem_cons_of_mem _ (List.mem_append_right _ h)) (by decide +kernel))
set_option maxRecDepth 20000 in
theorem gX7_inForce_X7_requireCategory : GoodIn wsX7_inForce (va_wsS RX7 190 yX7_requireCategory wsX7_requireCategory) := goodIn_app (goodIn_of _ (by decide +kernel)) ggX7_inForce_X7_requireCategory
set_option maxRecDepth 20000 in
theorem ggX7_inForce_X7_heightInForce : GoodIn wsX7_inForce wsX7_heightInForce := goodIn_r _ [23, 8, 24, 25, 26, 27, 28, 29, 30, 31, 32, 33, 34, 35, 36, 37, 38, 39, 40, 41, 42, 43, 44, 45, 46, 47, 48, 49, 50, 51, 52, 53, 54, 55, 56, 57, 58, 59, 60, 61, 62, 63, 64, 65, 66, 67, 68, 69, 73, 74, 75, 76, 77, 78, 79, 80, 81, 82, 83, 84, 85, 86, 87, 88, 89, 90, 91, 92, 93, 94, 95, 96, 97] (by decide +kernel) (by decide +kernel)
set_option maxRecDepth 20000 in
theorem gX7_inForce_X7_heightInForce : GoodIn wsX7_inForce (wsV RX7 196 RX7 yX7_heightInForce wsX7_heightInForce) := goodIn_app (goodIn_of _ (by decide +kernel)) ggX7_inForce_X7_heightInForce
set_option maxRecDepth 20000 in
theorem ggX7_inForce_X7_forCategory : GoodIn wsX7_inForce wsX7_forCategory := goodIn_r _ [72] (by decide +kernel) (by decide +kernel)
set_option maxRecDepth 20000 in
theorem gX7_inForce_X7_forCategory : GoodIn wsX7_inForce (va_wsS RX7 199 yX7_forCategory wsX7_forCategory) := goodIn_app (goodIn_of _ (by decide +kernel)) ggX7_inForce_X7_forCategory
theorem dX7_inForce_0 : decode cX7_inForce 0 = .ok (.aload_n 0, 1) := by decide +kernel
theorem dX7_inForce_1 : decode cX7_inForce 1 = .ok (.iload_n 1, 1) := by decide +kernel
theorem dX7_inForce_2 : decode cX7_inForce 2 = .ok (.invokevirtual 140, 3) := by decide +kernel
theorem dX7_inForce_5 : decode cX7_inForce 5 = .ok (.iload_n 2, 1) := by decide +kernel
theorem dX7_inForce_6 : decode cX7_inForce 6 = .ok (.invokestatic 187, 3) := by decide +kernel
theorem dX7_inForce_9 : decode cX7_inForce 9 = .ok (.iload_n 3, 1) := by decide +kernel
theorem dX7_inForce_10 : decode cX7_inForce 10 = .ok (.invokestatic 190, 3) := by decide +kernel
theorem dX7_inForce_13 : decode cX7_inForce 13 = .ok (.aload_n 0, 1) := by decide +kernel
theorem dX7_inForce_14 : decode cX7_inForce 14 = .ok (.iload_n 1, 1) := by decide +kernel
theorem dX7_inForce_15 : decode cX7_inForce 15 = .ok (.iload_n 2, 1) := by decide +kernel
theorem dX7_inForce_16 : decode cX7_inForce 16 = .ok (.invokevirtual 196, 3) := by decide +kernel
theorem dX7_inForce_19 : decode cX7_inForce 19 = .ok (.iload_n 3, 1) := by decide +kernel
theorem dX7_inForce_20 : decode cX7_inForce 20 = .ok (.invokestatic 199, 3) := by decide +kernel
theorem dX7_inForce_23 : decode cX7_inForce 23 = .ok (.ireturn, 1) := by decide +kernel
set_option maxRecDepth 20000 in
theorem ggX7_ofNotice_X7_requireNotice : GoodIn wsX7_ofNotice wsX7_requireNotice := goodIn_ca (goodIn_r _ [7, 8, 9, 1, 31, 32, 33, 34, 35, 36, 37, 38, 39, 40, 41, 42, 43, 44, 45] (by decide +kernel) (by decide +kernel)) (goodIn_sub (fun _ h => List.mem_cons_of_mem _ (List.mem_append_left _ (List.mem_append_right _ h))) (by decide +kernel))
set_option maxRecDepth 20000 in
theorem gX7_ofNotice_X7_requireNotice : GoodIn wsX7_ofNotice (wsV RX7 159 RX7 yX7_requireNotice wsX7_requireNotice) := goodIn_app (goodIn_of _ (by decide +kernel)) ggX7_ofNotice_X7_requireNotice
set_option maxRecDepth 20000 in
theorem ggX7_ofNotice_X7_requireArgument : GoodIn wsX7_ofNotice wsX7_requireArgument := goodIn_ca (goodIn_r _ [12, 13, 14] (by decide +kernel) (by decide +kernel)) (goodIn_sub (fun _ h => List.mem_cons_of_mem _ (List.mem_append_right _ h)) (by decide +kernel))
set_option maxRecDepth 20000 in
theorem gX7_ofNotice_X7_requireArgument : GoodIn wsX7_ofNotice (va_wsS RX7 111 yX7_requireArgument wsX7_requireArgument) := goodIn_app (goodIn_of _ (by decide +kernel)) ggX7_ofNotice_X7_requireArgument
set_option maxRecDepth 20000 in
theorem ggX7_ofNotice_X6_at : GoodIn wsX7_ofNotice wsX6_at := goodIn_r _ [19, 20, 46] (by decide +kernel) (by decide +kernel)
set_option maxRecDepth 20000 in
theorem gX7_ofNotice_X6_at : GoodIn wsX7_ofNotice (wsV RX7 87 RX6 yX6_at wsX6_at) := goodIn_app (goodIn_of _ (by decide +kernel)) ggX7_ofNotice_X6_at
set_option maxRecDepth 20000 in
theorem ggX7_ofNotice_X3_isActive : GoodIn wsX7_ofNotice wsX3_isActive := goodIn_r _ [25, 26, 27, 28, 29, 30, 16, 17, 18, 19, 20, 39, 40, 41, 42, 43, 44, 45, 46] (by decide +kernel) (by decide +kernel)
set_option maxRecDepth 20000 in
theorem gX7_ofNotice_X3_isActive : GoodIn wsX7_ofNotice (wsV RX7 210 RX3 yX3_isActive wsX3_isActive) := goodIn_app (goodIn_of _ (by decide +kernel)) ggX7_ofNotice_X3_isActive
theorem dX7_ofNotice_0 : decode cX7_ofNotice 0 = .ok (.aload_n 0, 1) := by decide +kernel
theorem dX7_ofNotice_1 : decode cX7_ofNotice 1 = .ok (.iload_n 1, 1) := by decide +kernel
theorem dX7_ofNotice_2 : decode cX7_ofNotice 2 = .ok (.invokevirtual 159, 3) := by decide +kernel
theorem dX7_ofNotice_5 : decode cX7_ofNotice 5 = .ok (.iload_n 2, 1) := by decide +kernel
theorem dX7_ofNotice_6 : decode cX7_ofNotice 6 = .ok (.iconst 0, 1) := by decide +kernel
theorem dX7_ofNotice_7 : decode cX7_ofNotice 7 = .ok (.iconst 5, 1) := by decide +kernel
theorem dX7_ofNotice_8 : decode cX7_ofNotice 8 = .ok (.invokestatic 111, 3) := by decide +kernel
theorem dX7_ofNotice_11 : decode cX7_ofNotice 11 = .ok (.iload_n 2, 1) := by decide +kernel
theorem dX7_ofNotice_12 : decode cX7_ofNotice 12 = .ok (.tableswitch 96 0 4 #[36, 48, 60, 72, 84], 36) := by decide +kernel
theorem dX7_ofNotice_48 : decode cX7_ofNotice 48 = .ok (.aload_n 0, 1) := by decide +kernel
theorem dX7_ofNotice_49 : decode cX7_ofNotice 49 = .ok (.getfield 40, 3) := by decide +kernel
theorem dX7_ofNotice_52 : decode cX7_ofNotice 52 = .ok (.getfield 162, 3) := by decide +kernel
theorem dX7_ofNotice_55 : decode cX7_ofNotice 55 = .ok (.iload_n 1, 1) := by decide +kernel
theorem dX7_ofNotice_56 : decode cX7_ofNotice 56 = .ok (.invokevirtual 87, 3) := by decide +kernel
theorem dX7_ofNotice_59 : decode cX7_ofNotice 59 = .ok (.ireturn, 1) := by decide +kernel
theorem dX7_ofNotice_60 : decode cX7_ofNotice 60 = .ok (.aload_n 0, 1) := by decide +kernel
theorem dX7_ofNotice_61 : decode cX7_ofNotice 61 = .ok (.getfield 40, 3) := by decide +kernel
theorem dX7_ofNotice_64 : decode cX7_ofNotice 64 = .ok (.getfield 202, 3) := by decide +kernel
theorem dX7_ofNotice_67 : decode cX7_ofNotice 67 = .ok (.iload_n 1, 1) := by decide +kernel
theorem dX7_ofNotice_68 : decode cX7_ofNotice 68 = .ok (.invokevirtual 87, 3) := by decide +kernel
theorem dX7_ofNotice_71 : decode cX7_ofNotice 71 = .ok (.ireturn, 1) := by decide +kernel
theorem dX7_ofNotice_72 : decode cX7_ofNotice 72 = .ok (.aload_n 0, 1) := by decide +kernel
theorem dX7_ofNotice_73 : decode cX7_ofNotice 73 = .ok (.getfield 40, 3) := by decide +kernel
theorem dX7_ofNotice_76 : decode cX7_ofNotice 76 = .ok (.getfield 205, 3) := by decide +kernel
theorem dX7_ofNotice_79 : decode cX7_ofNotice 79 = .ok (.iload_n 1, 1) := by decide +kernel
theorem dX7_ofNotice_80 : decode cX7_ofNotice 80 = .ok (.invokevirtual 87, 3) := by decide +kernel
theorem dX7_ofNotice_83 : decode cX7_ofNotice 83 = .ok (.ireturn, 1) := by decide +kernel
theorem dX7_ofNotice_84 : decode cX7_ofNotice 84 = .ok (.aload_n 0, 1) := by decide +kernel
theorem dX7_ofNotice_85 : decode cX7_ofNotice 85 = .ok (.getfield 40, 3) := by decide +kernel
theorem dX7_ofNotice_88 : decode cX7_ofNotice 88 = .ok (.getfield 208, 3) := by decide +kernel
theorem dX7_ofNotice_91 : decode cX7_ofNotice 91 = .ok (.iload_n 1, 1) := by decide +kernel
theorem dX7_ofNotice_92 : decode cX7_ofNotice 92 = .ok (.invokevirtual 87, 3) := by decide +kernel
theorem dX7_ofNotice_95 : decode cX7_ofNotice 95 = .ok (.ireturn, 1) := by decide +kernel
theorem dX7_ofNotice_96 : decode cX7_ofNotice 96 = .ok (.aload_n 0, 1) := by decide +kernel
theorem dX7_ofNotice_97 : decode cX7_ofNotice 97 = .ok (.getfield 40, 3) := by decide +kernel
theorem dX7_ofNotice_100 : decode cX7_ofNotice 100 = .ok (.getfield 209, 3) := by decide +kernel
theorem dX7_ofNotice_103 : decode cX7_ofNotice 103 = .ok (.iload_n 1, 1) := by decide +kernel
theorem dX7_ofNotice_104 : decode cX7_ofNotice 104 = .ok (.invokevirtual 87, 3) := by decide +kernel
theorem dX7_ofNotice_107 : decode cX7_ofNotice 107 = .ok (.ireturn, 1) := by decide +kernel
theorem dX7_ofNotice_108 : decode cX7_ofNotice 108 = .ok (.aload_n 0, 1) := by decide +kernel
theorem dX7_ofNotice_109 : decode cX7_ofNotice 109 = .ok (.getfield 40, 3) := by decide +kernel
theorem dX7_ofNotice_112 : decode cX7_ofNotice 112 = .ok (.getfield 162, 3) := by decide +kernel
theorem dX7_ofNotice_115 : decode cX7_ofNotice 115 = .ok (.iload_n 1, 1) := by decide +kernel
theorem dX7_ofNotice_116 : decode cX7_ofNotice 116 = .ok (.invokevirtual 87, 3) := by decide +kernel
theorem dX7_ofNotice_119 : decode cX7_ofNotice 119 = .ok (.iconst 3, 1) := by decide +kernel
theorem dX7_ofNotice_120 : decode cX7_ofNotice 120 = .ok (.if_icmp .eq 25, 3) := by decide +kernel
theorem dX7_ofNotice_123 : decode cX7_ofNotice 123 = .ok (.aload_n 0, 1) := by decide +kernel
theorem dX7_ofNotice_124 : decode cX7_ofNotice 124 = .ok (.getfield 40, 3) := by decide +kernel
theorem dX7_ofNotice_127 : decode cX7_ofNotice 127 = .ok (.iload_n 1, 1) := by decide +kernel
theorem dX7_ofNotice_128 : decode cX7_ofNotice 128 = .ok (.aload_n 0, 1) := by decide +kernel
theorem dX7_ofNotice_129 : decode cX7_ofNotice 129 = .ok (.getfield 51, 3) := by decide +kernel
theorem dX7_ofNotice_132 : decode cX7_ofNotice 132 = .ok (.aload_n 0, 1) := by decide +kernel
theorem dX7_ofNotice_133 : decode cX7_ofNotice 133 = .ok (.getfield 40, 3) := by decide +kernel
theorem dX7_ofNotice_136 : decode cX7_ofNotice 136 = .ok (.getfield 177, 3) := by decide +kernel
theorem dX7_ofNotice_139 : decode cX7_ofNotice 139 = .ok (.invokevirtual 210, 3) := by decide +kernel
theorem dX7_ofNotice_142 : decode cX7_ofNotice 142 = .ok (.ifCond .eq 7, 3) := by decide +kernel
theorem dX7_ofNotice_145 : decode cX7_ofNotice 145 = .ok (.iconst 1, 1) := by decide +kernel
theorem dX7_ofNotice_146 : decode cX7_ofNotice 146 = .ok (.goto 4, 3) := by decide +kernel
theorem dX7_ofNotice_149 : decode cX7_ofNotice 149 = .ok (.iconst 0, 1) := by decide +kernel
theorem dX7_ofNotice_150 : decode cX7_ofNotice 150 = .ok (.ireturn, 1) := by decide +kernel
set_option maxRecDepth 20000 in
theorem ggX7_believes_X7_requireCrew : GoodIn wsX7_believes wsX7_requireCrew := goodIn_ca (goodIn_r _ [5, 6, 7] (by decide +kernel) (by decide +kernel)) (goodIn_sub (fun _ h => List.mem_cons_of_mem _ (List.mem_append_left _ (List.mem_append_right _ h))) (by decide +kernel))
set_option maxRecDepth 20000 in
theorem gX7_believes_X7_requireCrew : GoodIn wsX7_believes (va_wsS RX7 168 yX7_requireCrew wsX7_requireCrew) := goodIn_app (goodIn_of _ (by decide +kernel)) ggX7_believes_X7_requireCrew
set_option maxRecDepth 20000 in
theorem ggX7_believes_X7_requireProcedure : GoodIn wsX7_believes wsX7_requireProcedure := goodIn_ca (goodIn_r _ [11, 6, 7, 12, 67, 68, 69, 70, 71, 72, 73, 74, 75, 76, 77] (by decide +kernel) (by decide +kernel)) (goodIn_sub (fun _ h => List.mem_cons_of_mem _ (List.mem_append_left _ (List.mem_append_right _ h))) (by decide +kernel))
set_option maxRecDepth 20000 in
theorem gX7_believes_X7_requireProcedure : GoodIn wsX7_believes (wsV RX7 140 RX7 yX7_requireProcedure wsX7_requireProcedure) := goodIn_app (goodIn_of _ (by decide +kernel)) ggX7_believes_X7_requireProcedure
set_option maxRecDepth 20000 in
theorem ggX7_believes_X7_requireArgument : GoodIn wsX7_believes wsX7_requireArgument := goodIn_ca (goodIn_r _ [15, 16, 17] (by decide +kernel) (by decide +kernel)) (goodIn_sub (fun _ h => List.mem_cons_of_mem _ (List.mem_append_right _ h)) (by decide +kernel))
set_option maxRecDepth 20000 in
theorem gX7_believes_X7_requireArgument : GoodIn wsX7_believes (va_wsS RX7 111 yX7_requireArgument wsX7_requireArgument) := goodIn_app (goodIn_of _ (by decide +kernel)) ggX7_believes_X7_requireArgument
set_option maxRecDepth 20000 in
theorem ggX7_believes_X7_requireCategory : GoodIn wsX7_believes wsX7_requireCategory := goodIn_ca (goodIn_r _ [20, 13, 14, 4, 15, 16, 17] (by decide +kernel) (by decide +kernel)) (goodIn_sub (fun _ h => List.mem_cons_of_mem _ (List.mem_append_right _ h)) (by decide +kernel))
set_option maxRecDepth 20000 in
theorem gX7_believes_X7_requireCategory : GoodIn wsX7_believes (va_wsS RX7 190 yX7_requireCategory wsX7_requireCategory) := goodIn_app (goodIn_of _ (by decide +kernel)) ggX7_believes_X7_requireCategory
set_option maxRecDepth 20000 in
theorem ggX7_believes_X7_heightBelieved : GoodIn wsX7_believes wsX7_heightBelieved := goodIn_r _ [24, 25, 26, 27, 12, 28, 29, 30, 31, 32, 33, 34, 35, 36, 37, 38, 39, 40, 41, 42, 43, 44, 45, 46, 47, 48, 49, 50, 51, 52, 53, 54, 55, 56, 57, 58, 59, 60, 61, 62, 63, 67, 68, 69, 70, 71, 72, 73, 74, 78, 79, 75, 76, 77, 80, 81, 82, 83, 84, 85, 86, 87, 88, 89, 90, 91] (by decide +kernel) (by decide +kernel)
set_option maxRecDepth 20000 in
theorem gX7_believes_X7_heightBelieved : GoodIn wsX7_believes (wsV RX7 214 RX7 yX7_heightBelieved wsX7_heightBelieved) := goodIn_app (goodIn_of _ (by decide +kernel)) ggX7_believes_X7_heightBelieved
set_option maxRecDepth 20000 in
theorem ggX7_believes_X7_forCategory : GoodIn wsX7_believes wsX7_forCategory := goodIn_r _ [66] (by decide +kernel) (by decide +kernel)
set_option maxRecDepth 20000 in
theorem gX7_believes_X7_forCategory : GoodIn wsX7_believes (va_wsS RX7 199 yX7_forCategory wsX7_forCategory) := goodIn_app (goodIn_of _ (by decide +kernel)) ggX7_believes_X7_forCategory
theorem dX7_believes_0 : decode cX7_believes 0 = .ok (.iload_n 1, 1) := by decide +kernel
theorem dX7_believes_1 : decode cX7_believes 1 = .ok (.invokestatic 168, 3) := by decide +kernel
theorem dX7_believes_4 : decode cX7_believes 4 = .ok (.aload_n 0, 1) := by decide +kernel
theorem dX7_believes_5 : decode cX7_believes 5 = .ok (.iload_n 2, 1) := by decide +kernel
theorem dX7_believes_6 : decode cX7_believes 6 = .ok (.invokevirtual 140, 3) := by decide +kernel
theorem dX7_believes_9 : decode cX7_believes 9 = .ok (.iload_n 3, 1) := by decide +kernel
theorem dX7_believes_10 : decode cX7_believes 10 = .ok (.aload_n 0, 1) := by decide +kernel
theorem dX7_believes_11 : decode cX7_believes 11 = .ok (.getfield 51, 3) := by decide +kernel
theorem dX7_believes_14 : decode cX7_believes 14 = .ok (.sipush 399, 3) := by decide +kernel
theorem dX7_believes_17 : decode cX7_believes 17 = .ok (.invokestatic 111, 3) := by decide +kernel
theorem dX7_believes_20 : decode cX7_believes 20 = .ok (.iload 4, 2) := by decide +kernel
theorem dX7_believes_22 : decode cX7_believes 22 = .ok (.invokestatic 190, 3) := by decide +kernel
theorem dX7_believes_25 : decode cX7_believes 25 = .ok (.aload_n 0, 1) := by decide +kernel
theorem dX7_believes_26 : decode cX7_believes 26 = .ok (.iload_n 1, 1) := by decide +kernel
theorem dX7_believes_27 : decode cX7_believes 27 = .ok (.iload_n 2, 1) := by decide +kernel
theorem dX7_believes_28 : decode cX7_believes 28 = .ok (.iload_n 3, 1) := by decide +kernel
theorem dX7_believes_29 : decode cX7_believes 29 = .ok (.invokevirtual 214, 3) := by decide +kernel
theorem dX7_believes_32 : decode cX7_believes 32 = .ok (.iload 4, 2) := by decide +kernel
theorem dX7_believes_34 : decode cX7_believes 34 = .ok (.invokestatic 199, 3) := by decide +kernel
theorem dX7_believes_37 : decode cX7_believes 37 = .ok (.ireturn, 1) := by decide +kernel
set_option maxRecDepth 20000 in
theorem ggX7_misled_X7_requireCrew : GoodIn wsX7_misled wsX7_requireCrew := goodIn_ca (goodIn_r _ [6, 7, 8] (by decide +kernel) (by decide +kernel)) (goodIn_sub (fun _ h => List.mem_cons_of_mem _ (List.mem_append_right _ h)) (by decide +kernel))
set_option maxRecDepth 20000 in
theorem gX7_misled_X7_requireCrew : GoodIn wsX7_misled (va_wsS RX7 168 yX7_requireCrew wsX7_requireCrew) := goodIn_app (goodIn_of _ (by decide +kernel)) ggX7_misled_X7_requireCrew
set_option maxRecDepth 20000 in
theorem ggX7_misled_X7_heightBelieved : GoodIn wsX7_misled wsX7_heightBelieved := goodIn_r _ [12, 13, 14, 15, 1, 16, 17, 18, 19, 20, 21, 22, 23, 24, 25, 26, 27, 28, 29, 30, 31, 32, 33, 34, 35, 36, 37, 38, 39, 40, 41, 42, 43, 44, 45, 46, 47, 48, 49, 50, 51, 64, 65, 66, 67, 68, 69, 70, 71, 75, 76, 72, 73, 74, 77, 78, 79, 80, 81, 82, 83, 84, 85, 86, 87, 88] (by decide +kernel) (by decide +kernel)
set_option maxRecDepth 20000 in
theorem gX7_misled_X7_heightBelieved : GoodIn wsX7_misled (wsV RX7 214 RX7 yX7_heightBelieved wsX7_heightBelieved) := goodIn_app (goodIn_of _ (by decide +kernel)) ggX7_misled_X7_heightBelieved
set_option maxRecDepth 20000 in
theorem ggX7_misled_X7_heightInForce : GoodIn wsX7_misled wsX7_heightInForce := goodIn_r _ [55, 1, 56, 14, 15, 16, 17, 18, 19, 20, 21, 57, 58, 59, 60, 61, 62, 63, 22, 23, 24, 25, 26, 27, 28, 29, 30, 31, 32, 33, 34, 35, 36, 37, 38, 39, 40, 41, 42, 43, 44, 45, 46, 47, 48, 49, 50, 51, 64, 65, 66, 67, 68, 69, 70, 71, 72, 73, 74, 82, 83, 84, 85, 86, 87, 88, 77, 89, 90, 78, 79, 80, 81] (by decide +kernel) (by decide +kernel)
set_option maxRecDepth 20000 in
theorem gX7_misled_X7_heightInForce : GoodIn wsX7_misled (wsV RX7 196 RX7 yX7_heightInForce wsX7_heightInForce) := goodIn_app (goodIn_of _ (by decide +kernel)) ggX7_misled_X7_heightInForce
theorem dX7_misled_0 : decode cX7_misled 0 = .ok (.iload_n 1, 1) := by decide +kernel
theorem dX7_misled_1 : decode cX7_misled 1 = .ok (.invokestatic 168, 3) := by decide +kernel
theorem dX7_misled_4 : decode cX7_misled 4 = .ok (.iconst 0, 1) := by decide +kernel
theorem dX7_misled_5 : decode cX7_misled 5 = .ok (.istore_n 2, 1) := by decide +kernel
theorem dX7_misled_6 : decode cX7_misled 6 = .ok (.iconst 0, 1) := by decide +kernel
theorem dX7_misled_7 : decode cX7_misled 7 = .ok (.istore_n 3, 1) := by decide +kernel
theorem dX7_misled_8 : decode cX7_misled 8 = .ok (.iload_n 3, 1) := by decide +kernel
theorem dX7_misled_9 : decode cX7_misled 9 = .ok (.aload_n 0, 1) := by decide +kernel
theorem dX7_misled_10 : decode cX7_misled 10 = .ok (.getfield 26, 3) := by decide +kernel
theorem dX7_misled_13 : decode cX7_misled 13 = .ok (.getfield 124, 3) := by decide +kernel
theorem dX7_misled_16 : decode cX7_misled 16 = .ok (.if_icmp .ge 57, 3) := by decide +kernel
theorem dX7_misled_19 : decode cX7_misled 19 = .ok (.aload_n 0, 1) := by decide +kernel
theorem dX7_misled_20 : decode cX7_misled 20 = .ok (.iload_n 1, 1) := by decide +kernel
theorem dX7_misled_21 : decode cX7_misled 21 = .ok (.iload_n 3, 1) := by decide +kernel
theorem dX7_misled_22 : decode cX7_misled 22 = .ok (.aload_n 0, 1) := by decide +kernel
theorem dX7_misled_23 : decode cX7_misled 23 = .ok (.getfield 51, 3) := by decide +kernel
theorem dX7_misled_26 : decode cX7_misled 26 = .ok (.invokevirtual 214, 3) := by decide +kernel
theorem dX7_misled_29 : decode cX7_misled 29 = .ok (.istore 4, 2) := by decide +kernel
theorem dX7_misled_31 : decode cX7_misled 31 = .ok (.aload_n 0, 1) := by decide +kernel
theorem dX7_misled_32 : decode cX7_misled 32 = .ok (.iload_n 3, 1) := by decide +kernel
theorem dX7_misled_33 : decode cX7_misled 33 = .ok (.aload_n 0, 1) := by decide +kernel
theorem dX7_misled_34 : decode cX7_misled 34 = .ok (.getfield 51, 3) := by decide +kernel
theorem dX7_misled_37 : decode cX7_misled 37 = .ok (.invokevirtual 196, 3) := by decide +kernel
theorem dX7_misled_40 : decode cX7_misled 40 = .ok (.istore 5, 2) := by decide +kernel
theorem dX7_misled_42 : decode cX7_misled 42 = .ok (.iload 4, 2) := by decide +kernel
theorem dX7_misled_44 : decode cX7_misled 44 = .ok (.iconst (-1), 1) := by decide +kernel
theorem dX7_misled_45 : decode cX7_misled 45 = .ok (.if_icmp .eq 22, 3) := by decide +kernel
theorem dX7_misled_48 : decode cX7_misled 48 = .ok (.iload 5, 2) := by decide +kernel
theorem dX7_misled_50 : decode cX7_misled 50 = .ok (.iconst (-1), 1) := by decide +kernel
theorem dX7_misled_51 : decode cX7_misled 51 = .ok (.if_icmp .eq 10, 3) := by decide +kernel
theorem dX7_misled_54 : decode cX7_misled 54 = .ok (.iload 5, 2) := by decide +kernel
theorem dX7_misled_56 : decode cX7_misled 56 = .ok (.iload 4, 2) := by decide +kernel
theorem dX7_misled_58 : decode cX7_misled 58 = .ok (.if_icmp .le 9, 3) := by decide +kernel
theorem dX7_misled_61 : decode cX7_misled 61 = .ok (.iload_n 2, 1) := by decide +kernel
theorem dX7_misled_62 : decode cX7_misled 62 = .ok (.iconst 1, 1) := by decide +kernel
theorem dX7_misled_63 : decode cX7_misled 63 = .ok (.iload_n 3, 1) := by decide +kernel
theorem dX7_misled_64 : decode cX7_misled 64 = .ok (.ishl, 1) := by decide +kernel
theorem dX7_misled_65 : decode cX7_misled 65 = .ok (.ior, 1) := by decide +kernel
theorem dX7_misled_66 : decode cX7_misled 66 = .ok (.istore_n 2, 1) := by decide +kernel
theorem dX7_misled_67 : decode cX7_misled 67 = .ok (.iinc 3 1, 3) := by decide +kernel
theorem dX7_misled_70 : decode cX7_misled 70 = .ok (.goto (-62), 3) := by decide +kernel
theorem dX7_misled_73 : decode cX7_misled 73 = .ok (.iload_n 2, 1) := by decide +kernel
theorem dX7_misled_74 : decode cX7_misled 74 = .ok (.ireturn, 1) := by decide +kernel
set_option maxRecDepth 20000 in
theorem ggX7_many_X7_requireArgument : GoodIn wsX7_many wsX7_requireArgument := goodIn_ca (goodIn_r _ [12, 13, 14] (by decide +kernel) (by decide +kernel)) (goodIn_sub (fun _ h => List.mem_cons_of_mem _ (List.mem_append_right _ h)) (by decide +kernel))
set_option maxRecDepth 20000 in
theorem gX7_many_X7_requireArgument : GoodIn wsX7_many (va_wsS RX7 111 yX7_requireArgument wsX7_requireArgument) := goodIn_app (goodIn_of _ (by decide +kernel)) ggX7_many_X7_requireArgument
set_option maxRecDepth 20000 in
theorem ggX7_many_X6_at : GoodIn wsX7_many wsX6_at := goodIn_r _ [19, 20, 140] (by decide +kernel) (by decide +kernel)
set_option maxRecDepth 20000 in
theorem gX7_many_X6_at : GoodIn wsX7_many (wsV RX7 87 RX6 yX6_at wsX6_at) := goodIn_app (goodIn_of _ (by decide +kernel)) ggX7_many_X6_at
set_option maxRecDepth 20000 in
theorem ggX7_many_X3_activeOn : GoodIn wsX7_many wsX3_activeOn := goodIn_r _ [25, 26, 27, 28, 29, 24, 30, 31, 32, 33, 34, 35, 16, 17, 18, 19, 20, 133, 134, 135, 136, 137, 138, 139, 140] (by decide +kernel) (by decide +kernel)
set_option maxRecDepth 20000 in
theorem gX7_many_X3_activeOn : GoodIn wsX7_many (wsV RX7 217 RX3 yX3_activeOn wsX3_activeOn) := goodIn_app (goodIn_of _ (by decide +kernel)) ggX7_many_X3_activeOn
set_option maxRecDepth 20000 in
theorem ggX7_many_X0_goodOn : GoodIn wsX7_many wsX0_goodOn := goodIn_r _ [40, 41, 42, 43, 39, 44, 45, 46, 16, 17, 18, 19, 20, 118, 119, 140] (by decide +kernel) (by decide +kernel)
set_option maxRecDepth 20000 in
theorem gX7_many_X0_goodOn : GoodIn wsX7_many (wsV RX7 220 RX0 yX0_goodOn wsX0_goodOn) := goodIn_app (goodIn_of _ (by decide +kernel)) ggX7_many_X0_goodOn
set_option maxRecDepth 20000 in
theorem ggX7_many_X7_unsafeSet : GoodIn wsX7_many wsX7_unsafeSet := goodIn_r _ [50, 5, 4, 51, 52, 53, 11, 54, 2, 6, 7, 15, 16, 17, 18, 19, 20, 55, 42, 43, 39, 44, 45, 46, 56, 57, 58, 59, 60, 61, 62, 63, 64, 65, 66, 67, 68, 24, 69, 70, 31, 71, 72, 73, 74, 75, 27, 28, 29, 30, 32, 33, 34, 35, 76, 77, 78, 79, 3, 80, 81, 82, 83, 84, 85, 86, 87, 88, 89, 90, 91, 92, 93, 94, 95, 96, 97, 98, 99, 100, 101, 102, 103, 104, 105, 106, 107, 108, 109, 110, 111, 112, 113, 114, 115, 126, 127, 128, 133, 134, 135, 136, 137, 138, 139, 140, 118, 119, 129, 130, 131, 132, 120, 121, 122, 123, 124, 125] (by decide +kernel) (by decide +kernel)
set_option maxRecDepth 20000 in
theorem gX7_many_X7_unsafeSet : GoodIn wsX7_many (wsV RX7 131 RX7 yX7_unsafeSet wsX7_unsafeSet) := goodIn_app (goodIn_of _ (by decide +kernel)) ggX7_many_X7_unsafeSet
theorem dX7_many_0 : decode cX7_many 0 = .ok (.iload_n 1, 1) := by decide +kernel
theorem dX7_many_1 : decode cX7_many 1 = .ok (.iconst 0, 1) := by decide +kernel
theorem dX7_many_2 : decode cX7_many 2 = .ok (.bipush 19, 2) := by decide +kernel
theorem dX7_many_4 : decode cX7_many 4 = .ok (.invokestatic 111, 3) := by decide +kernel
theorem dX7_many_7 : decode cX7_many 7 = .ok (.iload_n 1, 1) := by decide +kernel
theorem dX7_many_8 : decode cX7_many 8 = .ok (.bipush 16, 2) := by decide +kernel
theorem dX7_many_10 : decode cX7_many 10 = .ok (.if_icmp .lt 18, 3) := by decide +kernel
theorem dX7_many_13 : decode cX7_many 13 = .ok (.aload_n 0, 1) := by decide +kernel
theorem dX7_many_14 : decode cX7_many 14 = .ok (.getfield 47, 3) := by decide +kernel
theorem dX7_many_17 : decode cX7_many 17 = .ok (.getfield 174, 3) := by decide +kernel
theorem dX7_many_20 : decode cX7_many 20 = .ok (.iload_n 1, 1) := by decide +kernel
theorem dX7_many_21 : decode cX7_many 21 = .ok (.bipush 16, 2) := by decide +kernel
theorem dX7_many_23 : decode cX7_many 23 = .ok (.isub, 1) := by decide +kernel
theorem dX7_many_24 : decode cX7_many 24 = .ok (.invokevirtual 87, 3) := by decide +kernel
theorem dX7_many_27 : decode cX7_many 27 = .ok (.ireturn, 1) := by decide +kernel
theorem dX7_many_28 : decode cX7_many 28 = .ok (.iload_n 1, 1) := by decide +kernel
theorem dX7_many_29 : decode cX7_many 29 = .ok (.bipush 12, 2) := by decide +kernel
theorem dX7_many_31 : decode cX7_many 31 = .ok (.if_icmp .lt 18, 3) := by decide +kernel
theorem dX7_many_34 : decode cX7_many 34 = .ok (.aload_n 0, 1) := by decide +kernel
theorem dX7_many_35 : decode cX7_many 35 = .ok (.getfield 47, 3) := by decide +kernel
theorem dX7_many_38 : decode cX7_many 38 = .ok (.getfield 171, 3) := by decide +kernel
theorem dX7_many_41 : decode cX7_many 41 = .ok (.iload_n 1, 1) := by decide +kernel
theorem dX7_many_42 : decode cX7_many 42 = .ok (.bipush 12, 2) := by decide +kernel
theorem dX7_many_44 : decode cX7_many 44 = .ok (.isub, 1) := by decide +kernel
theorem dX7_many_45 : decode cX7_many 45 = .ok (.invokevirtual 87, 3) := by decide +kernel
theorem dX7_many_48 : decode cX7_many 48 = .ok (.ireturn, 1) := by decide +kernel
theorem dX7_many_49 : decode cX7_many 49 = .ok (.iload_n 1, 1) := by decide +kernel
theorem dX7_many_50 : decode cX7_many 50 = .ok (.bipush 9, 2) := by decide +kernel
theorem dX7_many_52 : decode cX7_many 52 = .ok (.if_icmp .lt 18, 3) := by decide +kernel
theorem dX7_many_55 : decode cX7_many 55 = .ok (.aload_n 0, 1) := by decide +kernel
theorem dX7_many_56 : decode cX7_many 56 = .ok (.getfield 19, 3) := by decide +kernel
theorem dX7_many_59 : decode cX7_many 59 = .ok (.getfield 121, 3) := by decide +kernel
theorem dX7_many_62 : decode cX7_many 62 = .ok (.iload_n 1, 1) := by decide +kernel
theorem dX7_many_63 : decode cX7_many 63 = .ok (.bipush 9, 2) := by decide +kernel
theorem dX7_many_65 : decode cX7_many 65 = .ok (.isub, 1) := by decide +kernel
theorem dX7_many_66 : decode cX7_many 66 = .ok (.invokevirtual 87, 3) := by decide +kernel
theorem dX7_many_69 : decode cX7_many 69 = .ok (.ireturn, 1) := by decide +kernel
theorem dX7_many_70 : decode cX7_many 70 = .ok (.iload_n 1, 1) := by decide +kernel
theorem dX7_many_71 : decode cX7_many 71 = .ok (.tableswitch 111 0 7 #[45, 53, 58, 66, 74, 82, 94, 106], 45) := by decide +kernel
theorem dX7_many_116 : decode cX7_many 116 = .ok (.aload_n 0, 1) := by decide +kernel
theorem dX7_many_117 : decode cX7_many 117 = .ok (.getfield 10, 3) := by decide +kernel
theorem dX7_many_120 : decode cX7_many 120 = .ok (.getfield 66, 3) := by decide +kernel
theorem dX7_many_123 : decode cX7_many 123 = .ok (.ireturn, 1) := by decide +kernel
theorem dX7_many_124 : decode cX7_many 124 = .ok (.aload_n 0, 1) := by decide +kernel
theorem dX7_many_125 : decode cX7_many 125 = .ok (.getfield 51, 3) := by decide +kernel
theorem dX7_many_128 : decode cX7_many 128 = .ok (.ireturn, 1) := by decide +kernel
theorem dX7_many_129 : decode cX7_many 129 = .ok (.aload_n 0, 1) := by decide +kernel
theorem dX7_many_130 : decode cX7_many 130 = .ok (.getfield 26, 3) := by decide +kernel
theorem dX7_many_133 : decode cX7_many 133 = .ok (.getfield 124, 3) := by decide +kernel
theorem dX7_many_136 : decode cX7_many 136 = .ok (.ireturn, 1) := by decide +kernel
theorem dX7_many_137 : decode cX7_many 137 = .ok (.aload_n 0, 1) := by decide +kernel
theorem dX7_many_138 : decode cX7_many 138 = .ok (.getfield 33, 3) := by decide +kernel
theorem dX7_many_141 : decode cX7_many 141 = .ok (.getfield 143, 3) := by decide +kernel
theorem dX7_many_144 : decode cX7_many 144 = .ok (.ireturn, 1) := by decide +kernel
theorem dX7_many_145 : decode cX7_many 145 = .ok (.aload_n 0, 1) := by decide +kernel
theorem dX7_many_146 : decode cX7_many 146 = .ok (.getfield 40, 3) := by decide +kernel
theorem dX7_many_149 : decode cX7_many 149 = .ok (.getfield 177, 3) := by decide +kernel
theorem dX7_many_152 : decode cX7_many 152 = .ok (.ireturn, 1) := by decide +kernel
theorem dX7_many_153 : decode cX7_many 153 = .ok (.aload_n 0, 1) := by decide +kernel
theorem dX7_many_154 : decode cX7_many 154 = .ok (.getfield 40, 3) := by decide +kernel
theorem dX7_many_157 : decode cX7_many 157 = .ok (.aload_n 0, 1) := by decide +kernel
theorem dX7_many_158 : decode cX7_many 158 = .ok (.getfield 51, 3) := by decide +kernel
theorem dX7_many_161 : decode cX7_many 161 = .ok (.invokevirtual 217, 3) := by decide +kernel
theorem dX7_many_164 : decode cX7_many 164 = .ok (.ireturn, 1) := by decide +kernel
theorem dX7_many_165 : decode cX7_many 165 = .ok (.aload_n 0, 1) := by decide +kernel
theorem dX7_many_166 : decode cX7_many 166 = .ok (.getfield 19, 3) := by decide +kernel
theorem dX7_many_169 : decode cX7_many 169 = .ok (.aload_n 0, 1) := by decide +kernel
theorem dX7_many_170 : decode cX7_many 170 = .ok (.getfield 51, 3) := by decide +kernel
theorem dX7_many_173 : decode cX7_many 173 = .ok (.invokevirtual 220, 3) := by decide +kernel
theorem dX7_many_176 : decode cX7_many 176 = .ok (.ireturn, 1) := by decide +kernel
theorem dX7_many_177 : decode cX7_many 177 = .ok (.aload_n 0, 1) := by decide +kernel
theorem dX7_many_178 : decode cX7_many 178 = .ok (.invokevirtual 131, 3) := by decide +kernel
theorem dX7_many_181 : decode cX7_many 181 = .ok (.ireturn, 1) := by decide +kernel
theorem dX7_many_182 : decode cX7_many 182 = .ok (.aload_n 0, 1) := by decide +kernel
theorem dX7_many_183 : decode cX7_many 183 = .ok (.getfield 55, 3) := by decide +kernel
theorem dX7_many_186 : decode cX7_many 186 = .ok (.ireturn, 1) := by decide +kernel
set_option maxRecDepth 20000 in
theorem ggX7_meanDemanded_X7_requireDay : GoodIn wsX7_meanDemanded wsX7_requireDay := goodIn_ca (goodIn_r _ [5, 6, 7, 4, 8, 9, 10] (by decide +kernel) (by decide +kernel)) (goodIn_sub (fun _ h => List.mem_cons_of_mem _ (List.mem_append_right _ h)) (by decide +kernel))
set_option maxRecDepth 20000 in
theorem gX7_meanDemanded_X7_requireDay : GoodIn wsX7_meanDemanded (va_wsS RX7 187 yX7_requireDay wsX7_requireDay) := goodIn_app (goodIn_of _ (by decide +kernel)) ggX7_meanDemanded_X7_requireDay
set_option maxRecDepth 20000 in
theorem ggX7_meanDemanded_X7_leastHeight : GoodIn wsX7_meanDemanded wsX7_leastHeight := goodIn_r _ [14, 1, 15, 16, 17, 18, 19, 20, 21, 22, 4, 23, 24, 25, 26, 27, 28, 29, 30, 31, 32, 33, 34, 35, 36, 37, 38, 39, 40, 41, 42, 43, 44, 45, 46, 47, 48, 49, 50, 51, 52, 53, 54, 55, 56, 57, 58, 59, 60, 61, 62, 63, 64, 65, 66, 67, 68, 69, 70, 71, 72, 73] (by decide +kernel) (by decide +kernel)
set_option maxRecDepth 20000 in
theorem gX7_meanDemanded_X7_leastHeight : GoodIn wsX7_meanDemanded (wsV RX7 146 RX7 yX7_leastHeight wsX7_leastHeight) := goodIn_app (goodIn_of _ (by decide +kernel)) ggX7_meanDemanded_X7_leastHeight
theorem dX7_meanDemanded_0 : decode cX7_meanDemanded 0 = .ok (.iload_n 1, 1) := by decide +kernel
theorem dX7_meanDemanded_1 : decode cX7_meanDemanded 1 = .ok (.invokestatic 187, 3) := by decide +kernel
theorem dX7_meanDemanded_4 : decode cX7_meanDemanded 4 = .ok (.aload_n 0, 1) := by decide +kernel
theorem dX7_meanDemanded_5 : decode cX7_meanDemanded 5 = .ok (.getfield 26, 3) := by decide +kernel
theorem dX7_meanDemanded_8 : decode cX7_meanDemanded 8 = .ok (.getfield 124, 3) := by decide +kernel
theorem dX7_meanDemanded_11 : decode cX7_meanDemanded 11 = .ok (.ifCond .gt 5, 3) := by decide +kernel
theorem dX7_meanDemanded_14 : decode cX7_meanDemanded 14 = .ok (.dconst 0, 1) := by decide +kernel
theorem dX7_meanDemanded_15 : decode cX7_meanDemanded 15 = .ok (.dreturn, 1) := by decide +kernel
theorem dX7_meanDemanded_16 : decode cX7_meanDemanded 16 = .ok (.iconst 0, 1) := by decide +kernel
theorem dX7_meanDemanded_17 : decode cX7_meanDemanded 17 = .ok (.istore_n 2, 1) := by decide +kernel
theorem dX7_meanDemanded_18 : decode cX7_meanDemanded 18 = .ok (.iconst 0, 1) := by decide +kernel
theorem dX7_meanDemanded_19 : decode cX7_meanDemanded 19 = .ok (.istore_n 3, 1) := by decide +kernel
theorem dX7_meanDemanded_20 : decode cX7_meanDemanded 20 = .ok (.iload_n 3, 1) := by decide +kernel
theorem dX7_meanDemanded_21 : decode cX7_meanDemanded 21 = .ok (.aload_n 0, 1) := by decide +kernel
theorem dX7_meanDemanded_22 : decode cX7_meanDemanded 22 = .ok (.getfield 26, 3) := by decide +kernel
theorem dX7_meanDemanded_25 : decode cX7_meanDemanded 25 = .ok (.getfield 124, 3) := by decide +kernel
theorem dX7_meanDemanded_28 : decode cX7_meanDemanded 28 = .ok (.if_icmp .ge 19, 3) := by decide +kernel
theorem dX7_meanDemanded_31 : decode cX7_meanDemanded 31 = .ok (.iload_n 2, 1) := by decide +kernel
theorem dX7_meanDemanded_32 : decode cX7_meanDemanded 32 = .ok (.aload_n 0, 1) := by decide +kernel
theorem dX7_meanDemanded_33 : decode cX7_meanDemanded 33 = .ok (.iload_n 3, 1) := by decide +kernel
theorem dX7_meanDemanded_34 : decode cX7_meanDemanded 34 = .ok (.iload_n 1, 1) := by decide +kernel
theorem dX7_meanDemanded_35 : decode cX7_meanDemanded 35 = .ok (.iconst (-1), 1) := by decide +kernel
theorem dX7_meanDemanded_36 : decode cX7_meanDemanded 36 = .ok (.invokevirtual 146, 3) := by decide +kernel
theorem dX7_meanDemanded_39 : decode cX7_meanDemanded 39 = .ok (.iadd, 1) := by decide +kernel
theorem dX7_meanDemanded_40 : decode cX7_meanDemanded 40 = .ok (.istore_n 2, 1) := by decide +kernel
theorem dX7_meanDemanded_41 : decode cX7_meanDemanded 41 = .ok (.iinc 3 1, 3) := by decide +kernel
theorem dX7_meanDemanded_44 : decode cX7_meanDemanded 44 = .ok (.goto (-24), 3) := by decide +kernel
theorem dX7_meanDemanded_47 : decode cX7_meanDemanded 47 = .ok (.iload_n 2, 1) := by decide +kernel
theorem dX7_meanDemanded_48 : decode cX7_meanDemanded 48 = .ok (.i2d, 1) := by decide +kernel
theorem dX7_meanDemanded_49 : decode cX7_meanDemanded 49 = .ok (.aload_n 0, 1) := by decide +kernel
theorem dX7_meanDemanded_50 : decode cX7_meanDemanded 50 = .ok (.getfield 26, 3) := by decide +kernel
theorem dX7_meanDemanded_53 : decode cX7_meanDemanded 53 = .ok (.getfield 124, 3) := by decide +kernel
theorem dX7_meanDemanded_56 : decode cX7_meanDemanded 56 = .ok (.i2d, 1) := by decide +kernel
theorem dX7_meanDemanded_57 : decode cX7_meanDemanded 57 = .ok (.ddiv, 1) := by decide +kernel
theorem dX7_meanDemanded_58 : decode cX7_meanDemanded 58 = .ok (.dreturn, 1) := by decide +kernel
set_option maxRecDepth 20000 in
theorem ggX7_permit_X7_requirePlace : GoodIn wsX7_permit wsX7_requirePlace := goodIn_ca (goodIn_r _ [5, 6, 7, 4, 8, 9, 10, 11, 12, 13] (by decide +kernel) (by decide +kernel)) (goodIn_sub (fun _ h => List.mem_cons_of_mem _ (List.mem_append_right _ h)) (by decide +kernel))
set_option maxRecDepth 20000 in
theorem gX7_permit_X7_requirePlace : GoodIn wsX7_permit (va_wsS RX7 58 yX7_requirePlace wsX7_requirePlace) := goodIn_app (goodIn_of _ (by decide +kernel)) ggX7_permit_X7_requirePlace
set_option maxRecDepth 20000 in
theorem ggX7_permit_X7_requireTop : GoodIn wsX7_permit wsX7_requireTop := goodIn_ca (goodIn_r _ [16, 6, 7, 4, 8, 9, 10] (by decide +kernel) (by decide +kernel)) (goodIn_sub (fun _ h => List.mem_cons_of_mem _ (List.mem_append_right _ h)) (by decide +kernel))
set_option maxRecDepth 20000 in
theorem gX7_permit_X7_requireTop : GoodIn wsX7_permit (va_wsS RX7 62 yX7_requireTop wsX7_requireTop) := goodIn_app (goodIn_of _ (by decide +kernel)) ggX7_permit_X7_requireTop
set_option maxRecDepth 20000 in
theorem ggX7_permit_X7_needWouldBe : GoodIn wsX7_permit wsX7_needWouldBe := goodIn_r _ [20, 1, 21, 22, 23, 4, 24, 25, 26, 27, 28, 29, 30, 31, 32, 33, 34, 35, 36, 37, 38, 39, 40, 41, 42, 43, 44, 110, 111, 112, 113, 114, 115, 116, 117, 118, 119, 120, 121, 122, 123] (by decide +kernel) (by decide +kernel)
set_option maxRecDepth 20000 in
theorem gX7_permit_X7_needWouldBe : GoodIn wsX7_permit (wsV RX7 223 RX7 yX7_needWouldBe wsX7_needWouldBe) := goodIn_app (goodIn_of _ (by decide +kernel)) ggX7_permit_X7_needWouldBe
set_option maxRecDepth 20000 in
theorem ggX7_permit_X7_heightToKeep : GoodIn wsX7_permit wsX7_heightToKeep := goodIn_r _ [48, 49, 50, 51, 52, 37, 53, 54, 55, 56, 4, 57, 1, 25, 58, 59, 26, 27, 28, 29, 30, 31, 60, 61, 62, 63, 64, 65, 66, 67, 68, 69, 70, 71, 72, 73, 74, 75, 76, 77, 78, 79, 80, 81, 82, 83, 84, 85, 86, 87, 88, 89, 90, 91, 92, 93, 94, 95, 96, 97, 98, 21, 22, 23, 24, 99, 100, 101, 102, 103, 104, 105, 106, 107, 108, 109, 32, 33, 34, 35, 36, 38, 39, 40, 41, 42, 43, 44, 110, 111, 112, 113, 114, 115, 116, 117, 118, 119, 120, 124, 125, 126, 127, 128, 129, 130, 123, 121, 122, 131, 132, 133, 134, 135, 136, 137, 138, 139, 140] (by decide +kernel) (by decide +kernel)
set_option maxRecDepth 20000 in
theorem gX7_permit_X7_heightToKeep : GoodIn wsX7_permit (wsV RX7 227 RX7 yX7_heightToKeep wsX7_heightToKeep) := goodIn_app (goodIn_of _ (by decide +kernel)) ggX7_permit_X7_heightToKeep
theorem dX7_permit_0 : decode cX7_permit 0 = .ok (.iload_n 1, 1) := by decide +kernel
theorem dX7_permit_1 : decode cX7_permit 1 = .ok (.iload_n 2, 1) := by decide +kernel
theorem dX7_permit_2 : decode cX7_permit 2 = .ok (.iload 4, 2) := by decide +kernel
theorem dX7_permit_4 : decode cX7_permit 4 = .ok (.iload 5, 2) := by decide +kernel
theorem dX7_permit_6 : decode cX7_permit 6 = .ok (.invokestatic 58, 3) := by decide +kernel
theorem dX7_permit_9 : decode cX7_permit 9 = .ok (.iload_n 3, 1) := by decide +kernel
theorem dX7_permit_10 : decode cX7_permit 10 = .ok (.invokestatic 62, 3) := by decide +kernel
theorem dX7_permit_13 : decode cX7_permit 13 = .ok (.iconst 0, 1) := by decide +kernel
theorem dX7_permit_14 : decode cX7_permit 14 = .ok (.istore 6, 2) := by decide +kernel
theorem dX7_permit_16 : decode cX7_permit 16 = .ok (.iconst 0, 1) := by decide +kernel
theorem dX7_permit_17 : decode cX7_permit 17 = .ok (.istore 7, 2) := by decide +kernel
theorem dX7_permit_19 : decode cX7_permit 19 = .ok (.iload 7, 2) := by decide +kernel
theorem dX7_permit_21 : decode cX7_permit 21 = .ok (.aload_n 0, 1) := by decide +kernel
theorem dX7_permit_22 : decode cX7_permit 22 = .ok (.getfield 26, 3) := by decide +kernel
theorem dX7_permit_25 : decode cX7_permit 25 = .ok (.getfield 124, 3) := by decide +kernel
theorem dX7_permit_28 : decode cX7_permit 28 = .ok (.if_icmp .ge 40, 3) := by decide +kernel
theorem dX7_permit_31 : decode cX7_permit 31 = .ok (.aload_n 0, 1) := by decide +kernel
theorem dX7_permit_32 : decode cX7_permit 32 = .ok (.iload 7, 2) := by decide +kernel
theorem dX7_permit_34 : decode cX7_permit 34 = .ok (.iload_n 1, 1) := by decide +kernel
theorem dX7_permit_35 : decode cX7_permit 35 = .ok (.iload_n 2, 1) := by decide +kernel
theorem dX7_permit_36 : decode cX7_permit 36 = .ok (.iload_n 3, 1) := by decide +kernel
theorem dX7_permit_37 : decode cX7_permit 37 = .ok (.invokevirtual 223, 3) := by decide +kernel
theorem dX7_permit_40 : decode cX7_permit 40 = .ok (.aload_n 0, 1) := by decide +kernel
theorem dX7_permit_41 : decode cX7_permit 41 = .ok (.iload 7, 2) := by decide +kernel
theorem dX7_permit_43 : decode cX7_permit 43 = .ok (.iload 4, 2) := by decide +kernel
theorem dX7_permit_45 : decode cX7_permit 45 = .ok (.iload 5, 2) := by decide +kernel
theorem dX7_permit_47 : decode cX7_permit 47 = .ok (.invokevirtual 227, 3) := by decide +kernel
theorem dX7_permit_50 : decode cX7_permit 50 = .ok (.if_icmp .le 12, 3) := by decide +kernel
theorem dX7_permit_53 : decode cX7_permit 53 = .ok (.iload 6, 2) := by decide +kernel
theorem dX7_permit_55 : decode cX7_permit 55 = .ok (.iconst 1, 1) := by decide +kernel
theorem dX7_permit_56 : decode cX7_permit 56 = .ok (.iload 7, 2) := by decide +kernel
theorem dX7_permit_58 : decode cX7_permit 58 = .ok (.ishl, 1) := by decide +kernel
theorem dX7_permit_59 : decode cX7_permit 59 = .ok (.ior, 1) := by decide +kernel
theorem dX7_permit_60 : decode cX7_permit 60 = .ok (.istore 6, 2) := by decide +kernel
theorem dX7_permit_62 : decode cX7_permit 62 = .ok (.iinc 7 1, 3) := by decide +kernel
theorem dX7_permit_65 : decode cX7_permit 65 = .ok (.goto (-46), 3) := by decide +kernel
theorem dX7_permit_68 : decode cX7_permit 68 = .ok (.iload 6, 2) := by decide +kernel
theorem dX7_permit_70 : decode cX7_permit 70 = .ok (.ireturn, 1) := by decide +kernel
set_option maxRecDepth 20000 in
theorem ggX7_highest_X7_requirePlace : GoodIn wsX7_highest wsX7_requirePlace := goodIn_ca (goodIn_r _ [5, 6, 7, 4, 8, 9, 10, 11, 12, 13] (by decide +kernel) (by decide +kernel)) (goodIn_sub (fun _ h => List.mem_cons_of_mem _ (List.mem_append_right _ h)) (by decide +kernel))
set_option maxRecDepth 20000 in
theorem gX7_highest_X7_requirePlace : GoodIn wsX7_highest (va_wsS RX7 58 yX7_requirePlace wsX7_requirePlace) := goodIn_app (goodIn_of _ (by decide +kernel)) ggX7_highest_X7_requirePlace
set_option maxRecDepth 20000 in
theorem ggX7_highest_X7_heightToKeep : GoodIn wsX7_highest wsX7_heightToKeep := goodIn_r _ [17, 18, 19, 20, 21, 22, 23, 24, 25, 26, 4, 27, 1, 28, 29, 30, 31, 32, 33, 34, 35, 36, 37, 38, 39, 40, 41, 42, 43, 44, 45, 46, 47, 48, 49, 50, 51, 52, 53, 54, 55, 56, 57, 58, 59, 60, 61, 62, 63, 64, 65, 66, 67, 68, 69, 70, 71, 72, 73, 74, 75, 76, 77, 78, 79, 80, 81, 82, 83, 84, 85, 86, 87, 88, 89, 90, 91, 92, 93, 94, 95, 96, 97, 98, 99, 100, 101, 102, 107, 108, 109, 110, 111, 112, 113, 114, 115, 116, 117, 118, 119, 120, 121, 122, 123, 124, 125, 126, 127, 128, 129, 130, 131, 132, 133, 134, 135, 136, 137] (by decide +kernel) (by decide +kernel)
set_option maxRecDepth 20000 in
theorem gX7_highest_X7_heightToKeep : GoodIn wsX7_highest (wsV RX7 227 RX7 yX7_heightToKeep wsX7_heightToKeep) := goodIn_app (goodIn_of _ (by decide +kernel)) ggX7_highest_X7_heightToKeep
set_option maxRecDepth 20000 in
theorem ggX7_highest_X7_needWouldBe : GoodIn wsX7_highest wsX7_needWouldBe := goodIn_r _ [106, 1, 76, 77, 78, 4, 79, 28, 31, 32, 33, 34, 35, 36, 91, 92, 93, 94, 95, 22, 96, 97, 98, 99, 100, 101, 102, 107, 108, 109, 110, 111, 112, 113, 114, 115, 116, 117, 126, 127, 125] (by decide +kernel) (by decide +kernel)
set_option maxRecDepth 20000 in
theorem gX7_highest_X7_needWouldBe : GoodIn wsX7_highest (wsV RX7 223 RX7 yX7_needWouldBe wsX7_needWouldBe) := goodIn_app (goodIn_of _ (by decide +kernel)) ggX7_highest_X7_needWouldBe
theorem dX7_highest_0 : decode cX7_highest 0 = .ok (.iload_n 1, 1) := by decide +kernel
theorem dX7_highest_1 : decode cX7_highest 1 = .ok (.iload_n 2, 1) := by decide +kernel
theorem dX7_highest_2 : decode cX7_highest 2 = .ok (.iload_n 3, 1) := by decide +kernel
theorem dX7_highest_3 : decode cX7_highest 3 = .ok (.iload 4, 2) := by decide +kernel
theorem dX7_highest_5 : decode cX7_highest 5 = .ok (.invokestatic 58, 3) := by decide +kernel
theorem dX7_highest_8 : decode cX7_highest 8 = .ok (.sipush 999, 3) := by decide +kernel
theorem dX7_highest_11 : decode cX7_highest 11 = .ok (.istore 5, 2) := by decide +kernel
theorem dX7_highest_13 : decode cX7_highest 13 = .ok (.iconst 0, 1) := by decide +kernel
theorem dX7_highest_14 : decode cX7_highest 14 = .ok (.istore 6, 2) := by decide +kernel
theorem dX7_highest_16 : decode cX7_highest 16 = .ok (.iload 6, 2) := by decide +kernel
theorem dX7_highest_18 : decode cX7_highest 18 = .ok (.aload_n 0, 1) := by decide +kernel
theorem dX7_highest_19 : decode cX7_highest 19 = .ok (.getfield 26, 3) := by decide +kernel
theorem dX7_highest_22 : decode cX7_highest 22 = .ok (.getfield 124, 3) := by decide +kernel
theorem dX7_highest_25 : decode cX7_highest 25 = .ok (.if_icmp .ge 46, 3) := by decide +kernel
theorem dX7_highest_28 : decode cX7_highest 28 = .ok (.aload_n 0, 1) := by decide +kernel
theorem dX7_highest_29 : decode cX7_highest 29 = .ok (.iload 6, 2) := by decide +kernel
theorem dX7_highest_31 : decode cX7_highest 31 = .ok (.iload_n 3, 1) := by decide +kernel
theorem dX7_highest_32 : decode cX7_highest 32 = .ok (.iload 4, 2) := by decide +kernel
theorem dX7_highest_34 : decode cX7_highest 34 = .ok (.invokevirtual 227, 3) := by decide +kernel
theorem dX7_highest_37 : decode cX7_highest 37 = .ok (.istore 7, 2) := by decide +kernel
theorem dX7_highest_39 : decode cX7_highest 39 = .ok (.iload 5, 2) := by decide +kernel
theorem dX7_highest_41 : decode cX7_highest 41 = .ok (.ifCond .le 24, 3) := by decide +kernel
theorem dX7_highest_44 : decode cX7_highest 44 = .ok (.aload_n 0, 1) := by decide +kernel
theorem dX7_highest_45 : decode cX7_highest 45 = .ok (.iload 6, 2) := by decide +kernel
theorem dX7_highest_47 : decode cX7_highest 47 = .ok (.iload_n 1, 1) := by decide +kernel
theorem dX7_highest_48 : decode cX7_highest 48 = .ok (.iload_n 2, 1) := by decide +kernel
theorem dX7_highest_49 : decode cX7_highest 49 = .ok (.iload 5, 2) := by decide +kernel
theorem dX7_highest_51 : decode cX7_highest 51 = .ok (.invokevirtual 223, 3) := by decide +kernel
theorem dX7_highest_54 : decode cX7_highest 54 = .ok (.iload 7, 2) := by decide +kernel
theorem dX7_highest_56 : decode cX7_highest 56 = .ok (.if_icmp .le 9, 3) := by decide +kernel
theorem dX7_highest_59 : decode cX7_highest 59 = .ok (.iinc 5 (-1), 3) := by decide +kernel
theorem dX7_highest_62 : decode cX7_highest 62 = .ok (.goto (-23), 3) := by decide +kernel
theorem dX7_highest_65 : decode cX7_highest 65 = .ok (.iinc 6 1, 3) := by decide +kernel
theorem dX7_highest_68 : decode cX7_highest 68 = .ok (.goto (-52), 3) := by decide +kernel
theorem dX7_highest_71 : decode cX7_highest 71 = .ok (.iload 5, 2) := by decide +kernel
theorem dX7_highest_73 : decode cX7_highest 73 = .ok (.ireturn, 1) := by decide +kernel
set_option maxRecDepth 20000 in
theorem ggX7_unsafeOn_X7_requireProcedure : GoodIn wsX7_unsafeOn wsX7_requireProcedure := goodIn_ca (goodIn_r _ [6, 7, 8, 9, 93, 94, 95, 96, 97, 98, 99, 100, 101, 102, 103] (by decide +kernel) (by decide +kernel)) (goodIn_sub (fun _ h => List.mem_cons_of_mem _ (List.mem_append_right _ h)) (by decide +kernel))
set_option maxRecDepth 20000 in
theorem gX7_unsafeOn_X7_requireProcedure : GoodIn wsX7_unsafeOn (wsV RX7 140 RX7 yX7_requireProcedure wsX7_requireProcedure) := goodIn_app (goodIn_of _ (by decide +kernel)) ggX7_unsafeOn_X7_requireProcedure
set_option maxRecDepth 20000 in
theorem ggX7_unsafeOn_X7_heightInForce : GoodIn wsX7_unsafeOn wsX7_heightInForce := goodIn_r _ [13, 9, 14, 15, 16, 17, 18, 19, 20, 21, 22, 23, 24, 25, 26, 27, 28, 29, 30, 31, 32, 33, 34, 35, 36, 37, 38, 39, 40, 41, 42, 43, 44, 45, 46, 47, 48, 49, 50, 51, 52, 53, 54, 55, 56, 57, 58, 59, 93, 94, 95, 96, 97, 98, 99, 100, 101, 102, 103, 104, 105, 106, 107, 108, 109, 110, 111, 112, 113, 114, 115, 116, 117] (by decide +kernel) (by decide +kernel)
set_option maxRecDepth 20000 in
theorem gX7_unsafeOn_X7_heightInForce : GoodIn wsX7_unsafeOn (wsV RX7 196 RX7 yX7_heightInForce wsX7_heightInForce) := goodIn_app (goodIn_of _ (by decide +kernel)) ggX7_unsafeOn_X7_heightInForce
set_option maxRecDepth 20000 in
theorem ggX7_unsafeOn_X7_leastHeight : GoodIn wsX7_unsafeOn wsX7_leastHeight := goodIn_r _ [63, 9, 64, 65, 49, 50, 51, 66, 67, 68, 5, 69, 14, 17, 18, 19, 20, 21, 22, 70, 71, 72, 73, 74, 75, 76, 77, 78, 79, 80, 81, 82, 83, 84, 85, 86, 87, 88, 89, 90, 91, 92, 93, 94, 95, 96, 97, 98, 99, 100, 101, 102, 103, 118, 119, 120, 121, 122, 123, 112, 113, 111] (by decide +kernel) (by decide +kernel)
set_option maxRecDepth 20000 in
theorem gX7_unsafeOn_X7_leastHeight : GoodIn wsX7_unsafeOn (wsV RX7 146 RX7 yX7_leastHeight wsX7_leastHeight) := goodIn_app (goodIn_of _ (by decide +kernel)) ggX7_unsafeOn_X7_leastHeight
theorem dX7_unsafeOn_0 : decode cX7_unsafeOn 0 = .ok (.aload_n 0, 1) := by decide +kernel
theorem dX7_unsafeOn_1 : decode cX7_unsafeOn 1 = .ok (.iload_n 1, 1) := by decide +kernel
theorem dX7_unsafeOn_2 : decode cX7_unsafeOn 2 = .ok (.invokevirtual 140, 3) := by decide +kernel
theorem dX7_unsafeOn_5 : decode cX7_unsafeOn 5 = .ok (.aload_n 0, 1) := by decide +kernel
theorem dX7_unsafeOn_6 : decode cX7_unsafeOn 6 = .ok (.getfield 51, 3) := by decide +kernel
theorem dX7_unsafeOn_9 : decode cX7_unsafeOn 9 = .ok (.istore_n 2, 1) := by decide +kernel
theorem dX7_unsafeOn_10 : decode cX7_unsafeOn 10 = .ok (.iload_n 2, 1) := by decide +kernel
theorem dX7_unsafeOn_11 : decode cX7_unsafeOn 11 = .ok (.sipush 399, 3) := by decide +kernel
theorem dX7_unsafeOn_14 : decode cX7_unsafeOn 14 = .ok (.if_icmp .gt 34, 3) := by decide +kernel
theorem dX7_unsafeOn_17 : decode cX7_unsafeOn 17 = .ok (.aload_n 0, 1) := by decide +kernel
theorem dX7_unsafeOn_18 : decode cX7_unsafeOn 18 = .ok (.iload_n 1, 1) := by decide +kernel
theorem dX7_unsafeOn_19 : decode cX7_unsafeOn 19 = .ok (.iload_n 2, 1) := by decide +kernel
theorem dX7_unsafeOn_20 : decode cX7_unsafeOn 20 = .ok (.invokevirtual 196, 3) := by decide +kernel
theorem dX7_unsafeOn_23 : decode cX7_unsafeOn 23 = .ok (.istore_n 3, 1) := by decide +kernel
theorem dX7_unsafeOn_24 : decode cX7_unsafeOn 24 = .ok (.iload_n 3, 1) := by decide +kernel
theorem dX7_unsafeOn_25 : decode cX7_unsafeOn 25 = .ok (.iconst (-1), 1) := by decide +kernel
theorem dX7_unsafeOn_26 : decode cX7_unsafeOn 26 = .ok (.if_icmp .eq 16, 3) := by decide +kernel
theorem dX7_unsafeOn_29 : decode cX7_unsafeOn 29 = .ok (.iload_n 3, 1) := by decide +kernel
theorem dX7_unsafeOn_30 : decode cX7_unsafeOn 30 = .ok (.aload_n 0, 1) := by decide +kernel
theorem dX7_unsafeOn_31 : decode cX7_unsafeOn 31 = .ok (.iload_n 1, 1) := by decide +kernel
theorem dX7_unsafeOn_32 : decode cX7_unsafeOn 32 = .ok (.iload_n 2, 1) := by decide +kernel
theorem dX7_unsafeOn_33 : decode cX7_unsafeOn 33 = .ok (.iconst (-1), 1) := by decide +kernel
theorem dX7_unsafeOn_34 : decode cX7_unsafeOn 34 = .ok (.invokevirtual 146, 3) := by decide +kernel
theorem dX7_unsafeOn_37 : decode cX7_unsafeOn 37 = .ok (.if_icmp .ge 5, 3) := by decide +kernel
theorem dX7_unsafeOn_40 : decode cX7_unsafeOn 40 = .ok (.iload_n 2, 1) := by decide +kernel
theorem dX7_unsafeOn_41 : decode cX7_unsafeOn 41 = .ok (.ireturn, 1) := by decide +kernel
theorem dX7_unsafeOn_42 : decode cX7_unsafeOn 42 = .ok (.iinc 2 1, 3) := by decide +kernel
theorem dX7_unsafeOn_45 : decode cX7_unsafeOn 45 = .ok (.goto (-35), 3) := by decide +kernel
theorem dX7_unsafeOn_48 : decode cX7_unsafeOn 48 = .ok (.iconst (-1), 1) := by decide +kernel
theorem dX7_unsafeOn_49 : decode cX7_unsafeOn 49 = .ok (.ireturn, 1) := by decide +kernel
set_option maxRecDepth 20000 in
theorem ggX7_raiseFor_X7_requireProcedure : GoodIn wsX7_raiseFor wsX7_requireProcedure := goodIn_ca (goodIn_r _ [11, 12, 13, 14, 93, 94, 95, 96, 97, 98, 99, 100, 101, 102, 103] (by decide +kernel) (by decide +kernel)) (goodIn_sub (fun _ h => List.mem_cons_of_mem _ (List.mem_append_right _ h)) (by decide +kernel))
set_option maxRecDepth 20000 in
theorem gX7_raiseFor_X7_requireProcedure : GoodIn wsX7_raiseFor (wsV RX7 140 RX7 yX7_requireProcedure wsX7_requireProcedure) := goodIn_app (goodIn_of _ (by decide +kernel)) ggX7_raiseFor_X7_requireProcedure
set_option maxRecDepth 20000 in
theorem ggX7_raiseFor_X7_heightInForce : GoodIn wsX7_raiseFor wsX7_heightInForce := goodIn_r _ [18, 14, 19, 2, 20, 21, 22, 23, 24, 25, 26, 27, 28, 29, 30, 31, 32, 33, 34, 35, 36, 37, 38, 39, 40, 41, 42, 43, 44, 45, 46, 47, 48, 49, 50, 51, 52, 4, 5, 6, 53, 54, 55, 56, 57, 58, 59, 60, 93, 94, 95, 96, 97, 98, 99, 100, 101, 102, 103, 104, 105, 106, 107, 108, 109, 110, 111, 112, 113, 114, 115, 116, 117] (by decide +kernel) (by decide +kernel)
set_option maxRecDepth 20000 in
theorem gX7_raiseFor_X7_heightInForce : GoodIn wsX7_raiseFor (wsV RX7 196 RX7 yX7_heightInForce wsX7_heightInForce) := goodIn_app (goodIn_of _ (by decide +kernel)) ggX7_raiseFor_X7_heightInForce
set_option maxRecDepth 20000 in
theorem ggX7_raiseFor_X7_leastHeight : GoodIn wsX7_raiseFor wsX7_leastHeight := goodIn_r _ [64, 14, 65, 3, 4, 5, 6, 66, 67, 68, 10, 69, 19, 21, 22, 23, 24, 25, 26, 70, 71, 72, 73, 74, 75, 76, 77, 78, 79, 80, 81, 82, 83, 84, 85, 86, 87, 88, 89, 90, 91, 92, 93, 94, 95, 96, 97, 98, 99, 100, 101, 102, 103, 118, 119, 120, 121, 122, 123, 112, 113, 111] (by decide +kernel) (by decide +kernel)
set_option maxRecDepth 20000 in
theorem gX7_raiseFor_X7_leastHeight : GoodIn wsX7_raiseFor (wsV RX7 146 RX7 yX7_leastHeight wsX7_leastHeight) := goodIn_app (goodIn_of _ (by decide +kernel)) ggX7_raiseFor_X7_leastHeight
set_option maxRecDepth 20000 in
theorem ggX7_raiseFor_X1_heightOn : GoodIn wsX7_raiseFor wsX1_heightOn := goodIn_r _ [38, 39, 40, 41, 42, 43, 22, 23, 24, 25, 26, 114, 115, 116, 117, 111] (by decide +kernel) (by decide +kernel)
set_option maxRecDepth 20000 in
theorem gX7_raiseFor_X1_heightOn : GoodIn wsX7_raiseFor (wsV RX7 193 RX1 yX1_heightOn wsX1_heightOn) := goodIn_app (goodIn_of _ (by decide +kernel)) ggX7_raiseFor_X1_heightOn
theorem dX7_raiseFor_0 : decode cX7_raiseFor 0 = .ok (.aload_n 0, 1) := by decide +kernel
theorem dX7_raiseFor_1 : decode cX7_raiseFor 1 = .ok (.iload_n 1, 1) := by decide +kernel
theorem dX7_raiseFor_2 : decode cX7_raiseFor 2 = .ok (.invokevirtual 140, 3) := by decide +kernel
theorem dX7_raiseFor_5 : decode cX7_raiseFor 5 = .ok (.iconst 0, 1) := by decide +kernel
theorem dX7_raiseFor_6 : decode cX7_raiseFor 6 = .ok (.istore_n 2, 1) := by decide +kernel
theorem dX7_raiseFor_7 : decode cX7_raiseFor 7 = .ok (.aload_n 0, 1) := by decide +kernel
theorem dX7_raiseFor_8 : decode cX7_raiseFor 8 = .ok (.getfield 51, 3) := by decide +kernel
theorem dX7_raiseFor_11 : decode cX7_raiseFor 11 = .ok (.istore_n 3, 1) := by decide +kernel
theorem dX7_raiseFor_12 : decode cX7_raiseFor 12 = .ok (.iload_n 3, 1) := by decide +kernel
theorem dX7_raiseFor_13 : decode cX7_raiseFor 13 = .ok (.sipush 399, 3) := by decide +kernel
theorem dX7_raiseFor_16 : decode cX7_raiseFor 16 = .ok (.if_icmp .gt 59, 3) := by decide +kernel
theorem dX7_raiseFor_19 : decode cX7_raiseFor 19 = .ok (.aload_n 0, 1) := by decide +kernel
theorem dX7_raiseFor_20 : decode cX7_raiseFor 20 = .ok (.iload_n 1, 1) := by decide +kernel
theorem dX7_raiseFor_21 : decode cX7_raiseFor 21 = .ok (.iload_n 3, 1) := by decide +kernel
theorem dX7_raiseFor_22 : decode cX7_raiseFor 22 = .ok (.invokevirtual 196, 3) := by decide +kernel
theorem dX7_raiseFor_25 : decode cX7_raiseFor 25 = .ok (.istore 4, 2) := by decide +kernel
theorem dX7_raiseFor_27 : decode cX7_raiseFor 27 = .ok (.iload 4, 2) := by decide +kernel
theorem dX7_raiseFor_29 : decode cX7_raiseFor 29 = .ok (.iconst (-1), 1) := by decide +kernel
theorem dX7_raiseFor_30 : decode cX7_raiseFor 30 = .ok (.if_icmp .ne 6, 3) := by decide +kernel
theorem dX7_raiseFor_33 : decode cX7_raiseFor 33 = .ok (.goto 36, 3) := by decide +kernel
theorem dX7_raiseFor_36 : decode cX7_raiseFor 36 = .ok (.aload_n 0, 1) := by decide +kernel
theorem dX7_raiseFor_37 : decode cX7_raiseFor 37 = .ok (.iload_n 1, 1) := by decide +kernel
theorem dX7_raiseFor_38 : decode cX7_raiseFor 38 = .ok (.iload_n 3, 1) := by decide +kernel
theorem dX7_raiseFor_39 : decode cX7_raiseFor 39 = .ok (.iconst (-1), 1) := by decide +kernel
theorem dX7_raiseFor_40 : decode cX7_raiseFor 40 = .ok (.invokevirtual 146, 3) := by decide +kernel
theorem dX7_raiseFor_43 : decode cX7_raiseFor 43 = .ok (.istore 5, 2) := by decide +kernel
theorem dX7_raiseFor_45 : decode cX7_raiseFor 45 = .ok (.iload 4, 2) := by decide +kernel
theorem dX7_raiseFor_47 : decode cX7_raiseFor 47 = .ok (.iload 5, 2) := by decide +kernel
theorem dX7_raiseFor_49 : decode cX7_raiseFor 49 = .ok (.if_icmp .ge 20, 3) := by decide +kernel
theorem dX7_raiseFor_52 : decode cX7_raiseFor 52 = .ok (.iload_n 2, 1) := by decide +kernel
theorem dX7_raiseFor_53 : decode cX7_raiseFor 53 = .ok (.iload 5, 2) := by decide +kernel
theorem dX7_raiseFor_55 : decode cX7_raiseFor 55 = .ok (.aload_n 0, 1) := by decide +kernel
theorem dX7_raiseFor_56 : decode cX7_raiseFor 56 = .ok (.getfield 33, 3) := by decide +kernel
theorem dX7_raiseFor_59 : decode cX7_raiseFor 59 = .ok (.iload_n 1, 1) := by decide +kernel
theorem dX7_raiseFor_60 : decode cX7_raiseFor 60 = .ok (.iload_n 3, 1) := by decide +kernel
theorem dX7_raiseFor_61 : decode cX7_raiseFor 61 = .ok (.invokevirtual 193, 3) := by decide +kernel
theorem dX7_raiseFor_64 : decode cX7_raiseFor 64 = .ok (.isub, 1) := by decide +kernel
theorem dX7_raiseFor_65 : decode cX7_raiseFor 65 = .ok (.invokestatic 98, 3) := by decide +kernel
theorem dX7_raiseFor_68 : decode cX7_raiseFor 68 = .ok (.istore_n 2, 1) := by decide +kernel
theorem dX7_raiseFor_69 : decode cX7_raiseFor 69 = .ok (.iinc 3 1, 3) := by decide +kernel
theorem dX7_raiseFor_72 : decode cX7_raiseFor 72 = .ok (.goto (-60), 3) := by decide +kernel
theorem dX7_raiseFor_75 : decode cX7_raiseFor 75 = .ok (.iload_n 2, 1) := by decide +kernel
theorem dX7_raiseFor_76 : decode cX7_raiseFor 76 = .ok (.sipush 500, 3) := by decide +kernel
theorem dX7_raiseFor_79 : decode cX7_raiseFor 79 = .ok (.if_icmp .gt 7, 3) := by decide +kernel
theorem dX7_raiseFor_82 : decode cX7_raiseFor 82 = .ok (.iload_n 2, 1) := by decide +kernel
theorem dX7_raiseFor_83 : decode cX7_raiseFor 83 = .ok (.goto 4, 3) := by decide +kernel
theorem dX7_raiseFor_86 : decode cX7_raiseFor 86 = .ok (.iconst (-1), 1) := by decide +kernel
theorem dX7_raiseFor_87 : decode cX7_raiseFor 87 = .ok (.ireturn, 1) := by decide +kernel
set_option maxRecDepth 20000 in
theorem ggX7_digest_X7_many : GoodIn wsX7_digest wsX7_many := goodIn_ca (goodIn_r _ [11, 12, 13, 3, 5, 4, 14, 6, 15, 16, 17, 10, 18, 19, 20, 21, 22, 23, 24, 25, 26, 27, 28, 29, 30, 31, 32, 33, 34, 35, 36, 37, 38, 39, 40, 41, 42, 43, 44, 45, 46, 47, 48, 49, 50, 51, 52, 53, 54, 55, 56, 57, 58, 59, 60, 61, 62, 63, 64, 65, 66, 67, 68, 69, 70, 71, 72, 73, 74, 75, 76, 77, 78, 79, 80, 81, 82, 83, 84, 85, 86, 87, 88, 89, 90, 91, 92, 93, 94, 95, 96, 97, 98, 99, 100, 101, 102, 103, 104, 105, 106, 107, 108, 109, 110, 111, 112, 113, 185, 186, 187, 188, 189, 190, 191, 192, 209, 210, 211, 212, 193, 194, 195, 196, 197, 198, 199, 200, 201, 213, 214, 215, 216, 202, 203, 204, 205, 206, 207, 208, 217] (by decide +kernel) (by decide +kernel)) (goodIn_sub (fun _ h => List.mem_cons_of_mem _ (List.mem_append_left _ (List.mem_append_right _ h))) (by decide +kernel))
set_option maxRecDepth 20000 in
theorem gX7_digest_X7_many : GoodIn wsX7_digest (wsV RX7 234 RX7 yX7_many wsX7_many) := goodIn_app (goodIn_of _ (by decide +kernel)) ggX7_digest_X7_many
set_option maxRecDepth 20000 in
theorem ggX7_digest_X7_ofObstacle : GoodIn wsX7_digest wsX7_ofObstacle := goodIn_ca (goodIn_ca (goodIn_r _ [117, 3, 118, 119, 120, 10, 121, 122, 123, 16, 17, 18, 19, 20, 21, 22, 23, 24, 25, 26, 185, 186, 187, 188, 189, 190, 191, 192, 193, 194, 195, 196, 197, 198, 217] (by decide +kernel) (by decide +kernel)) (goodIn_sub (fun _ h => List.mem_cons_of_mem _ (List.mem_append_right _ h)) (by decide +kernel))) (goodIn_sub (fun _ h => List.mem_cons_of_mem _ (List.mem_append_left _ (List.mem_append_right _ h))) (by decide +kernel))
set_option maxRecDepth 20000 in
theorem gX7_digest_X7_ofObstacle : GoodIn wsX7_digest (wsV RX7 237 RX7 yX7_ofObstacle wsX7_ofObstacle) := goodIn_app (goodIn_of _ (by decide +kernel)) ggX7_digest_X7_ofObstacle
set_option maxRecDepth 20000 in
theorem ggX7_digest_X7_demanded : GoodIn wsX7_digest wsX7_demanded := goodIn_ca (goodIn_ca (goodIn_r _ [127, 128, 129, 130, 10, 131, 122, 123, 4, 132, 133, 134, 16, 17, 18, 19, 20, 135, 136, 137, 82, 83, 84, 85, 3, 86, 79, 80, 81, 87, 88, 89, 90, 13, 21, 22, 23, 24, 25, 26, 91, 92, 93, 94, 95, 96, 97, 98, 99, 100, 101, 102, 103, 104, 105, 106, 107, 108, 109, 110, 111, 112, 113, 185, 186, 187, 188, 189, 190, 191, 192, 199, 200, 201, 193, 194, 195, 196, 197, 198, 211, 212, 217] (by decide +kernel) (by decide +kernel)) (goodIn_sub (fun _ h => List.mem_cons_of_mem _ (List.mem_append_right _ h)) (by decide +kernel))) (goodIn_sub (fun _ h => List.mem_cons_of_mem _ (List.mem_append_left _ (List.mem_append_right _ h))) (by decide +kernel))
set_option maxRecDepth 20000 in
theorem gX7_digest_X7_demanded : GoodIn wsX7_digest (wsV RX7 240 RX7 yX7_demanded wsX7_demanded) := goodIn_app (goodIn_of _ (by decide +kernel)) ggX7_digest_X7_demanded
set_option maxRecDepth 20000 in
theorem ggX7_digest_X7_inForce : GoodIn wsX7_digest wsX7_inForce := goodIn_ca (goodIn_ca (goodIn_r _ [141, 128, 129, 130, 10, 131, 122, 123, 4, 132, 133, 134, 16, 17, 18, 19, 20, 135, 136, 137, 57, 58, 59, 60, 13, 14, 6, 21, 22, 23, 24, 25, 26, 61, 48, 49, 45, 50, 51, 52, 62, 63, 64, 65, 66, 67, 68, 69, 70, 71, 72, 73, 74, 30, 75, 76, 37, 77, 78, 79, 80, 81, 33, 34, 35, 36, 38, 39, 40, 41, 142, 143, 144, 185, 186, 187, 188, 189, 190, 191, 192, 199, 200, 201, 202, 203, 204, 205, 206, 207, 208, 217, 211, 212, 213, 214, 215, 216] (by decide +kernel) (by decide +kernel)) (goodIn_sub (fun _ h => List.mem_cons_of_mem _ (List.mem_append_right _ h)) (by decide +kernel))) (goodIn_sub (fun _ h => List.mem_cons_of_mem _ (List.mem_append_left _ (List.mem_append_right _ h))) (by decide +kernel))
set_option maxRecDepth 20000 in
theorem gX7_digest_X7_inForce : GoodIn wsX7_digest (wsV RX7 243 RX7 yX7_inForce wsX7_inForce) := goodIn_app (goodIn_of _ (by decide +kernel)) ggX7_digest_X7_inForce
set_option maxRecDepth 20000 in
theorem ggX7_digest_X7_chart : GoodIn wsX7_digest wsX7_chart := goodIn_ca (goodIn_ca (goodIn_r _ [148, 14, 128, 129, 130, 10, 131, 122, 123, 4, 132, 133, 134, 16, 17, 18, 19, 20, 62, 63, 64, 65, 66, 67, 68, 69, 70, 71, 22, 23, 24, 25, 26, 185, 186, 187, 188, 189, 190, 191, 192, 199, 200, 201, 213, 214, 215, 216, 217] (by decide +kernel) (by decide +kernel)) (goodIn_sub (fun _ h => List.mem_cons_of_mem _ (List.mem_append_right _ h)) (by decide +kernel))) (goodIn_sub (fun _ h => List.mem_cons_of_mem _ (List.mem_append_left _ (List.mem_append_right _ h))) (by decide +kernel))
set_option maxRecDepth 20000 in
theorem gX7_digest_X7_chart : GoodIn wsX7_digest (wsV RX7 246 RX7 yX7_chart wsX7_chart) := goodIn_app (goodIn_of _ (by decide +kernel)) ggX7_digest_X7_chart
set_option maxRecDepth 20000 in
theorem ggX7_digest_X7_decides : GoodIn wsX7_digest wsX7_decides := goodIn_ca (goodIn_ca (goodIn_r _ [152, 3, 128, 129, 130, 10, 131, 122, 123, 4, 132, 133, 134, 16, 17, 18, 19, 20, 82, 83, 84, 85, 86, 79, 80, 81, 87, 88, 89, 90, 13, 21, 22, 23, 24, 25, 26, 91, 92, 93, 94, 95, 96, 97, 98, 99, 100, 101, 102, 103, 104, 105, 106, 107, 108, 109, 110, 111, 112, 113, 185, 186, 187, 188, 189, 190, 191, 192, 193, 194, 195, 196, 197, 198, 199, 200, 201, 211, 212, 217] (by decide +kernel) (by decide +kernel)) (goodIn_sub (fun _ h => List.mem_cons_of_mem _ (List.mem_append_right _ h)) (by decide +kernel))) (goodIn_sub (fun _ h => List.mem_cons_of_mem _ (List.mem_append_left _ (List.mem_append_right _ h))) (by decide +kernel))
set_option maxRecDepth 20000 in
theorem gX7_digest_X7_decides : GoodIn wsX7_digest (wsV RX7 249 RX7 yX7_decides wsX7_decides) := goodIn_app (goodIn_of _ (by decide +kernel)) ggX7_digest_X7_decides
set_option maxRecDepth 20000 in
theorem ggX7_digest_X7_unsafeOn : GoodIn wsX7_digest wsX7_unsafeOn := goodIn_ca (goodIn_r _ [156, 5, 128, 129, 130, 10, 131, 122, 123, 4, 57, 58, 59, 60, 13, 14, 6, 21, 22, 23, 24, 25, 26, 61, 48, 49, 45, 50, 51, 52, 62, 63, 64, 65, 66, 67, 68, 69, 70, 71, 72, 73, 74, 30, 75, 76, 37, 77, 78, 79, 80, 81, 33, 34, 35, 36, 38, 39, 40, 41, 82, 83, 84, 85, 3, 86, 87, 88, 89, 90, 91, 92, 93, 94, 95, 96, 97, 98, 99, 100, 101, 102, 103, 104, 105, 106, 107, 108, 109, 110, 111, 112, 113, 185, 186, 187, 188, 189, 190, 191, 192, 199, 200, 201, 202, 203, 204, 205, 206, 207, 208, 217, 211, 212, 213, 214, 215, 216, 193, 194, 195, 196, 197, 198] (by decide +kernel) (by decide +kernel)) (goodIn_sub (fun _ h => List.mem_cons_of_mem _ (List.mem_append_right _ h)) (by decide +kernel))
set_option maxRecDepth 20000 in
theorem gX7_digest_X7_unsafeOn : GoodIn wsX7_digest (wsV RX7 252 RX7 yX7_unsafeOn wsX7_unsafeOn) := goodIn_app (goodIn_of _ (by decide +kernel)) ggX7_digest_X7_unsafeOn
set_option maxRecDepth 20000 in
theorem ggX7_digest_X7_raiseFor : GoodIn wsX7_digest wsX7_raiseFor := goodIn_ca (goodIn_r _ [160, 5, 14, 86, 79, 80, 81, 128, 129, 130, 10, 131, 122, 123, 4, 57, 58, 59, 60, 13, 6, 21, 22, 23, 24, 25, 26, 61, 48, 49, 45, 50, 51, 52, 62, 63, 64, 65, 66, 67, 68, 69, 70, 71, 72, 73, 74, 30, 75, 76, 37, 77, 78, 33, 34, 35, 36, 38, 39, 40, 41, 82, 83, 84, 85, 3, 87, 88, 89, 90, 91, 92, 93, 94, 95, 96, 97, 98, 99, 100, 101, 102, 103, 104, 105, 106, 107, 108, 109, 110, 111, 112, 113, 185, 186, 187, 188, 189, 190, 191, 192, 199, 200, 201, 202, 203, 204, 205, 206, 207, 208, 217, 211, 212, 213, 214, 215, 216, 193, 194, 195, 196, 197, 198] (by decide +kernel) (by decide +kernel)) (goodIn_sub (fun _ h => List.mem_cons_of_mem _ (List.mem_append_right _ h)) (by decide +kernel))
set_option maxRecDepth 20000 in
theorem gX7_digest_X7_raiseFor : GoodIn wsX7_digest (wsV RX7 255 RX7 yX7_raiseFor wsX7_raiseFor) := goodIn_app (goodIn_of _ (by decide +kernel)) ggX7_digest_X7_raiseFor
set_option maxRecDepth 20000 in
theorem ggX7_digest_X7_ofNotice : GoodIn wsX7_digest wsX7_ofNotice := goodIn_ca (goodIn_ca (goodIn_r _ [164, 6, 5, 165, 166, 167, 10, 168, 122, 123, 16, 17, 18, 19, 20, 21, 22, 23, 24, 25, 26, 169, 34, 35, 30, 36, 37, 38, 39, 40, 41, 185, 186, 187, 188, 189, 190, 191, 192, 202, 203, 204, 205, 206, 207, 208, 217] (by decide +kernel) (by decide +kernel)) (goodIn_sub (fun _ h => List.mem_cons_of_mem _ (List.mem_append_right _ h)) (by decide +kernel))) (goodIn_sub (fun _ h => List.mem_cons_of_mem _ (List.mem_append_left _ (List.mem_append_right _ h))) (by decide +kernel))
set_option maxRecDepth 20000 in
theorem gX7_digest_X7_ofNotice : GoodIn wsX7_digest (wsV RX7 258 RX7 yX7_ofNotice wsX7_ofNotice) := goodIn_app (goodIn_of _ (by decide +kernel)) ggX7_digest_X7_ofNotice
set_option maxRecDepth 20000 in
theorem ggX7_digest_X7_misled : GoodIn wsX7_digest wsX7_misled := goodIn_ca (goodIn_r _ [173, 4, 5, 174, 175, 10, 176, 122, 123, 177, 178, 179, 180, 12, 14, 6, 21, 22, 23, 24, 25, 26, 62, 63, 64, 65, 66, 67, 68, 69, 70, 71, 72, 73, 74, 30, 75, 76, 37, 77, 78, 79, 80, 81, 33, 34, 35, 36, 38, 39, 40, 41, 57, 58, 59, 60, 13, 61, 48, 49, 45, 50, 51, 52, 185, 186, 187, 188, 189, 190, 191, 192, 199, 200, 201, 209, 210, 217, 213, 214, 215, 216, 202, 203, 204, 205, 206, 207, 208, 211, 212] (by decide +kernel) (by decide +kernel)) (goodIn_sub (fun _ h => List.mem_cons_of_mem _ (List.mem_append_right _ h)) (by decide +kernel))
set_option maxRecDepth 20000 in
theorem gX7_digest_X7_misled : GoodIn wsX7_digest (wsV RX7 261 RX7 yX7_misled wsX7_misled) := goodIn_app (goodIn_of _ (by decide +kernel)) ggX7_digest_X7_misled
set_option maxRecDepth 20000 in
theorem ggX7_digest_X7_believes : GoodIn wsX7_digest wsX7_believes := goodIn_ca (goodIn_ca (goodIn_r _ [184, 5, 174, 175, 10, 176, 122, 123, 128, 129, 130, 131, 4, 16, 17, 18, 19, 20, 135, 136, 137, 177, 178, 179, 180, 12, 14, 6, 21, 22, 23, 24, 25, 26, 62, 63, 64, 65, 66, 67, 68, 69, 70, 71, 72, 73, 74, 30, 75, 76, 37, 77, 78, 79, 80, 81, 33, 34, 35, 36, 38, 39, 40, 41, 142, 143, 144, 185, 186, 187, 188, 189, 190, 191, 192, 199, 200, 201, 209, 210, 217, 213, 214, 215, 216, 202, 203, 204, 205, 206, 207, 208] (by decide +kernel) (by decide +kernel)) (goodIn_sub (fun _ h => List.mem_cons_of_mem _ (List.mem_append_right _ h)) (by decide +kernel))) (goodIn_sub (fun _ h => List.mem_cons_of_mem _ (List.mem_append_left _ (List.mem_append_right _ h))) (by decide +kernel))
set_option maxRecDepth 20000 in
theorem gX7_digest_X7_believes : GoodIn wsX7_digest (wsV RX7 264 RX7 yX7_believes wsX7_believes) := goodIn_app (goodIn_of _ (by decide +kernel)) ggX7_digest_X7_believes
theorem dX7_digest_0 : decode cX7_digest 0 = .ok (.ldc2_w 230, 3) := by decide +kernel
theorem dX7_digest_3 : decode cX7_digest 3 = .ok (.lstore_n 1, 1) := by decide +kernel
theorem dX7_digest_4 : decode cX7_digest 4 = .ok (.iconst 0, 1) := by decide +kernel
theorem dX7_digest_5 : decode cX7_digest 5 = .ok (.istore_n 3, 1) := by decide +kernel
theorem dX7_digest_6 : decode cX7_digest 6 = .ok (.iload_n 3, 1) := by decide +kernel
theorem dX7_digest_7 : decode cX7_digest 7 = .ok (.bipush 20, 2) := by decide +kernel
theorem dX7_digest_9 : decode cX7_digest 9 = .ok (.if_icmp .ge 22, 3) := by decide +kernel
theorem dX7_digest_12 : decode cX7_digest 12 = .ok (.lload_n 1, 1) := by decide +kernel
theorem dX7_digest_13 : decode cX7_digest 13 = .ok (.ldc2_w 232, 3) := by decide +kernel
theorem dX7_digest_16 : decode cX7_digest 16 = .ok (.lmul, 1) := by decide +kernel
theorem dX7_digest_17 : decode cX7_digest 17 = .ok (.aload_n 0, 1) := by decide +kernel
theorem dX7_digest_18 : decode cX7_digest 18 = .ok (.iload_n 3, 1) := by decide +kernel
theorem dX7_digest_19 : decode cX7_digest 19 = .ok (.invokevirtual 234, 3) := by decide +kernel
theorem dX7_digest_22 : decode cX7_digest 22 = .ok (.i2l, 1) := by decide +kernel
theorem dX7_digest_23 : decode cX7_digest 23 = .ok (.ladd, 1) := by decide +kernel
theorem dX7_digest_24 : decode cX7_digest 24 = .ok (.lstore_n 1, 1) := by decide +kernel
theorem dX7_digest_25 : decode cX7_digest 25 = .ok (.iinc 3 1, 3) := by decide +kernel
theorem dX7_digest_28 : decode cX7_digest 28 = .ok (.goto (-22), 3) := by decide +kernel
theorem dX7_digest_31 : decode cX7_digest 31 = .ok (.iconst 0, 1) := by decide +kernel
theorem dX7_digest_32 : decode cX7_digest 32 = .ok (.istore_n 3, 1) := by decide +kernel
theorem dX7_digest_33 : decode cX7_digest 33 = .ok (.iload_n 3, 1) := by decide +kernel
theorem dX7_digest_34 : decode cX7_digest 34 = .ok (.aload_n 0, 1) := by decide +kernel
theorem dX7_digest_35 : decode cX7_digest 35 = .ok (.getfield 10, 3) := by decide +kernel
theorem dX7_digest_38 : decode cX7_digest 38 = .ok (.getfield 66, 3) := by decide +kernel
theorem dX7_digest_41 : decode cX7_digest 41 = .ok (.if_icmp .ge 39, 3) := by decide +kernel
theorem dX7_digest_44 : decode cX7_digest 44 = .ok (.iconst 0, 1) := by decide +kernel
theorem dX7_digest_45 : decode cX7_digest 45 = .ok (.istore 4, 2) := by decide +kernel
theorem dX7_digest_47 : decode cX7_digest 47 = .ok (.iload 4, 2) := by decide +kernel
theorem dX7_digest_49 : decode cX7_digest 49 = .ok (.iconst 5, 1) := by decide +kernel
theorem dX7_digest_50 : decode cX7_digest 50 = .ok (.if_icmp .ge 24, 3) := by decide +kernel
theorem dX7_digest_53 : decode cX7_digest 53 = .ok (.lload_n 1, 1) := by decide +kernel
theorem dX7_digest_54 : decode cX7_digest 54 = .ok (.ldc2_w 232, 3) := by decide +kernel
theorem dX7_digest_57 : decode cX7_digest 57 = .ok (.lmul, 1) := by decide +kernel
theorem dX7_digest_58 : decode cX7_digest 58 = .ok (.aload_n 0, 1) := by decide +kernel
theorem dX7_digest_59 : decode cX7_digest 59 = .ok (.iload_n 3, 1) := by decide +kernel
theorem dX7_digest_60 : decode cX7_digest 60 = .ok (.iload 4, 2) := by decide +kernel
theorem dX7_digest_62 : decode cX7_digest 62 = .ok (.invokevirtual 237, 3) := by decide +kernel
theorem dX7_digest_65 : decode cX7_digest 65 = .ok (.i2l, 1) := by decide +kernel
theorem dX7_digest_66 : decode cX7_digest 66 = .ok (.ladd, 1) := by decide +kernel
theorem dX7_digest_67 : decode cX7_digest 67 = .ok (.lstore_n 1, 1) := by decide +kernel
theorem dX7_digest_68 : decode cX7_digest 68 = .ok (.iinc 4 1, 3) := by decide +kernel
theorem dX7_digest_71 : decode cX7_digest 71 = .ok (.goto (-24), 3) := by decide +kernel
theorem dX7_digest_74 : decode cX7_digest 74 = .ok (.iinc 3 1, 3) := by decide +kernel
theorem dX7_digest_77 : decode cX7_digest 77 = .ok (.goto (-44), 3) := by decide +kernel
theorem dX7_digest_80 : decode cX7_digest 80 = .ok (.iconst 0, 1) := by decide +kernel
theorem dX7_digest_81 : decode cX7_digest 81 = .ok (.istore_n 3, 1) := by decide +kernel
theorem dX7_digest_82 : decode cX7_digest 82 = .ok (.iload_n 3, 1) := by decide +kernel
theorem dX7_digest_83 : decode cX7_digest 83 = .ok (.aload_n 0, 1) := by decide +kernel
theorem dX7_digest_84 : decode cX7_digest 84 = .ok (.getfield 26, 3) := by decide +kernel
theorem dX7_digest_87 : decode cX7_digest 87 = .ok (.getfield 124, 3) := by decide +kernel
theorem dX7_digest_90 : decode cX7_digest 90 = .ok (.if_icmp .ge 121, 3) := by decide +kernel
theorem dX7_digest_93 : decode cX7_digest 93 = .ok (.lload_n 1, 1) := by decide +kernel
theorem dX7_digest_94 : decode cX7_digest 94 = .ok (.ldc2_w 232, 3) := by decide +kernel
theorem dX7_digest_97 : decode cX7_digest 97 = .ok (.lmul, 1) := by decide +kernel
theorem dX7_digest_98 : decode cX7_digest 98 = .ok (.aload_n 0, 1) := by decide +kernel
theorem dX7_digest_99 : decode cX7_digest 99 = .ok (.iload_n 3, 1) := by decide +kernel
theorem dX7_digest_100 : decode cX7_digest 100 = .ok (.aload_n 0, 1) := by decide +kernel
theorem dX7_digest_101 : decode cX7_digest 101 = .ok (.getfield 51, 3) := by decide +kernel
theorem dX7_digest_104 : decode cX7_digest 104 = .ok (.iconst 0, 1) := by decide +kernel
theorem dX7_digest_105 : decode cX7_digest 105 = .ok (.invokevirtual 240, 3) := by decide +kernel
theorem dX7_digest_108 : decode cX7_digest 108 = .ok (.i2l, 1) := by decide +kernel
theorem dX7_digest_109 : decode cX7_digest 109 = .ok (.ladd, 1) := by decide +kernel
theorem dX7_digest_110 : decode cX7_digest 110 = .ok (.lstore_n 1, 1) := by decide +kernel
theorem dX7_digest_111 : decode cX7_digest 111 = .ok (.lload_n 1, 1) := by decide +kernel
theorem dX7_digest_112 : decode cX7_digest 112 = .ok (.ldc2_w 232, 3) := by decide +kernel
theorem dX7_digest_115 : decode cX7_digest 115 = .ok (.lmul, 1) := by decide +kernel
theorem dX7_digest_116 : decode cX7_digest 116 = .ok (.aload_n 0, 1) := by decide +kernel
theorem dX7_digest_117 : decode cX7_digest 117 = .ok (.iload_n 3, 1) := by decide +kernel
theorem dX7_digest_118 : decode cX7_digest 118 = .ok (.aload_n 0, 1) := by decide +kernel
theorem dX7_digest_119 : decode cX7_digest 119 = .ok (.getfield 51, 3) := by decide +kernel
theorem dX7_digest_122 : decode cX7_digest 122 = .ok (.iconst 0, 1) := by decide +kernel
theorem dX7_digest_123 : decode cX7_digest 123 = .ok (.invokevirtual 243, 3) := by decide +kernel
theorem dX7_digest_126 : decode cX7_digest 126 = .ok (.i2l, 1) := by decide +kernel
theorem dX7_digest_127 : decode cX7_digest 127 = .ok (.ladd, 1) := by decide +kernel
theorem dX7_digest_128 : decode cX7_digest 128 = .ok (.lstore_n 1, 1) := by decide +kernel
theorem dX7_digest_129 : decode cX7_digest 129 = .ok (.lload_n 1, 1) := by decide +kernel
theorem dX7_digest_130 : decode cX7_digest 130 = .ok (.ldc2_w 232, 3) := by decide +kernel
theorem dX7_digest_133 : decode cX7_digest 133 = .ok (.lmul, 1) := by decide +kernel
theorem dX7_digest_134 : decode cX7_digest 134 = .ok (.aload_n 0, 1) := by decide +kernel
theorem dX7_digest_135 : decode cX7_digest 135 = .ok (.iload_n 3, 1) := by decide +kernel
theorem dX7_digest_136 : decode cX7_digest 136 = .ok (.aload_n 0, 1) := by decide +kernel
theorem dX7_digest_137 : decode cX7_digest 137 = .ok (.getfield 51, 3) := by decide +kernel
theorem dX7_digest_140 : decode cX7_digest 140 = .ok (.invokevirtual 246, 3) := by decide +kernel
theorem dX7_digest_143 : decode cX7_digest 143 = .ok (.i2l, 1) := by decide +kernel
theorem dX7_digest_144 : decode cX7_digest 144 = .ok (.ladd, 1) := by decide +kernel
theorem dX7_digest_145 : decode cX7_digest 145 = .ok (.lstore_n 1, 1) := by decide +kernel
theorem dX7_digest_146 : decode cX7_digest 146 = .ok (.lload_n 1, 1) := by decide +kernel
theorem dX7_digest_147 : decode cX7_digest 147 = .ok (.ldc2_w 232, 3) := by decide +kernel
theorem dX7_digest_150 : decode cX7_digest 150 = .ok (.lmul, 1) := by decide +kernel
theorem dX7_digest_151 : decode cX7_digest 151 = .ok (.aload_n 0, 1) := by decide +kernel
theorem dX7_digest_152 : decode cX7_digest 152 = .ok (.iload_n 3, 1) := by decide +kernel
theorem dX7_digest_153 : decode cX7_digest 153 = .ok (.sipush 399, 3) := by decide +kernel
theorem dX7_digest_156 : decode cX7_digest 156 = .ok (.invokevirtual 246, 3) := by decide +kernel
theorem dX7_digest_159 : decode cX7_digest 159 = .ok (.i2l, 1) := by decide +kernel
theorem dX7_digest_160 : decode cX7_digest 160 = .ok (.ladd, 1) := by decide +kernel
theorem dX7_digest_161 : decode cX7_digest 161 = .ok (.lstore_n 1, 1) := by decide +kernel
theorem dX7_digest_162 : decode cX7_digest 162 = .ok (.lload_n 1, 1) := by decide +kernel
theorem dX7_digest_163 : decode cX7_digest 163 = .ok (.ldc2_w 232, 3) := by decide +kernel
theorem dX7_digest_166 : decode cX7_digest 166 = .ok (.lmul, 1) := by decide +kernel
theorem dX7_digest_167 : decode cX7_digest 167 = .ok (.aload_n 0, 1) := by decide +kernel
theorem dX7_digest_168 : decode cX7_digest 168 = .ok (.iload_n 3, 1) := by decide +kernel
theorem dX7_digest_169 : decode cX7_digest 169 = .ok (.aload_n 0, 1) := by decide +kernel
theorem dX7_digest_170 : decode cX7_digest 170 = .ok (.getfield 51, 3) := by decide +kernel
theorem dX7_digest_173 : decode cX7_digest 173 = .ok (.invokevirtual 249, 3) := by decide +kernel
theorem dX7_digest_176 : decode cX7_digest 176 = .ok (.i2l, 1) := by decide +kernel
theorem dX7_digest_177 : decode cX7_digest 177 = .ok (.ladd, 1) := by decide +kernel
theorem dX7_digest_178 : decode cX7_digest 178 = .ok (.lstore_n 1, 1) := by decide +kernel
theorem dX7_digest_179 : decode cX7_digest 179 = .ok (.lload_n 1, 1) := by decide +kernel
theorem dX7_digest_180 : decode cX7_digest 180 = .ok (.ldc2_w 232, 3) := by decide +kernel
theorem dX7_digest_183 : decode cX7_digest 183 = .ok (.lmul, 1) := by decide +kernel
theorem dX7_digest_184 : decode cX7_digest 184 = .ok (.aload_n 0, 1) := by decide +kernel
theorem dX7_digest_185 : decode cX7_digest 185 = .ok (.iload_n 3, 1) := by decide +kernel
theorem dX7_digest_186 : decode cX7_digest 186 = .ok (.invokevirtual 252, 3) := by decide +kernel
theorem dX7_digest_189 : decode cX7_digest 189 = .ok (.i2l, 1) := by decide +kernel
theorem dX7_digest_190 : decode cX7_digest 190 = .ok (.ladd, 1) := by decide +kernel
theorem dX7_digest_191 : decode cX7_digest 191 = .ok (.lstore_n 1, 1) := by decide +kernel
theorem dX7_digest_192 : decode cX7_digest 192 = .ok (.lload_n 1, 1) := by decide +kernel
theorem dX7_digest_193 : decode cX7_digest 193 = .ok (.ldc2_w 232, 3) := by decide +kernel
theorem dX7_digest_196 : decode cX7_digest 196 = .ok (.lmul, 1) := by decide +kernel
theorem dX7_digest_197 : decode cX7_digest 197 = .ok (.aload_n 0, 1) := by decide +kernel
theorem dX7_digest_198 : decode cX7_digest 198 = .ok (.iload_n 3, 1) := by decide +kernel
theorem dX7_digest_199 : decode cX7_digest 199 = .ok (.invokevirtual 255, 3) := by decide +kernel
theorem dX7_digest_202 : decode cX7_digest 202 = .ok (.i2l, 1) := by decide +kernel
theorem dX7_digest_203 : decode cX7_digest 203 = .ok (.ladd, 1) := by decide +kernel
theorem dX7_digest_204 : decode cX7_digest 204 = .ok (.lstore_n 1, 1) := by decide +kernel
theorem dX7_digest_205 : decode cX7_digest 205 = .ok (.iinc 3 1, 3) := by decide +kernel
theorem dX7_digest_208 : decode cX7_digest 208 = .ok (.goto (-126), 3) := by decide +kernel
theorem dX7_digest_211 : decode cX7_digest 211 = .ok (.iconst 0, 1) := by decide +kernel
theorem dX7_digest_212 : decode cX7_digest 212 = .ok (.istore_n 3, 1) := by decide +kernel
theorem dX7_digest_213 : decode cX7_digest 213 = .ok (.iload_n 3, 1) := by decide +kernel
theorem dX7_digest_214 : decode cX7_digest 214 = .ok (.aload_n 0, 1) := by decide +kernel
theorem dX7_digest_215 : decode cX7_digest 215 = .ok (.getfield 40, 3) := by decide +kernel
theorem dX7_digest_218 : decode cX7_digest 218 = .ok (.getfield 177, 3) := by decide +kernel
theorem dX7_digest_221 : decode cX7_digest 221 = .ok (.if_icmp .ge 40, 3) := by decide +kernel
theorem dX7_digest_224 : decode cX7_digest 224 = .ok (.iconst 0, 1) := by decide +kernel
theorem dX7_digest_225 : decode cX7_digest 225 = .ok (.istore 4, 2) := by decide +kernel
theorem dX7_digest_227 : decode cX7_digest 227 = .ok (.iload 4, 2) := by decide +kernel
theorem dX7_digest_229 : decode cX7_digest 229 = .ok (.bipush 6, 2) := by decide +kernel
theorem dX7_digest_231 : decode cX7_digest 231 = .ok (.if_icmp .ge 24, 3) := by decide +kernel
theorem dX7_digest_234 : decode cX7_digest 234 = .ok (.lload_n 1, 1) := by decide +kernel
theorem dX7_digest_235 : decode cX7_digest 235 = .ok (.ldc2_w 232, 3) := by decide +kernel
theorem dX7_digest_238 : decode cX7_digest 238 = .ok (.lmul, 1) := by decide +kernel
theorem dX7_digest_239 : decode cX7_digest 239 = .ok (.aload_n 0, 1) := by decide +kernel
theorem dX7_digest_240 : decode cX7_digest 240 = .ok (.iload_n 3, 1) := by decide +kernel
theorem dX7_digest_241 : decode cX7_digest 241 = .ok (.iload 4, 2) := by decide +kernel
theorem dX7_digest_243 : decode cX7_digest 243 = .ok (.invokevirtual 258, 3) := by decide +kernel
theorem dX7_digest_246 : decode cX7_digest 246 = .ok (.i2l, 1) := by decide +kernel
theorem dX7_digest_247 : decode cX7_digest 247 = .ok (.ladd, 1) := by decide +kernel
theorem dX7_digest_248 : decode cX7_digest 248 = .ok (.lstore_n 1, 1) := by decide +kernel
theorem dX7_digest_249 : decode cX7_digest 249 = .ok (.iinc 4 1, 3) := by decide +kernel
theorem dX7_digest_252 : decode cX7_digest 252 = .ok (.goto (-25), 3) := by decide +kernel
theorem dX7_digest_255 : decode cX7_digest 255 = .ok (.iinc 3 1, 3) := by decide +kernel
theorem dX7_digest_258 : decode cX7_digest 258 = .ok (.goto (-45), 3) := by decide +kernel
theorem dX7_digest_261 : decode cX7_digest 261 = .ok (.iconst 0, 1) := by decide +kernel
theorem dX7_digest_262 : decode cX7_digest 262 = .ok (.istore_n 3, 1) := by decide +kernel
theorem dX7_digest_263 : decode cX7_digest 263 = .ok (.iload_n 3, 1) := by decide +kernel
theorem dX7_digest_264 : decode cX7_digest 264 = .ok (.iconst 4, 1) := by decide +kernel
theorem dX7_digest_265 : decode cX7_digest 265 = .ok (.if_icmp .ge 63, 3) := by decide +kernel
theorem dX7_digest_268 : decode cX7_digest 268 = .ok (.lload_n 1, 1) := by decide +kernel
theorem dX7_digest_269 : decode cX7_digest 269 = .ok (.ldc2_w 232, 3) := by decide +kernel
theorem dX7_digest_272 : decode cX7_digest 272 = .ok (.lmul, 1) := by decide +kernel
theorem dX7_digest_273 : decode cX7_digest 273 = .ok (.aload_n 0, 1) := by decide +kernel
theorem dX7_digest_274 : decode cX7_digest 274 = .ok (.iload_n 3, 1) := by decide +kernel
theorem dX7_digest_275 : decode cX7_digest 275 = .ok (.invokevirtual 261, 3) := by decide +kernel
theorem dX7_digest_278 : decode cX7_digest 278 = .ok (.i2l, 1) := by decide +kernel
theorem dX7_digest_279 : decode cX7_digest 279 = .ok (.ladd, 1) := by decide +kernel
theorem dX7_digest_280 : decode cX7_digest 280 = .ok (.lstore_n 1, 1) := by decide +kernel
theorem dX7_digest_281 : decode cX7_digest 281 = .ok (.iconst 0, 1) := by decide +kernel
theorem dX7_digest_282 : decode cX7_digest 282 = .ok (.istore 4, 2) := by decide +kernel
theorem dX7_digest_284 : decode cX7_digest 284 = .ok (.iload 4, 2) := by decide +kernel
theorem dX7_digest_286 : decode cX7_digest 286 = .ok (.aload_n 0, 1) := by decide +kernel
theorem dX7_digest_287 : decode cX7_digest 287 = .ok (.getfield 26, 3) := by decide +kernel
theorem dX7_digest_290 : decode cX7_digest 290 = .ok (.getfield 124, 3) := by decide +kernel
theorem dX7_digest_293 : decode cX7_digest 293 = .ok (.if_icmp .ge 29, 3) := by decide +kernel
theorem dX7_digest_296 : decode cX7_digest 296 = .ok (.lload_n 1, 1) := by decide +kernel
theorem dX7_digest_297 : decode cX7_digest 297 = .ok (.ldc2_w 232, 3) := by decide +kernel
theorem dX7_digest_300 : decode cX7_digest 300 = .ok (.lmul, 1) := by decide +kernel
theorem dX7_digest_301 : decode cX7_digest 301 = .ok (.aload_n 0, 1) := by decide +kernel
theorem dX7_digest_302 : decode cX7_digest 302 = .ok (.iload_n 3, 1) := by decide +kernel
theorem dX7_digest_303 : decode cX7_digest 303 = .ok (.iload 4, 2) := by decide +kernel
theorem dX7_digest_305 : decode cX7_digest 305 = .ok (.aload_n 0, 1) := by decide +kernel
theorem dX7_digest_306 : decode cX7_digest 306 = .ok (.getfield 51, 3) := by decide +kernel
theorem dX7_digest_309 : decode cX7_digest 309 = .ok (.iconst 1, 1) := by decide +kernel
theorem dX7_digest_310 : decode cX7_digest 310 = .ok (.invokevirtual 264, 3) := by decide +kernel
theorem dX7_digest_313 : decode cX7_digest 313 = .ok (.i2l, 1) := by decide +kernel
theorem dX7_digest_314 : decode cX7_digest 314 = .ok (.ladd, 1) := by decide +kernel
theorem dX7_digest_315 : decode cX7_digest 315 = .ok (.lstore_n 1, 1) := by decide +kernel
theorem dX7_digest_316 : decode cX7_digest 316 = .ok (.iinc 4 1, 3) := by decide +kernel
theorem dX7_digest_319 : decode cX7_digest 319 = .ok (.goto (-35), 3) := by decide +kernel
theorem dX7_digest_322 : decode cX7_digest 322 = .ok (.iinc 3 1, 3) := by decide +kernel
theorem dX7_digest_325 : decode cX7_digest 325 = .ok (.goto (-62), 3) := by decide +kernel
theorem dX7_digest_328 : decode cX7_digest 328 = .ok (.lload_n 1, 1) := by decide +kernel
theorem dX7_digest_329 : decode cX7_digest 329 = .ok (.lreturn, 1) := by decide +kernel
set_option maxRecDepth 20000 in
theorem ggX7_leastHeight_X7_kindOf : GoodIn wsX7_leastHeight wsX7_kindOf := goodIn_r _ [11, 12, 1, 13, 14, 15, 16, 17, 18, 42, 43, 44, 45, 46, 47, 48, 49, 59, 60, 50, 51, 52, 61] (by decide +kernel) (by decide +kernel)
set_option maxRecDepth 20000 in
theorem gX7_leastHeight_X7_kindOf : GoodIn wsX7_leastHeight (wsV RX7 267 RX7 yX7_kindOf wsX7_kindOf) := goodIn_app (goodIn_of _ (by decide +kernel)) ggX7_leastHeight_X7_kindOf
set_option maxRecDepth 20000 in
theorem ggX7_leastHeight_X6_at : GoodIn wsX7_leastHeight wsX6_at := goodIn_r _ [17, 18, 61] (by decide +kernel) (by decide +kernel)
set_option maxRecDepth 20000 in
theorem gX7_leastHeight_X6_at : GoodIn wsX7_leastHeight (wsV RX7 87 RX6 yX6_at wsX6_at) := goodIn_app (goodIn_of _ (by decide +kernel)) ggX7_leastHeight_X6_at
set_option maxRecDepth 20000 in
theorem ggX7_leastHeight_X7_baseOf : GoodIn wsX7_leastHeight wsX7_baseOf := goodIn_r _ [21] (by decide +kernel) (by decide +kernel)
set_option maxRecDepth 20000 in
theorem gX7_leastHeight_X7_baseOf : GoodIn wsX7_leastHeight (va_wsS RX7 273 yX7_baseOf wsX7_baseOf) := goodIn_app (goodIn_of _ (by decide +kernel)) ggX7_leastHeight_X7_baseOf
set_option maxRecDepth 20000 in
theorem ggX7_leastHeight_X4_isThere : GoodIn wsX7_leastHeight wsX4_isThere := goodIn_r _ [26, 27, 28, 29, 14, 15, 16, 17, 18, 53, 54, 55, 56, 57, 58, 61] (by decide +kernel) (by decide +kernel)
set_option maxRecDepth 20000 in
theorem gX7_leastHeight_X4_isThere : GoodIn wsX7_leastHeight (wsV RX7 276 RX4 yX4_isThere wsX4_isThere) := goodIn_app (goodIn_of _ (by decide +kernel)) ggX7_leastHeight_X4_isThere
set_option maxRecDepth 20000 in
theorem ggX7_leastHeight_X7_needOf : GoodIn wsX7_leastHeight wsX7_needOf := goodIn_r _ [32, 33, 34, 5, 35, 36, 37, 10, 38] (by decide +kernel) (by decide +kernel)
set_option maxRecDepth 20000 in
theorem gX7_leastHeight_X7_needOf : GoodIn wsX7_leastHeight (va_wsS RX7 280 yX7_needOf wsX7_needOf) := goodIn_app (goodIn_of _ (by decide +kernel)) ggX7_leastHeight_X7_needOf
set_option maxRecDepth 20000 in
theorem ggX7_leastHeight_X7_roundedUp : GoodIn wsX7_leastHeight wsX7_roundedUp := goodIn_r _ [41] (by decide +kernel) (by decide +kernel)
set_option maxRecDepth 20000 in
theorem gX7_leastHeight_X7_roundedUp : GoodIn wsX7_leastHeight (va_wsS RX7 283 yX7_roundedUp wsX7_roundedUp) := goodIn_app (goodIn_of _ (by decide +kernel)) ggX7_leastHeight_X7_roundedUp
theorem dX7_leastHeight_0 : decode cX7_leastHeight 0 = .ok (.aload_n 0, 1) := by decide +kernel
theorem dX7_leastHeight_1 : decode cX7_leastHeight 1 = .ok (.iload_n 1, 1) := by decide +kernel
theorem dX7_leastHeight_2 : decode cX7_leastHeight 2 = .ok (.invokevirtual 267, 3) := by decide +kernel
theorem dX7_leastHeight_5 : decode cX7_leastHeight 5 = .ok (.istore 4, 2) := by decide +kernel
theorem dX7_leastHeight_7 : decode cX7_leastHeight 7 = .ok (.aload_n 0, 1) := by decide +kernel
theorem dX7_leastHeight_8 : decode cX7_leastHeight 8 = .ok (.getfield 26, 3) := by decide +kernel
theorem dX7_leastHeight_11 : decode cX7_leastHeight 11 = .ok (.getfield 270, 3) := by decide +kernel
theorem dX7_leastHeight_14 : decode cX7_leastHeight 14 = .ok (.iload_n 1, 1) := by decide +kernel
theorem dX7_leastHeight_15 : decode cX7_leastHeight 15 = .ok (.invokevirtual 87, 3) := by decide +kernel
theorem dX7_leastHeight_18 : decode cX7_leastHeight 18 = .ok (.istore 5, 2) := by decide +kernel
theorem dX7_leastHeight_20 : decode cX7_leastHeight 20 = .ok (.iload 4, 2) := by decide +kernel
theorem dX7_leastHeight_22 : decode cX7_leastHeight 22 = .ok (.invokestatic 273, 3) := by decide +kernel
theorem dX7_leastHeight_25 : decode cX7_leastHeight 25 = .ok (.istore 6, 2) := by decide +kernel
theorem dX7_leastHeight_27 : decode cX7_leastHeight 27 = .ok (.iconst 0, 1) := by decide +kernel
theorem dX7_leastHeight_28 : decode cX7_leastHeight 28 = .ok (.istore 7, 2) := by decide +kernel
theorem dX7_leastHeight_30 : decode cX7_leastHeight 30 = .ok (.iload 7, 2) := by decide +kernel
theorem dX7_leastHeight_32 : decode cX7_leastHeight 32 = .ok (.aload_n 0, 1) := by decide +kernel
theorem dX7_leastHeight_33 : decode cX7_leastHeight 33 = .ok (.getfield 10, 3) := by decide +kernel
theorem dX7_leastHeight_36 : decode cX7_leastHeight 36 = .ok (.getfield 66, 3) := by decide +kernel
theorem dX7_leastHeight_39 : decode cX7_leastHeight 39 = .ok (.if_icmp .ge 82, 3) := by decide +kernel
theorem dX7_leastHeight_42 : decode cX7_leastHeight 42 = .ok (.iload 7, 2) := by decide +kernel
theorem dX7_leastHeight_44 : decode cX7_leastHeight 44 = .ok (.iload_n 3, 1) := by decide +kernel
theorem dX7_leastHeight_45 : decode cX7_leastHeight 45 = .ok (.if_icmp .eq 70, 3) := by decide +kernel
theorem dX7_leastHeight_48 : decode cX7_leastHeight 48 = .ok (.aload_n 0, 1) := by decide +kernel
theorem dX7_leastHeight_49 : decode cX7_leastHeight 49 = .ok (.getfield 10, 3) := by decide +kernel
theorem dX7_leastHeight_52 : decode cX7_leastHeight 52 = .ok (.iload 7, 2) := by decide +kernel
theorem dX7_leastHeight_54 : decode cX7_leastHeight 54 = .ok (.iload_n 2, 1) := by decide +kernel
theorem dX7_leastHeight_55 : decode cX7_leastHeight 55 = .ok (.invokevirtual 276, 3) := by decide +kernel
theorem dX7_leastHeight_58 : decode cX7_leastHeight 58 = .ok (.ifCond .eq 57, 3) := by decide +kernel
theorem dX7_leastHeight_61 : decode cX7_leastHeight 61 = .ok (.aload_n 0, 1) := by decide +kernel
theorem dX7_leastHeight_62 : decode cX7_leastHeight 62 = .ok (.getfield 10, 3) := by decide +kernel
theorem dX7_leastHeight_65 : decode cX7_leastHeight 65 = .ok (.getfield 178, 3) := by decide +kernel
theorem dX7_leastHeight_68 : decode cX7_leastHeight 68 = .ok (.iload 7, 2) := by decide +kernel
theorem dX7_leastHeight_70 : decode cX7_leastHeight 70 = .ok (.invokevirtual 87, 3) := by decide +kernel
theorem dX7_leastHeight_73 : decode cX7_leastHeight 73 = .ok (.aload_n 0, 1) := by decide +kernel
theorem dX7_leastHeight_74 : decode cX7_leastHeight 74 = .ok (.getfield 10, 3) := by decide +kernel
theorem dX7_leastHeight_77 : decode cX7_leastHeight 77 = .ok (.getfield 181, 3) := by decide +kernel
theorem dX7_leastHeight_80 : decode cX7_leastHeight 80 = .ok (.iload 7, 2) := by decide +kernel
theorem dX7_leastHeight_82 : decode cX7_leastHeight 82 = .ok (.invokevirtual 87, 3) := by decide +kernel
theorem dX7_leastHeight_85 : decode cX7_leastHeight 85 = .ok (.aload_n 0, 1) := by decide +kernel
theorem dX7_leastHeight_86 : decode cX7_leastHeight 86 = .ok (.getfield 10, 3) := by decide +kernel
theorem dX7_leastHeight_89 : decode cX7_leastHeight 89 = .ok (.getfield 184, 3) := by decide +kernel
theorem dX7_leastHeight_92 : decode cX7_leastHeight 92 = .ok (.iload 7, 2) := by decide +kernel
theorem dX7_leastHeight_94 : decode cX7_leastHeight 94 = .ok (.invokevirtual 87, 3) := by decide +kernel
theorem dX7_leastHeight_97 : decode cX7_leastHeight 97 = .ok (.iload 4, 2) := by decide +kernel
theorem dX7_leastHeight_99 : decode cX7_leastHeight 99 = .ok (.iload 5, 2) := by decide +kernel
theorem dX7_leastHeight_101 : decode cX7_leastHeight 101 = .ok (.invokestatic 280, 3) := by decide +kernel
theorem dX7_leastHeight_104 : decode cX7_leastHeight 104 = .ok (.istore 8, 2) := by decide +kernel
theorem dX7_leastHeight_106 : decode cX7_leastHeight 106 = .ok (.iload 6, 2) := by decide +kernel
theorem dX7_leastHeight_108 : decode cX7_leastHeight 108 = .ok (.iload 8, 2) := by decide +kernel
theorem dX7_leastHeight_110 : decode cX7_leastHeight 110 = .ok (.invokestatic 98, 3) := by decide +kernel
theorem dX7_leastHeight_113 : decode cX7_leastHeight 113 = .ok (.istore 6, 2) := by decide +kernel
theorem dX7_leastHeight_115 : decode cX7_leastHeight 115 = .ok (.iinc 7 1, 3) := by decide +kernel
theorem dX7_leastHeight_118 : decode cX7_leastHeight 118 = .ok (.goto (-88), 3) := by decide +kernel
theorem dX7_leastHeight_121 : decode cX7_leastHeight 121 = .ok (.iload 6, 2) := by decide +kernel
theorem dX7_leastHeight_123 : decode cX7_leastHeight 123 = .ok (.invokestatic 283, 3) := by decide +kernel
theorem dX7_leastHeight_126 : decode cX7_leastHeight 126 = .ok (.ireturn, 1) := by decide +kernel
set_option maxRecDepth 20000 in
theorem ggX7_heightInForce_X6_at : GoodIn wsX7_heightInForce wsX6_at := goodIn_r _ [9, 10, 66] (by decide +kernel) (by decide +kernel)
set_option maxRecDepth 20000 in
theorem gX7_heightInForce_X6_at : GoodIn wsX7_heightInForce (wsV RX7 87 RX6 yX6_at wsX6_at) := goodIn_app (goodIn_of _ (by decide +kernel)) ggX7_heightInForce_X6_at
set_option maxRecDepth 20000 in
theorem ggX7_heightInForce_X0_isGood : GoodIn wsX7_heightInForce wsX0_isGood := goodIn_r _ [15, 16, 17, 6, 7, 8, 9, 10, 67, 68, 66] (by decide +kernel) (by decide +kernel)
set_option maxRecDepth 20000 in
theorem gX7_heightInForce_X0_isGood : GoodIn wsX7_heightInForce (wsV RX7 288 RX0 yX0_isGood wsX0_isGood) := goodIn_app (goodIn_of _ (by decide +kernel)) ggX7_heightInForce_X0_isGood
set_option maxRecDepth 20000 in
theorem ggX7_heightInForce_X1_heightOn : GoodIn wsX7_heightInForce wsX1_heightOn := goodIn_r _ [22, 23, 24, 25, 26, 27, 6, 7, 8, 9, 10, 69, 70, 71, 72, 66] (by decide +kernel) (by decide +kernel)
set_option maxRecDepth 20000 in
theorem gX7_heightInForce_X1_heightOn : GoodIn wsX7_heightInForce (wsV RX7 193 RX1 yX1_heightOn wsX1_heightOn) := goodIn_app (goodIn_of _ (by decide +kernel)) ggX7_heightInForce_X1_heightOn
set_option maxRecDepth 20000 in
theorem ggX7_heightInForce_X3_applyTo : GoodIn wsX7_heightInForce wsX3_applyTo := goodIn_r _ [32, 33, 34, 35, 36, 37, 38, 39, 40, 41, 42, 31, 43, 44, 45, 46, 47, 6, 7, 8, 9, 10, 59, 60, 61, 62, 63, 64, 65, 66] (by decide +kernel) (by decide +kernel)
set_option maxRecDepth 20000 in
theorem gX7_heightInForce_X3_applyTo : GoodIn wsX7_heightInForce (wsV RX7 291 RX3 yX3_applyTo wsX3_applyTo) := goodIn_app (goodIn_of _ (by decide +kernel)) ggX7_heightInForce_X3_applyTo
theorem dX7_heightInForce_0 : decode cX7_heightInForce 0 = .ok (.aload_n 0, 1) := by decide +kernel
theorem dX7_heightInForce_1 : decode cX7_heightInForce 1 = .ok (.getfield 26, 3) := by decide +kernel
theorem dX7_heightInForce_4 : decode cX7_heightInForce 4 = .ok (.getfield 286, 3) := by decide +kernel
theorem dX7_heightInForce_7 : decode cX7_heightInForce 7 = .ok (.iload_n 1, 1) := by decide +kernel
theorem dX7_heightInForce_8 : decode cX7_heightInForce 8 = .ok (.invokevirtual 87, 3) := by decide +kernel
theorem dX7_heightInForce_11 : decode cX7_heightInForce 11 = .ok (.istore_n 3, 1) := by decide +kernel
theorem dX7_heightInForce_12 : decode cX7_heightInForce 12 = .ok (.aload_n 0, 1) := by decide +kernel
theorem dX7_heightInForce_13 : decode cX7_heightInForce 13 = .ok (.getfield 19, 3) := by decide +kernel
theorem dX7_heightInForce_16 : decode cX7_heightInForce 16 = .ok (.iload_n 3, 1) := by decide +kernel
theorem dX7_heightInForce_17 : decode cX7_heightInForce 17 = .ok (.iload_n 2, 1) := by decide +kernel
theorem dX7_heightInForce_18 : decode cX7_heightInForce 18 = .ok (.invokevirtual 288, 3) := by decide +kernel
theorem dX7_heightInForce_21 : decode cX7_heightInForce 21 = .ok (.ifCond .ne 5, 3) := by decide +kernel
theorem dX7_heightInForce_24 : decode cX7_heightInForce 24 = .ok (.iconst (-1), 1) := by decide +kernel
theorem dX7_heightInForce_25 : decode cX7_heightInForce 25 = .ok (.ireturn, 1) := by decide +kernel
theorem dX7_heightInForce_26 : decode cX7_heightInForce 26 = .ok (.aload_n 0, 1) := by decide +kernel
theorem dX7_heightInForce_27 : decode cX7_heightInForce 27 = .ok (.getfield 33, 3) := by decide +kernel
theorem dX7_heightInForce_30 : decode cX7_heightInForce 30 = .ok (.iload_n 1, 1) := by decide +kernel
theorem dX7_heightInForce_31 : decode cX7_heightInForce 31 = .ok (.iload_n 2, 1) := by decide +kernel
theorem dX7_heightInForce_32 : decode cX7_heightInForce 32 = .ok (.invokevirtual 193, 3) := by decide +kernel
theorem dX7_heightInForce_35 : decode cX7_heightInForce 35 = .ok (.istore 4, 2) := by decide +kernel
theorem dX7_heightInForce_37 : decode cX7_heightInForce 37 = .ok (.aload_n 0, 1) := by decide +kernel
theorem dX7_heightInForce_38 : decode cX7_heightInForce 38 = .ok (.getfield 40, 3) := by decide +kernel
theorem dX7_heightInForce_41 : decode cX7_heightInForce 41 = .ok (.iload 4, 2) := by decide +kernel
theorem dX7_heightInForce_43 : decode cX7_heightInForce 43 = .ok (.iload_n 1, 1) := by decide +kernel
theorem dX7_heightInForce_44 : decode cX7_heightInForce 44 = .ok (.iload_n 3, 1) := by decide +kernel
theorem dX7_heightInForce_45 : decode cX7_heightInForce 45 = .ok (.iload_n 2, 1) := by decide +kernel
theorem dX7_heightInForce_46 : decode cX7_heightInForce 46 = .ok (.aload_n 0, 1) := by decide +kernel
theorem dX7_heightInForce_47 : decode cX7_heightInForce 47 = .ok (.getfield 40, 3) := by decide +kernel
theorem dX7_heightInForce_50 : decode cX7_heightInForce 50 = .ok (.getfield 177, 3) := by decide +kernel
theorem dX7_heightInForce_53 : decode cX7_heightInForce 53 = .ok (.invokevirtual 291, 3) := by decide +kernel
theorem dX7_heightInForce_56 : decode cX7_heightInForce 56 = .ok (.ireturn, 1) := by decide +kernel
set_option maxRecDepth 20000 in
theorem ggX7_heightBelieved_X6_at : GoodIn wsX7_heightBelieved wsX6_at := goodIn_r _ [9, 10, 54] (by decide +kernel) (by decide +kernel)
set_option maxRecDepth 20000 in
theorem gX7_heightBelieved_X6_at : GoodIn wsX7_heightBelieved (wsV RX7 87 RX6 yX6_at wsX6_at) := goodIn_app (goodIn_of _ (by decide +kernel)) ggX7_heightBelieved_X6_at
set_option maxRecDepth 20000 in
theorem ggX7_heightBelieved_X1_heightOn : GoodIn wsX7_heightBelieved wsX1_heightOn := goodIn_r _ [15, 16, 17, 18, 19, 20, 6, 7, 8, 9, 10, 55, 56, 57, 58, 54] (by decide +kernel) (by decide +kernel)
set_option maxRecDepth 20000 in
theorem gX7_heightBelieved_X1_heightOn : GoodIn wsX7_heightBelieved (wsV RX7 193 RX1 yX1_heightOn wsX1_heightOn) := goodIn_app (goodIn_of _ (by decide +kernel)) ggX7_heightBelieved_X1_heightOn
set_option maxRecDepth 20000 in
theorem ggX7_heightBelieved_X3_applyTo : GoodIn wsX7_heightBelieved wsX3_applyTo := goodIn_r _ [25, 26, 27, 28, 29, 30, 31, 32, 33, 34, 35, 24, 36, 37, 38, 39, 40, 6, 7, 8, 9, 10, 59, 60, 61, 62, 63, 64, 65, 54] (by decide +kernel) (by decide +kernel)
set_option maxRecDepth 20000 in
theorem gX7_heightBelieved_X3_applyTo : GoodIn wsX7_heightBelieved (wsV RX7 291 RX3 yX3_applyTo wsX3_applyTo) := goodIn_app (goodIn_of _ (by decide +kernel)) ggX7_heightBelieved_X3_applyTo
theorem dX7_heightBelieved_0 : decode cX7_heightBelieved 0 = .ok (.aload_n 0, 1) := by decide +kernel
theorem dX7_heightBelieved_1 : decode cX7_heightBelieved 1 = .ok (.getfield 47, 3) := by decide +kernel
theorem dX7_heightBelieved_4 : decode cX7_heightBelieved 4 = .ok (.getfield 171, 3) := by decide +kernel
theorem dX7_heightBelieved_7 : decode cX7_heightBelieved 7 = .ok (.iload_n 1, 1) := by decide +kernel
theorem dX7_heightBelieved_8 : decode cX7_heightBelieved 8 = .ok (.invokevirtual 87, 3) := by decide +kernel
theorem dX7_heightBelieved_11 : decode cX7_heightBelieved 11 = .ok (.istore 4, 2) := by decide +kernel
theorem dX7_heightBelieved_13 : decode cX7_heightBelieved 13 = .ok (.iload 4, 2) := by decide +kernel
theorem dX7_heightBelieved_15 : decode cX7_heightBelieved 15 = .ok (.iconst (-1), 1) := by decide +kernel
theorem dX7_heightBelieved_16 : decode cX7_heightBelieved 16 = .ok (.if_icmp .ne 5, 3) := by decide +kernel
theorem dX7_heightBelieved_19 : decode cX7_heightBelieved 19 = .ok (.iconst (-1), 1) := by decide +kernel
theorem dX7_heightBelieved_20 : decode cX7_heightBelieved 20 = .ok (.ireturn, 1) := by decide +kernel
theorem dX7_heightBelieved_21 : decode cX7_heightBelieved 21 = .ok (.aload_n 0, 1) := by decide +kernel
theorem dX7_heightBelieved_22 : decode cX7_heightBelieved 22 = .ok (.getfield 33, 3) := by decide +kernel
theorem dX7_heightBelieved_25 : decode cX7_heightBelieved 25 = .ok (.iload_n 2, 1) := by decide +kernel
theorem dX7_heightBelieved_26 : decode cX7_heightBelieved 26 = .ok (.iload 4, 2) := by decide +kernel
theorem dX7_heightBelieved_28 : decode cX7_heightBelieved 28 = .ok (.invokevirtual 193, 3) := by decide +kernel
theorem dX7_heightBelieved_31 : decode cX7_heightBelieved 31 = .ok (.istore 5, 2) := by decide +kernel
theorem dX7_heightBelieved_33 : decode cX7_heightBelieved 33 = .ok (.aload_n 0, 1) := by decide +kernel
theorem dX7_heightBelieved_34 : decode cX7_heightBelieved 34 = .ok (.getfield 40, 3) := by decide +kernel
theorem dX7_heightBelieved_37 : decode cX7_heightBelieved 37 = .ok (.iload 5, 2) := by decide +kernel
theorem dX7_heightBelieved_39 : decode cX7_heightBelieved 39 = .ok (.iload_n 2, 1) := by decide +kernel
theorem dX7_heightBelieved_40 : decode cX7_heightBelieved 40 = .ok (.aload_n 0, 1) := by decide +kernel
theorem dX7_heightBelieved_41 : decode cX7_heightBelieved 41 = .ok (.getfield 26, 3) := by decide +kernel
theorem dX7_heightBelieved_44 : decode cX7_heightBelieved 44 = .ok (.getfield 286, 3) := by decide +kernel
theorem dX7_heightBelieved_47 : decode cX7_heightBelieved 47 = .ok (.iload_n 2, 1) := by decide +kernel
theorem dX7_heightBelieved_48 : decode cX7_heightBelieved 48 = .ok (.invokevirtual 87, 3) := by decide +kernel
theorem dX7_heightBelieved_51 : decode cX7_heightBelieved 51 = .ok (.iload_n 3, 1) := by decide +kernel
theorem dX7_heightBelieved_52 : decode cX7_heightBelieved 52 = .ok (.aload_n 0, 1) := by decide +kernel
theorem dX7_heightBelieved_53 : decode cX7_heightBelieved 53 = .ok (.getfield 47, 3) := by decide +kernel
theorem dX7_heightBelieved_56 : decode cX7_heightBelieved 56 = .ok (.getfield 174, 3) := by decide +kernel
theorem dX7_heightBelieved_59 : decode cX7_heightBelieved 59 = .ok (.iload_n 1, 1) := by decide +kernel
theorem dX7_heightBelieved_60 : decode cX7_heightBelieved 60 = .ok (.invokevirtual 87, 3) := by decide +kernel
theorem dX7_heightBelieved_63 : decode cX7_heightBelieved 63 = .ok (.invokevirtual 291, 3) := by decide +kernel
theorem dX7_heightBelieved_66 : decode cX7_heightBelieved 66 = .ok (.ireturn, 1) := by decide +kernel
set_option maxRecDepth 20000 in
theorem ggX7_unsafeSet_X7_heightInForce : GoodIn wsX7_unsafeSet wsX7_heightInForce := goodIn_r _ [7, 1, 8, 9, 10, 11, 12, 13, 14, 15, 16, 17, 18, 19, 20, 21, 22, 23, 24, 25, 26, 27, 28, 29, 30, 31, 32, 33, 34, 35, 36, 37, 38, 39, 40, 41, 42, 43, 44, 45, 46, 47, 48, 49, 50, 51, 52, 53, 87, 88, 89, 90, 91, 92, 93, 94, 95, 96, 97, 98, 99, 100, 101, 102, 103, 104, 105, 106, 107, 108, 109, 110, 111] (by decide +kernel) (by decide +kernel)
set_option maxRecDepth 20000 in
theorem gX7_unsafeSet_X7_heightInForce : GoodIn wsX7_unsafeSet (wsV RX7 196 RX7 yX7_heightInForce wsX7_heightInForce) := goodIn_app (goodIn_of _ (by decide +kernel)) ggX7_unsafeSet_X7_heightInForce
set_option maxRecDepth 20000 in
theorem ggX7_unsafeSet_X7_leastHeight : GoodIn wsX7_unsafeSet wsX7_leastHeight := goodIn_r _ [57, 1, 58, 59, 43, 44, 45, 60, 61, 62, 6, 63, 8, 11, 12, 13, 14, 15, 16, 64, 65, 66, 67, 68, 69, 70, 71, 72, 73, 74, 75, 76, 77, 78, 79, 80, 81, 82, 83, 84, 85, 86, 87, 88, 89, 90, 91, 92, 93, 94, 95, 96, 97, 112, 113, 114, 115, 116, 117, 106, 107, 105] (by decide +kernel) (by decide +kernel)
set_option maxRecDepth 20000 in
theorem gX7_unsafeSet_X7_leastHeight : GoodIn wsX7_unsafeSet (wsV RX7 146 RX7 yX7_leastHeight wsX7_leastHeight) := goodIn_app (goodIn_of _ (by decide +kernel)) ggX7_unsafeSet_X7_leastHeight
theorem dX7_unsafeSet_0 : decode cX7_unsafeSet 0 = .ok (.iconst 0, 1) := by decide +kernel
theorem dX7_unsafeSet_1 : decode cX7_unsafeSet 1 = .ok (.istore_n 1, 1) := by decide +kernel
theorem dX7_unsafeSet_2 : decode cX7_unsafeSet 2 = .ok (.iconst 0, 1) := by decide +kernel
theorem dX7_unsafeSet_3 : decode cX7_unsafeSet 3 = .ok (.istore_n 2, 1) := by decide +kernel
theorem dX7_unsafeSet_4 : decode cX7_unsafeSet 4 = .ok (.iload_n 2, 1) := by decide +kernel
theorem dX7_unsafeSet_5 : decode cX7_unsafeSet 5 = .ok (.aload_n 0, 1) := by decide +kernel
theorem dX7_unsafeSet_6 : decode cX7_unsafeSet 6 = .ok (.getfield 26, 3) := by decide +kernel
theorem dX7_unsafeSet_9 : decode cX7_unsafeSet 9 = .ok (.getfield 124, 3) := by decide +kernel
theorem dX7_unsafeSet_12 : decode cX7_unsafeSet 12 = .ok (.if_icmp .ge 44, 3) := by decide +kernel
theorem dX7_unsafeSet_15 : decode cX7_unsafeSet 15 = .ok (.aload_n 0, 1) := by decide +kernel
theorem dX7_unsafeSet_16 : decode cX7_unsafeSet 16 = .ok (.iload_n 2, 1) := by decide +kernel
theorem dX7_unsafeSet_17 : decode cX7_unsafeSet 17 = .ok (.aload_n 0, 1) := by decide +kernel
theorem dX7_unsafeSet_18 : decode cX7_unsafeSet 18 = .ok (.getfield 51, 3) := by decide +kernel
theorem dX7_unsafeSet_21 : decode cX7_unsafeSet 21 = .ok (.invokevirtual 196, 3) := by decide +kernel
theorem dX7_unsafeSet_24 : decode cX7_unsafeSet 24 = .ok (.istore_n 3, 1) := by decide +kernel
theorem dX7_unsafeSet_25 : decode cX7_unsafeSet 25 = .ok (.iload_n 3, 1) := by decide +kernel
theorem dX7_unsafeSet_26 : decode cX7_unsafeSet 26 = .ok (.iconst (-1), 1) := by decide +kernel
theorem dX7_unsafeSet_27 : decode cX7_unsafeSet 27 = .ok (.if_icmp .eq 23, 3) := by decide +kernel
theorem dX7_unsafeSet_30 : decode cX7_unsafeSet 30 = .ok (.iload_n 3, 1) := by decide +kernel
theorem dX7_unsafeSet_31 : decode cX7_unsafeSet 31 = .ok (.aload_n 0, 1) := by decide +kernel
theorem dX7_unsafeSet_32 : decode cX7_unsafeSet 32 = .ok (.iload_n 2, 1) := by decide +kernel
theorem dX7_unsafeSet_33 : decode cX7_unsafeSet 33 = .ok (.aload_n 0, 1) := by decide +kernel
theorem dX7_unsafeSet_34 : decode cX7_unsafeSet 34 = .ok (.getfield 51, 3) := by decide +kernel
theorem dX7_unsafeSet_37 : decode cX7_unsafeSet 37 = .ok (.iconst (-1), 1) := by decide +kernel
theorem dX7_unsafeSet_38 : decode cX7_unsafeSet 38 = .ok (.invokevirtual 146, 3) := by decide +kernel
theorem dX7_unsafeSet_41 : decode cX7_unsafeSet 41 = .ok (.if_icmp .ge 9, 3) := by decide +kernel
theorem dX7_unsafeSet_44 : decode cX7_unsafeSet 44 = .ok (.iload_n 1, 1) := by decide +kernel
theorem dX7_unsafeSet_45 : decode cX7_unsafeSet 45 = .ok (.iconst 1, 1) := by decide +kernel
theorem dX7_unsafeSet_46 : decode cX7_unsafeSet 46 = .ok (.iload_n 2, 1) := by decide +kernel
theorem dX7_unsafeSet_47 : decode cX7_unsafeSet 47 = .ok (.ishl, 1) := by decide +kernel
theorem dX7_unsafeSet_48 : decode cX7_unsafeSet 48 = .ok (.ior, 1) := by decide +kernel
theorem dX7_unsafeSet_49 : decode cX7_unsafeSet 49 = .ok (.istore_n 1, 1) := by decide +kernel
theorem dX7_unsafeSet_50 : decode cX7_unsafeSet 50 = .ok (.iinc 2 1, 3) := by decide +kernel
theorem dX7_unsafeSet_53 : decode cX7_unsafeSet 53 = .ok (.goto (-49), 3) := by decide +kernel
theorem dX7_unsafeSet_56 : decode cX7_unsafeSet 56 = .ok (.iload_n 1, 1) := by decide +kernel
theorem dX7_unsafeSet_57 : decode cX7_unsafeSet 57 = .ok (.ireturn, 1) := by decide +kernel
set_option maxRecDepth 20000 in
theorem ggX7_heightToKeep_X7_heightInForce : GoodIn wsX7_heightToKeep wsX7_heightInForce := goodIn_r _ [11, 12, 13, 14, 15, 16, 17, 18, 19, 20, 21, 22, 23, 24, 25, 26, 27, 28, 29, 30, 31, 32, 33, 34, 35, 36, 37, 38, 39, 40, 41, 42, 43, 44, 45, 46, 47, 4, 5, 6, 48, 49, 50, 51, 52, 53, 54, 55, 88, 89, 90, 91, 92, 93, 94, 95, 96, 97, 98, 99, 100, 101, 102, 103, 104, 105, 106, 107, 108, 109, 110, 111, 112] (by decide +kernel) (by decide +kernel)
set_option maxRecDepth 20000 in
theorem gX7_heightToKeep_X7_heightInForce : GoodIn wsX7_heightToKeep (wsV RX7 196 RX7 yX7_heightInForce wsX7_heightInForce) := goodIn_app (goodIn_of _ (by decide +kernel)) ggX7_heightToKeep_X7_heightInForce
set_option maxRecDepth 20000 in
theorem ggX7_heightToKeep_X7_leastHeight : GoodIn wsX7_heightToKeep wsX7_leastHeight := goodIn_r _ [59, 12, 60, 3, 4, 5, 6, 61, 62, 63, 10, 64, 13, 16, 17, 18, 19, 20, 21, 65, 66, 67, 68, 69, 70, 71, 72, 73, 74, 75, 76, 77, 78, 79, 80, 81, 82, 83, 84, 85, 86, 87, 88, 89, 90, 91, 92, 93, 94, 95, 96, 97, 98, 113, 114, 115, 116, 117, 118, 107, 108, 106] (by decide +kernel) (by decide +kernel)
set_option maxRecDepth 20000 in
theorem gX7_heightToKeep_X7_leastHeight : GoodIn wsX7_heightToKeep (wsV RX7 146 RX7 yX7_leastHeight wsX7_leastHeight) := goodIn_app (goodIn_of _ (by decide +kernel)) ggX7_heightToKeep_X7_leastHeight
theorem dX7_heightToKeep_0 : decode cX7_heightToKeep 0 = .ok (.ldc_w 294, 3) := by decide +kernel
theorem dX7_heightToKeep_3 : decode cX7_heightToKeep 3 = .ok (.istore 4, 2) := by decide +kernel
theorem dX7_heightToKeep_5 : decode cX7_heightToKeep 5 = .ok (.iload_n 3, 1) := by decide +kernel
theorem dX7_heightToKeep_6 : decode cX7_heightToKeep 6 = .ok (.iconst (-1), 1) := by decide +kernel
theorem dX7_heightToKeep_7 : decode cX7_heightToKeep 7 = .ok (.if_icmp .ne 9, 3) := by decide +kernel
theorem dX7_heightToKeep_10 : decode cX7_heightToKeep 10 = .ok (.sipush 399, 3) := by decide +kernel
theorem dX7_heightToKeep_13 : decode cX7_heightToKeep 13 = .ok (.goto 4, 3) := by decide +kernel
theorem dX7_heightToKeep_16 : decode cX7_heightToKeep 16 = .ok (.iload_n 3, 1) := by decide +kernel
theorem dX7_heightToKeep_17 : decode cX7_heightToKeep 17 = .ok (.istore 5, 2) := by decide +kernel
theorem dX7_heightToKeep_19 : decode cX7_heightToKeep 19 = .ok (.iload_n 2, 1) := by decide +kernel
theorem dX7_heightToKeep_20 : decode cX7_heightToKeep 20 = .ok (.aload_n 0, 1) := by decide +kernel
theorem dX7_heightToKeep_21 : decode cX7_heightToKeep 21 = .ok (.getfield 51, 3) := by decide +kernel
theorem dX7_heightToKeep_24 : decode cX7_heightToKeep 24 = .ok (.invokestatic 98, 3) := by decide +kernel
theorem dX7_heightToKeep_27 : decode cX7_heightToKeep 27 = .ok (.istore 6, 2) := by decide +kernel
theorem dX7_heightToKeep_29 : decode cX7_heightToKeep 29 = .ok (.iload 6, 2) := by decide +kernel
theorem dX7_heightToKeep_31 : decode cX7_heightToKeep 31 = .ok (.iload 5, 2) := by decide +kernel
theorem dX7_heightToKeep_33 : decode cX7_heightToKeep 33 = .ok (.if_icmp .gt 48, 3) := by decide +kernel
theorem dX7_heightToKeep_36 : decode cX7_heightToKeep 36 = .ok (.aload_n 0, 1) := by decide +kernel
theorem dX7_heightToKeep_37 : decode cX7_heightToKeep 37 = .ok (.iload_n 1, 1) := by decide +kernel
theorem dX7_heightToKeep_38 : decode cX7_heightToKeep 38 = .ok (.iload 6, 2) := by decide +kernel
theorem dX7_heightToKeep_40 : decode cX7_heightToKeep 40 = .ok (.invokevirtual 196, 3) := by decide +kernel
theorem dX7_heightToKeep_43 : decode cX7_heightToKeep 43 = .ok (.istore 7, 2) := by decide +kernel
theorem dX7_heightToKeep_45 : decode cX7_heightToKeep 45 = .ok (.iload 7, 2) := by decide +kernel
theorem dX7_heightToKeep_47 : decode cX7_heightToKeep 47 = .ok (.iconst (-1), 1) := by decide +kernel
theorem dX7_heightToKeep_48 : decode cX7_heightToKeep 48 = .ok (.if_icmp .eq 27, 3) := by decide +kernel
theorem dX7_heightToKeep_51 : decode cX7_heightToKeep 51 = .ok (.iload 7, 2) := by decide +kernel
theorem dX7_heightToKeep_53 : decode cX7_heightToKeep 53 = .ok (.iload 4, 2) := by decide +kernel
theorem dX7_heightToKeep_55 : decode cX7_heightToKeep 55 = .ok (.if_icmp .ge 20, 3) := by decide +kernel
theorem dX7_heightToKeep_58 : decode cX7_heightToKeep 58 = .ok (.iload 7, 2) := by decide +kernel
theorem dX7_heightToKeep_60 : decode cX7_heightToKeep 60 = .ok (.aload_n 0, 1) := by decide +kernel
theorem dX7_heightToKeep_61 : decode cX7_heightToKeep 61 = .ok (.iload_n 1, 1) := by decide +kernel
theorem dX7_heightToKeep_62 : decode cX7_heightToKeep 62 = .ok (.iload 6, 2) := by decide +kernel
theorem dX7_heightToKeep_64 : decode cX7_heightToKeep 64 = .ok (.iconst (-1), 1) := by decide +kernel
theorem dX7_heightToKeep_65 : decode cX7_heightToKeep 65 = .ok (.invokevirtual 146, 3) := by decide +kernel
theorem dX7_heightToKeep_68 : decode cX7_heightToKeep 68 = .ok (.if_icmp .lt 7, 3) := by decide +kernel
theorem dX7_heightToKeep_71 : decode cX7_heightToKeep 71 = .ok (.iload 7, 2) := by decide +kernel
theorem dX7_heightToKeep_73 : decode cX7_heightToKeep 73 = .ok (.istore 4, 2) := by decide +kernel
theorem dX7_heightToKeep_75 : decode cX7_heightToKeep 75 = .ok (.iinc 6 1, 3) := by decide +kernel
theorem dX7_heightToKeep_78 : decode cX7_heightToKeep 78 = .ok (.goto (-49), 3) := by decide +kernel
theorem dX7_heightToKeep_81 : decode cX7_heightToKeep 81 = .ok (.iload 4, 2) := by decide +kernel
theorem dX7_heightToKeep_83 : decode cX7_heightToKeep 83 = .ok (.ireturn, 1) := by decide +kernel
set_option maxRecDepth 20000 in
theorem ggX7_needWouldBe_X7_kindOf : GoodIn wsX7_needWouldBe wsX7_kindOf := goodIn_r _ [6, 7, 1, 8, 9, 10, 11, 12, 13, 27, 28, 29, 30, 31, 32, 33, 34, 38, 39, 35, 36, 37, 40] (by decide +kernel) (by decide +kernel)
set_option maxRecDepth 20000 in
theorem gX7_needWouldBe_X7_kindOf : GoodIn wsX7_needWouldBe (wsV RX7 267 RX7 yX7_kindOf wsX7_kindOf) := goodIn_app (goodIn_of _ (by decide +kernel)) ggX7_needWouldBe_X7_kindOf
set_option maxRecDepth 20000 in
theorem ggX7_needWouldBe_X6_at : GoodIn wsX7_needWouldBe wsX6_at := goodIn_r _ [12, 13, 40] (by decide +kernel) (by decide +kernel)
set_option maxRecDepth 20000 in
theorem gX7_needWouldBe_X6_at : GoodIn wsX7_needWouldBe (wsV RX7 87 RX6 yX6_at wsX6_at) := goodIn_app (goodIn_of _ (by decide +kernel)) ggX7_needWouldBe_X6_at
set_option maxRecDepth 20000 in
theorem ggX7_needWouldBe_X7_needOf : GoodIn wsX7_needWouldBe wsX7_needOf := goodIn_r _ [16, 17, 18, 19, 20, 21, 22, 5, 23] (by decide +kernel) (by decide +kernel)
set_option maxRecDepth 20000 in
theorem gX7_needWouldBe_X7_needOf : GoodIn wsX7_needWouldBe (va_wsS RX7 280 yX7_needOf wsX7_needOf) := goodIn_app (goodIn_of _ (by decide +kernel)) ggX7_needWouldBe_X7_needOf
set_option maxRecDepth 20000 in
theorem ggX7_needWouldBe_X7_roundedUp : GoodIn wsX7_needWouldBe wsX7_roundedUp := goodIn_r _ [26] (by decide +kernel) (by decide +kernel)
set_option maxRecDepth 20000 in
theorem gX7_needWouldBe_X7_roundedUp : GoodIn wsX7_needWouldBe (va_wsS RX7 283 yX7_roundedUp wsX7_roundedUp) := goodIn_app (goodIn_of _ (by decide +kernel)) ggX7_needWouldBe_X7_roundedUp
theorem dX7_needWouldBe_0 : decode cX7_needWouldBe 0 = .ok (.iload_n 2, 1) := by decide +kernel
theorem dX7_needWouldBe_1 : decode cX7_needWouldBe 1 = .ok (.iload_n 3, 1) := by decide +kernel
theorem dX7_needWouldBe_2 : decode cX7_needWouldBe 2 = .ok (.iload 4, 2) := by decide +kernel
theorem dX7_needWouldBe_4 : decode cX7_needWouldBe 4 = .ok (.aload_n 0, 1) := by decide +kernel
theorem dX7_needWouldBe_5 : decode cX7_needWouldBe 5 = .ok (.iload_n 1, 1) := by decide +kernel
theorem dX7_needWouldBe_6 : decode cX7_needWouldBe 6 = .ok (.invokevirtual 267, 3) := by decide +kernel
theorem dX7_needWouldBe_9 : decode cX7_needWouldBe 9 = .ok (.aload_n 0, 1) := by decide +kernel
theorem dX7_needWouldBe_10 : decode cX7_needWouldBe 10 = .ok (.getfield 26, 3) := by decide +kernel
theorem dX7_needWouldBe_13 : decode cX7_needWouldBe 13 = .ok (.getfield 270, 3) := by decide +kernel
theorem dX7_needWouldBe_16 : decode cX7_needWouldBe 16 = .ok (.iload_n 1, 1) := by decide +kernel
theorem dX7_needWouldBe_17 : decode cX7_needWouldBe 17 = .ok (.invokevirtual 87, 3) := by decide +kernel
theorem dX7_needWouldBe_20 : decode cX7_needWouldBe 20 = .ok (.invokestatic 280, 3) := by decide +kernel
theorem dX7_needWouldBe_23 : decode cX7_needWouldBe 23 = .ok (.invokestatic 283, 3) := by decide +kernel
theorem dX7_needWouldBe_26 : decode cX7_needWouldBe 26 = .ok (.ireturn, 1) := by decide +kernel
set_option maxRecDepth 20000 in
theorem ggX7_kindOf_X6_at : GoodIn wsX7_kindOf wsX6_at := goodIn_r _ [7, 8, 22] (by decide +kernel) (by decide +kernel)
set_option maxRecDepth 20000 in
theorem gX7_kindOf_X6_at : GoodIn wsX7_kindOf (wsV RX7 87 RX6 yX6_at wsX6_at) := goodIn_app (goodIn_of _ (by decide +kernel)) ggX7_kindOf_X6_at
theorem dX7_kindOf_0 : decode cX7_kindOf 0 = .ok (.aload_n 0, 1) := by decide +kernel
theorem dX7_kindOf_1 : decode cX7_kindOf 1 = .ok (.getfield 19, 3) := by decide +kernel
theorem dX7_kindOf_4 : decode cX7_kindOf 4 = .ok (.getfield 115, 3) := by decide +kernel
theorem dX7_kindOf_7 : decode cX7_kindOf 7 = .ok (.aload_n 0, 1) := by decide +kernel
theorem dX7_kindOf_8 : decode cX7_kindOf 8 = .ok (.getfield 26, 3) := by decide +kernel
theorem dX7_kindOf_11 : decode cX7_kindOf 11 = .ok (.getfield 286, 3) := by decide +kernel
theorem dX7_kindOf_14 : decode cX7_kindOf 14 = .ok (.iload_n 1, 1) := by decide +kernel
theorem dX7_kindOf_15 : decode cX7_kindOf 15 = .ok (.invokevirtual 87, 3) := by decide +kernel
theorem dX7_kindOf_18 : decode cX7_kindOf 18 = .ok (.invokevirtual 87, 3) := by decide +kernel
theorem dX7_kindOf_21 : decode cX7_kindOf 21 = .ok (.ireturn, 1) := by decide +kernel
set_option maxRecDepth 20000 in
theorem ggX7_needOf_X7_marginOf : GoodIn wsX7_needOf wsX7_marginOf := goodIn_r _ [8] (by decide +kernel) (by decide +kernel)
set_option maxRecDepth 20000 in
theorem gX7_needOf_X7_marginOf : GoodIn wsX7_needOf (va_wsS RX7 298 yX7_marginOf wsX7_marginOf) := goodIn_app (goodIn_of _ (by decide +kernel)) ggX7_needOf_X7_marginOf
theorem dX7_needOf_0 : decode cX7_needOf 0 = .ok (.iload_n 0, 1) := by decide +kernel
theorem dX7_needOf_1 : decode cX7_needOf 1 = .ok (.ifCond .ge 13, 3) := by decide +kernel
theorem dX7_needOf_4 : decode cX7_needOf 4 = .ok (.iload_n 2, 1) := by decide +kernel
theorem dX7_needOf_5 : decode cX7_needOf 5 = .ok (.bipush 30, 2) := by decide +kernel
theorem dX7_needOf_7 : decode cX7_needOf 7 = .ok (.iadd, 1) := by decide +kernel
theorem dX7_needOf_8 : decode cX7_needOf 8 = .ok (.bipush 25, 2) := by decide +kernel
theorem dX7_needOf_10 : decode cX7_needOf 10 = .ok (.iload_n 0, 1) := by decide +kernel
theorem dX7_needOf_11 : decode cX7_needOf 11 = .ok (.imul, 1) := by decide +kernel
theorem dX7_needOf_12 : decode cX7_needOf 12 = .ok (.iadd, 1) := by decide +kernel
theorem dX7_needOf_13 : decode cX7_needOf 13 = .ok (.ireturn, 1) := by decide +kernel
theorem dX7_needOf_14 : decode cX7_needOf 14 = .ok (.iload_n 3, 1) := by decide +kernel
theorem dX7_needOf_15 : decode cX7_needOf 15 = .ok (.ifCond .ne 13, 3) := by decide +kernel
theorem dX7_needOf_18 : decode cX7_needOf 18 = .ok (.iload_n 2, 1) := by decide +kernel
theorem dX7_needOf_19 : decode cX7_needOf 19 = .ok (.iload_n 0, 1) := by decide +kernel
theorem dX7_needOf_20 : decode cX7_needOf 20 = .ok (.iload 4, 2) := by decide +kernel
theorem dX7_needOf_22 : decode cX7_needOf 22 = .ok (.imul, 1) := by decide +kernel
theorem dX7_needOf_23 : decode cX7_needOf 23 = .ok (.if_icmp .gt 5, 3) := by decide +kernel
theorem dX7_needOf_26 : decode cX7_needOf 26 = .ok (.iconst 0, 1) := by decide +kernel
theorem dX7_needOf_27 : decode cX7_needOf 27 = .ok (.ireturn, 1) := by decide +kernel
theorem dX7_needOf_28 : decode cX7_needOf 28 = .ok (.iconst 1, 1) := by decide +kernel
theorem dX7_needOf_29 : decode cX7_needOf 29 = .ok (.iload_n 0, 1) := by decide +kernel
theorem dX7_needOf_30 : decode cX7_needOf 30 = .ok (.bipush 10, 2) := by decide +kernel
theorem dX7_needOf_32 : decode cX7_needOf 32 = .ok (.idiv, 1) := by decide +kernel
theorem dX7_needOf_33 : decode cX7_needOf 33 = .ok (.iadd, 1) := by decide +kernel
theorem dX7_needOf_34 : decode cX7_needOf 34 = .ok (.istore 5, 2) := by decide +kernel
theorem dX7_needOf_36 : decode cX7_needOf 36 = .ok (.iload_n 1, 1) := by decide +kernel
theorem dX7_needOf_37 : decode cX7_needOf 37 = .ok (.invokestatic 295, 3) := by decide +kernel
theorem dX7_needOf_40 : decode cX7_needOf 40 = .ok (.istore 6, 2) := by decide +kernel
theorem dX7_needOf_42 : decode cX7_needOf 42 = .ok (.iload 6, 2) := by decide +kernel
theorem dX7_needOf_44 : decode cX7_needOf 44 = .ok (.iload 5, 2) := by decide +kernel
theorem dX7_needOf_46 : decode cX7_needOf 46 = .ok (.if_icmp .gt 10, 3) := by decide +kernel
theorem dX7_needOf_49 : decode cX7_needOf 49 = .ok (.iload_n 2, 1) := by decide +kernel
theorem dX7_needOf_50 : decode cX7_needOf 50 = .ok (.iload_n 3, 1) := by decide +kernel
theorem dX7_needOf_51 : decode cX7_needOf 51 = .ok (.invokestatic 298, 3) := by decide +kernel
theorem dX7_needOf_54 : decode cX7_needOf 54 = .ok (.iadd, 1) := by decide +kernel
theorem dX7_needOf_55 : decode cX7_needOf 55 = .ok (.ireturn, 1) := by decide +kernel
theorem dX7_needOf_56 : decode cX7_needOf 56 = .ok (.iload 6, 2) := by decide +kernel
theorem dX7_needOf_58 : decode cX7_needOf 58 = .ok (.iconst 2, 1) := by decide +kernel
theorem dX7_needOf_59 : decode cX7_needOf 59 = .ok (.iload 5, 2) := by decide +kernel
theorem dX7_needOf_61 : decode cX7_needOf 61 = .ok (.imul, 1) := by decide +kernel
theorem dX7_needOf_62 : decode cX7_needOf 62 = .ok (.if_icmp .gt 26, 3) := by decide +kernel
theorem dX7_needOf_65 : decode cX7_needOf 65 = .ok (.iload 5, 2) := by decide +kernel
theorem dX7_needOf_67 : decode cX7_needOf 67 = .ok (.ifCond .le 21, 3) := by decide +kernel
theorem dX7_needOf_70 : decode cX7_needOf 70 = .ok (.iload_n 2, 1) := by decide +kernel
theorem dX7_needOf_71 : decode cX7_needOf 71 = .ok (.iload_n 3, 1) := by decide +kernel
theorem dX7_needOf_72 : decode cX7_needOf 72 = .ok (.invokestatic 298, 3) := by decide +kernel
theorem dX7_needOf_75 : decode cX7_needOf 75 = .ok (.iconst 2, 1) := by decide +kernel
theorem dX7_needOf_76 : decode cX7_needOf 76 = .ok (.iload 5, 2) := by decide +kernel
theorem dX7_needOf_78 : decode cX7_needOf 78 = .ok (.imul, 1) := by decide +kernel
theorem dX7_needOf_79 : decode cX7_needOf 79 = .ok (.iload 6, 2) := by decide +kernel
theorem dX7_needOf_81 : decode cX7_needOf 81 = .ok (.isub, 1) := by decide +kernel
theorem dX7_needOf_82 : decode cX7_needOf 82 = .ok (.imul, 1) := by decide +kernel
theorem dX7_needOf_83 : decode cX7_needOf 83 = .ok (.iload 5, 2) := by decide +kernel
theorem dX7_needOf_85 : decode cX7_needOf 85 = .ok (.idiv, 1) := by decide +kernel
theorem dX7_needOf_86 : decode cX7_needOf 86 = .ok (.iadd, 1) := by decide +kernel
theorem dX7_needOf_87 : decode cX7_needOf 87 = .ok (.ireturn, 1) := by decide +kernel
theorem dX7_needOf_88 : decode cX7_needOf 88 = .ok (.iconst 0, 1) := by decide +kernel
theorem dX7_needOf_89 : decode cX7_needOf 89 = .ok (.ireturn, 1) := by decide +kernel
theorem dX7_marginOf_0 : decode cX7_marginOf 0 = .ok (.iload_n 0, 1) := by decide +kernel
theorem dX7_marginOf_1 : decode cX7_marginOf 1 = .ok (.ifCond .ne 8, 3) := by decide +kernel
theorem dX7_marginOf_4 : decode cX7_marginOf 4 = .ok (.bipush 30, 2) := by decide +kernel
theorem dX7_marginOf_6 : decode cX7_marginOf 6 = .ok (.goto 15, 3) := by decide +kernel
theorem dX7_marginOf_9 : decode cX7_marginOf 9 = .ok (.iload_n 0, 1) := by decide +kernel
theorem dX7_marginOf_10 : decode cX7_marginOf 10 = .ok (.iconst 1, 1) := by decide +kernel
theorem dX7_marginOf_11 : decode cX7_marginOf 11 = .ok (.if_icmp .ne 8, 3) := by decide +kernel
theorem dX7_marginOf_14 : decode cX7_marginOf 14 = .ok (.bipush 75, 2) := by decide +kernel
theorem dX7_marginOf_16 : decode cX7_marginOf 16 = .ok (.goto 5, 3) := by decide +kernel
theorem dX7_marginOf_19 : decode cX7_marginOf 19 = .ok (.bipush 90, 2) := by decide +kernel
theorem dX7_marginOf_21 : decode cX7_marginOf 21 = .ok (.ireturn, 1) := by decide +kernel
theorem dX7_baseOf_0 : decode cX7_baseOf 0 = .ok (.iload_n 0, 1) := by decide +kernel
theorem dX7_baseOf_1 : decode cX7_baseOf 1 = .ok (.ifCond .ne 9, 3) := by decide +kernel
theorem dX7_baseOf_4 : decode cX7_baseOf 4 = .ok (.sipush 200, 3) := by decide +kernel
theorem dX7_baseOf_7 : decode cX7_baseOf 7 = .ok (.goto 17, 3) := by decide +kernel
theorem dX7_baseOf_10 : decode cX7_baseOf 10 = .ok (.iload_n 0, 1) := by decide +kernel
theorem dX7_baseOf_11 : decode cX7_baseOf 11 = .ok (.iconst 1, 1) := by decide +kernel
theorem dX7_baseOf_12 : decode cX7_baseOf 12 = .ok (.if_icmp .ne 9, 3) := by decide +kernel
theorem dX7_baseOf_15 : decode cX7_baseOf 15 = .ok (.sipush 250, 3) := by decide +kernel
theorem dX7_baseOf_18 : decode cX7_baseOf 18 = .ok (.goto 6, 3) := by decide +kernel
theorem dX7_baseOf_21 : decode cX7_baseOf 21 = .ok (.sipush 300, 3) := by decide +kernel
theorem dX7_baseOf_24 : decode cX7_baseOf 24 = .ok (.ireturn, 1) := by decide +kernel
theorem dX7_roundedUp_0 : decode cX7_roundedUp 0 = .ok (.iload_n 0, 1) := by decide +kernel
theorem dX7_roundedUp_1 : decode cX7_roundedUp 1 = .ok (.bipush 9, 2) := by decide +kernel
theorem dX7_roundedUp_3 : decode cX7_roundedUp 3 = .ok (.iadd, 1) := by decide +kernel
theorem dX7_roundedUp_4 : decode cX7_roundedUp 4 = .ok (.bipush 10, 2) := by decide +kernel
theorem dX7_roundedUp_6 : decode cX7_roundedUp 6 = .ok (.idiv, 1) := by decide +kernel
theorem dX7_roundedUp_7 : decode cX7_roundedUp 7 = .ok (.bipush 10, 2) := by decide +kernel
theorem dX7_roundedUp_9 : decode cX7_roundedUp 9 = .ok (.imul, 1) := by decide +kernel
theorem dX7_roundedUp_10 : decode cX7_roundedUp 10 = .ok (.ireturn, 1) := by decide +kernel
theorem dX7_forCategory_0 : decode cX7_forCategory 0 = .ok (.iload_n 0, 1) := by decide +kernel
theorem dX7_forCategory_1 : decode cX7_forCategory 1 = .ok (.iconst (-1), 1) := by decide +kernel
theorem dX7_forCategory_2 : decode cX7_forCategory 2 = .ok (.if_icmp .ne 7, 3) := by decide +kernel
theorem dX7_forCategory_5 : decode cX7_forCategory 5 = .ok (.iconst (-1), 1) := by decide +kernel
theorem dX7_forCategory_6 : decode cX7_forCategory 6 = .ok (.goto 9, 3) := by decide +kernel
theorem dX7_forCategory_9 : decode cX7_forCategory 9 = .ok (.iload_n 0, 1) := by decide +kernel
theorem dX7_forCategory_10 : decode cX7_forCategory 10 = .ok (.bipush 10, 2) := by decide +kernel
theorem dX7_forCategory_12 : decode cX7_forCategory 12 = .ok (.iload_n 1, 1) := by decide +kernel
theorem dX7_forCategory_13 : decode cX7_forCategory 13 = .ok (.imul, 1) := by decide +kernel
theorem dX7_forCategory_14 : decode cX7_forCategory 14 = .ok (.iadd, 1) := by decide +kernel
theorem dX7_forCategory_15 : decode cX7_forCategory 15 = .ok (.ireturn, 1) := by decide +kernel
theorem dX7_requireObstacle_0 : decode cX7_requireObstacle 0 = .ok (.iload_n 1, 1) := by decide +kernel
theorem dX7_requireObstacle_1 : decode cX7_requireObstacle 1 = .ok (.ifCond .lt 14, 3) := by decide +kernel
theorem dX7_requireObstacle_4 : decode cX7_requireObstacle 4 = .ok (.iload_n 1, 1) := by decide +kernel
theorem dX7_requireObstacle_5 : decode cX7_requireObstacle 5 = .ok (.aload_n 0, 1) := by decide +kernel
theorem dX7_requireObstacle_6 : decode cX7_requireObstacle 6 = .ok (.getfield 10, 3) := by decide +kernel
theorem dX7_requireObstacle_9 : decode cX7_requireObstacle 9 = .ok (.getfield 66, 3) := by decide +kernel
theorem dX7_requireObstacle_12 : decode cX7_requireObstacle 12 = .ok (.if_icmp .lt 14, 3) := by decide +kernel
theorem dX7_requireObstacle_15 : decode cX7_requireObstacle 15 = .ok (.new 301, 3) := by decide +kernel
theorem dX7_requireObstacle_18 : decode cX7_requireObstacle 18 = .ok (.dup, 1) := by decide +kernel
theorem dX7_requireObstacle_19 : decode cX7_requireObstacle 19 = .ok (.ldc_w 303, 3) := by decide +kernel
theorem dX7_requireObstacle_22 : decode cX7_requireObstacle 22 = .ok (.invokespecial 305, 3) := by decide +kernel
theorem dX7_requireObstacle_25 : decode cX7_requireObstacle 25 = .ok (.athrow, 1) := by decide +kernel
theorem dX7_requireObstacle_26 : decode cX7_requireObstacle 26 = .ok (.return_, 1) := by decide +kernel
theorem dX7_requireProcedure_0 : decode cX7_requireProcedure 0 = .ok (.iload_n 1, 1) := by decide +kernel
theorem dX7_requireProcedure_1 : decode cX7_requireProcedure 1 = .ok (.ifCond .lt 14, 3) := by decide +kernel
theorem dX7_requireProcedure_4 : decode cX7_requireProcedure 4 = .ok (.iload_n 1, 1) := by decide +kernel
theorem dX7_requireProcedure_5 : decode cX7_requireProcedure 5 = .ok (.aload_n 0, 1) := by decide +kernel
theorem dX7_requireProcedure_6 : decode cX7_requireProcedure 6 = .ok (.getfield 26, 3) := by decide +kernel
theorem dX7_requireProcedure_9 : decode cX7_requireProcedure 9 = .ok (.getfield 124, 3) := by decide +kernel
theorem dX7_requireProcedure_12 : decode cX7_requireProcedure 12 = .ok (.if_icmp .lt 14, 3) := by decide +kernel
theorem dX7_requireProcedure_15 : decode cX7_requireProcedure 15 = .ok (.new 301, 3) := by decide +kernel
theorem dX7_requireProcedure_18 : decode cX7_requireProcedure 18 = .ok (.dup, 1) := by decide +kernel
theorem dX7_requireProcedure_19 : decode cX7_requireProcedure 19 = .ok (.ldc_w 306, 3) := by decide +kernel
theorem dX7_requireProcedure_22 : decode cX7_requireProcedure 22 = .ok (.invokespecial 305, 3) := by decide +kernel
theorem dX7_requireProcedure_25 : decode cX7_requireProcedure 25 = .ok (.athrow, 1) := by decide +kernel
theorem dX7_requireProcedure_26 : decode cX7_requireProcedure 26 = .ok (.return_, 1) := by decide +kernel
theorem dX7_requireNotice_0 : decode cX7_requireNotice 0 = .ok (.iload_n 1, 1) := by decide +kernel
theorem dX7_requireNotice_1 : decode cX7_requireNotice 1 = .ok (.ifCond .lt 14, 3) := by decide +kernel
theorem dX7_requireNotice_4 : decode cX7_requireNotice 4 = .ok (.iload_n 1, 1) := by decide +kernel
theorem dX7_requireNotice_5 : decode cX7_requireNotice 5 = .ok (.aload_n 0, 1) := by decide +kernel
theorem dX7_requireNotice_6 : decode cX7_requireNotice 6 = .ok (.getfield 40, 3) := by decide +kernel
theorem dX7_requireNotice_9 : decode cX7_requireNotice 9 = .ok (.getfield 177, 3) := by decide +kernel
theorem dX7_requireNotice_12 : decode cX7_requireNotice 12 = .ok (.if_icmp .lt 14, 3) := by decide +kernel
theorem dX7_requireNotice_15 : decode cX7_requireNotice 15 = .ok (.new 301, 3) := by decide +kernel
theorem dX7_requireNotice_18 : decode cX7_requireNotice 18 = .ok (.dup, 1) := by decide +kernel
theorem dX7_requireNotice_19 : decode cX7_requireNotice 19 = .ok (.ldc_w 308, 3) := by decide +kernel
theorem dX7_requireNotice_22 : decode cX7_requireNotice 22 = .ok (.invokespecial 305, 3) := by decide +kernel
theorem dX7_requireNotice_25 : decode cX7_requireNotice 25 = .ok (.athrow, 1) := by decide +kernel
theorem dX7_requireNotice_26 : decode cX7_requireNotice 26 = .ok (.return_, 1) := by decide +kernel
theorem dX7_requireNoticeLeft_0 : decode cX7_requireNoticeLeft 0 = .ok (.aload_n 0, 1) := by decide +kernel
theorem dX7_requireNoticeLeft_1 : decode cX7_requireNoticeLeft 1 = .ok (.getfield 40, 3) := by decide +kernel
theorem dX7_requireNoticeLeft_4 : decode cX7_requireNoticeLeft 4 = .ok (.getfield 177, 3) := by decide +kernel
theorem dX7_requireNoticeLeft_7 : decode cX7_requireNoticeLeft 7 = .ok (.bipush 16, 2) := by decide +kernel
theorem dX7_requireNoticeLeft_9 : decode cX7_requireNoticeLeft 9 = .ok (.if_icmp .lt 14, 3) := by decide +kernel
theorem dX7_requireNoticeLeft_12 : decode cX7_requireNoticeLeft 12 = .ok (.new 69, 3) := by decide +kernel
theorem dX7_requireNoticeLeft_15 : decode cX7_requireNoticeLeft 15 = .ok (.dup, 1) := by decide +kernel
theorem dX7_requireNoticeLeft_16 : decode cX7_requireNoticeLeft 16 = .ok (.ldc_w 310, 3) := by decide +kernel
theorem dX7_requireNoticeLeft_19 : decode cX7_requireNoticeLeft 19 = .ok (.invokespecial 73, 3) := by decide +kernel
theorem dX7_requireNoticeLeft_22 : decode cX7_requireNoticeLeft 22 = .ok (.athrow, 1) := by decide +kernel
theorem dX7_requireNoticeLeft_23 : decode cX7_requireNoticeLeft 23 = .ok (.return_, 1) := by decide +kernel
set_option maxRecDepth 20000 in
theorem ggX7_requireDaysToCome_X7_requireArgument : GoodIn wsX7_requireDaysToCome wsX7_requireArgument := goodIn_ca (goodIn_r _ [5, 6, 7] (by decide +kernel) (by decide +kernel)) (goodIn_sub (fun _ h => List.mem_cons_of_mem _ (List.mem_append_right _ h)) (by decide +kernel))
set_option maxRecDepth 20000 in
theorem gX7_requireDaysToCome_X7_requireArgument : GoodIn wsX7_requireDaysToCome (va_wsS RX7 111 yX7_requireArgument wsX7_requireArgument) := goodIn_app (goodIn_of _ (by decide +kernel)) ggX7_requireDaysToCome_X7_requireArgument
theorem dX7_requireDaysToCome_0 : decode cX7_requireDaysToCome 0 = .ok (.iload_n 1, 1) := by decide +kernel
theorem dX7_requireDaysToCome_1 : decode cX7_requireDaysToCome 1 = .ok (.aload_n 0, 1) := by decide +kernel
theorem dX7_requireDaysToCome_2 : decode cX7_requireDaysToCome 2 = .ok (.getfield 51, 3) := by decide +kernel
theorem dX7_requireDaysToCome_5 : decode cX7_requireDaysToCome 5 = .ok (.sipush 399, 3) := by decide +kernel
theorem dX7_requireDaysToCome_8 : decode cX7_requireDaysToCome 8 = .ok (.invokestatic 111, 3) := by decide +kernel
theorem dX7_requireDaysToCome_11 : decode cX7_requireDaysToCome 11 = .ok (.iload_n 2, 1) := by decide +kernel
theorem dX7_requireDaysToCome_12 : decode cX7_requireDaysToCome 12 = .ok (.iload_n 1, 1) := by decide +kernel
theorem dX7_requireDaysToCome_13 : decode cX7_requireDaysToCome 13 = .ok (.sipush 399, 3) := by decide +kernel
theorem dX7_requireDaysToCome_16 : decode cX7_requireDaysToCome 16 = .ok (.invokestatic 111, 3) := by decide +kernel
theorem dX7_requireDaysToCome_19 : decode cX7_requireDaysToCome 19 = .ok (.return_, 1) := by decide +kernel
theorem dX7_requireAid_0 : decode cX7_requireAid 0 = .ok (.iload_n 0, 1) := by decide +kernel
theorem dX7_requireAid_1 : decode cX7_requireAid 1 = .ok (.ifCond .lt 8, 3) := by decide +kernel
theorem dX7_requireAid_4 : decode cX7_requireAid 4 = .ok (.iload_n 0, 1) := by decide +kernel
theorem dX7_requireAid_5 : decode cX7_requireAid 5 = .ok (.iconst 3, 1) := by decide +kernel
theorem dX7_requireAid_6 : decode cX7_requireAid 6 = .ok (.if_icmp .lt 14, 3) := by decide +kernel
theorem dX7_requireAid_9 : decode cX7_requireAid 9 = .ok (.new 301, 3) := by decide +kernel
theorem dX7_requireAid_12 : decode cX7_requireAid 12 = .ok (.dup, 1) := by decide +kernel
theorem dX7_requireAid_13 : decode cX7_requireAid 13 = .ok (.ldc_w 312, 3) := by decide +kernel
theorem dX7_requireAid_16 : decode cX7_requireAid 16 = .ok (.invokespecial 305, 3) := by decide +kernel
theorem dX7_requireAid_19 : decode cX7_requireAid 19 = .ok (.athrow, 1) := by decide +kernel
theorem dX7_requireAid_20 : decode cX7_requireAid 20 = .ok (.return_, 1) := by decide +kernel
theorem dX7_requireCrew_0 : decode cX7_requireCrew 0 = .ok (.iload_n 0, 1) := by decide +kernel
theorem dX7_requireCrew_1 : decode cX7_requireCrew 1 = .ok (.ifCond .lt 8, 3) := by decide +kernel
theorem dX7_requireCrew_4 : decode cX7_requireCrew 4 = .ok (.iload_n 0, 1) := by decide +kernel
theorem dX7_requireCrew_5 : decode cX7_requireCrew 5 = .ok (.iconst 4, 1) := by decide +kernel
theorem dX7_requireCrew_6 : decode cX7_requireCrew 6 = .ok (.if_icmp .lt 14, 3) := by decide +kernel
theorem dX7_requireCrew_9 : decode cX7_requireCrew 9 = .ok (.new 301, 3) := by decide +kernel
theorem dX7_requireCrew_12 : decode cX7_requireCrew 12 = .ok (.dup, 1) := by decide +kernel
theorem dX7_requireCrew_13 : decode cX7_requireCrew 13 = .ok (.ldc_w 314, 3) := by decide +kernel
theorem dX7_requireCrew_16 : decode cX7_requireCrew 16 = .ok (.invokespecial 305, 3) := by decide +kernel
theorem dX7_requireCrew_19 : decode cX7_requireCrew 19 = .ok (.athrow, 1) := by decide +kernel
theorem dX7_requireCrew_20 : decode cX7_requireCrew 20 = .ok (.return_, 1) := by decide +kernel
set_option maxRecDepth 20000 in
theorem ggX7_requirePlace_X7_requireArgument : GoodIn wsX7_requirePlace wsX7_requireArgument := goodIn_ca (goodIn_r _ [4, 5, 6] (by decide +kernel) (by decide +kernel)) (goodIn_sub (fun _ h => List.mem_cons_of_mem _ (List.mem_append_right _ h)) (by decide +kernel))
set_option maxRecDepth 20000 in
theorem gX7_requirePlace_X7_requireArgument : GoodIn wsX7_requirePlace (va_wsS RX7 111 yX7_requireArgument wsX7_requireArgument) := goodIn_app (goodIn_of _ (by decide +kernel)) ggX7_requirePlace_X7_requireArgument
set_option maxRecDepth 20000 in
theorem ggX7_requirePlace_X7_requireDay : GoodIn wsX7_requirePlace wsX7_requireDay := goodIn_ca (goodIn_r _ [9, 1, 2, 3, 4, 5, 6] (by decide +kernel) (by decide +kernel)) (goodIn_sub (fun _ h => List.mem_cons_of_mem _ (List.mem_append_right _ h)) (by decide +kernel))
set_option maxRecDepth 20000 in
theorem gX7_requirePlace_X7_requireDay : GoodIn wsX7_requirePlace (va_wsS RX7 187 yX7_requireDay wsX7_requireDay) := goodIn_app (goodIn_of _ (by decide +kernel)) ggX7_requirePlace_X7_requireDay
theorem dX7_requirePlace_0 : decode cX7_requirePlace 0 = .ok (.iload_n 0, 1) := by decide +kernel
theorem dX7_requirePlace_1 : decode cX7_requirePlace 1 = .ok (.bipush (-20), 2) := by decide +kernel
theorem dX7_requirePlace_3 : decode cX7_requirePlace 3 = .ok (.bipush 60, 2) := by decide +kernel
theorem dX7_requirePlace_5 : decode cX7_requirePlace 5 = .ok (.invokestatic 111, 3) := by decide +kernel
theorem dX7_requirePlace_8 : decode cX7_requirePlace 8 = .ok (.iload_n 1, 1) := by decide +kernel
theorem dX7_requirePlace_9 : decode cX7_requirePlace 9 = .ok (.bipush (-9), 2) := by decide +kernel
theorem dX7_requirePlace_11 : decode cX7_requirePlace 11 = .ok (.bipush 9, 2) := by decide +kernel
theorem dX7_requirePlace_13 : decode cX7_requirePlace 13 = .ok (.invokestatic 111, 3) := by decide +kernel
theorem dX7_requirePlace_16 : decode cX7_requirePlace 16 = .ok (.iload_n 2, 1) := by decide +kernel
theorem dX7_requirePlace_17 : decode cX7_requirePlace 17 = .ok (.invokestatic 187, 3) := by decide +kernel
theorem dX7_requirePlace_20 : decode cX7_requirePlace 20 = .ok (.iload_n 3, 1) := by decide +kernel
theorem dX7_requirePlace_21 : decode cX7_requirePlace 21 = .ok (.iconst (-1), 1) := by decide +kernel
theorem dX7_requirePlace_22 : decode cX7_requirePlace 22 = .ok (.if_icmp .eq 11, 3) := by decide +kernel
theorem dX7_requirePlace_25 : decode cX7_requirePlace 25 = .ok (.iload_n 3, 1) := by decide +kernel
theorem dX7_requirePlace_26 : decode cX7_requirePlace 26 = .ok (.iload_n 2, 1) := by decide +kernel
theorem dX7_requirePlace_27 : decode cX7_requirePlace 27 = .ok (.sipush 399, 3) := by decide +kernel
theorem dX7_requirePlace_30 : decode cX7_requirePlace 30 = .ok (.invokestatic 111, 3) := by decide +kernel
theorem dX7_requirePlace_33 : decode cX7_requirePlace 33 = .ok (.return_, 1) := by decide +kernel
set_option maxRecDepth 20000 in
theorem ggX7_requireTop_X7_requireArgument : GoodIn wsX7_requireTop wsX7_requireArgument := goodIn_ca (goodIn_r _ [4, 5, 6] (by decide +kernel) (by decide +kernel)) (goodIn_sub (fun _ h => List.mem_cons_of_mem _ (List.mem_append_right _ h)) (by decide +kernel))
set_option maxRecDepth 20000 in
theorem gX7_requireTop_X7_requireArgument : GoodIn wsX7_requireTop (va_wsS RX7 111 yX7_requireArgument wsX7_requireArgument) := goodIn_app (goodIn_of _ (by decide +kernel)) ggX7_requireTop_X7_requireArgument
theorem dX7_requireTop_0 : decode cX7_requireTop 0 = .ok (.iload_n 0, 1) := by decide +kernel
theorem dX7_requireTop_1 : decode cX7_requireTop 1 = .ok (.iconst 0, 1) := by decide +kernel
theorem dX7_requireTop_2 : decode cX7_requireTop 2 = .ok (.sipush 999, 3) := by decide +kernel
theorem dX7_requireTop_5 : decode cX7_requireTop 5 = .ok (.invokestatic 111, 3) := by decide +kernel
theorem dX7_requireTop_8 : decode cX7_requireTop 8 = .ok (.return_, 1) := by decide +kernel
set_option maxRecDepth 20000 in
theorem ggX7_requireDay_X7_requireArgument : GoodIn wsX7_requireDay wsX7_requireArgument := goodIn_ca (goodIn_r _ [4, 5, 6] (by decide +kernel) (by decide +kernel)) (goodIn_sub (fun _ h => List.mem_cons_of_mem _ (List.mem_append_right _ h)) (by decide +kernel))
set_option maxRecDepth 20000 in
theorem gX7_requireDay_X7_requireArgument : GoodIn wsX7_requireDay (va_wsS RX7 111 yX7_requireArgument wsX7_requireArgument) := goodIn_app (goodIn_of _ (by decide +kernel)) ggX7_requireDay_X7_requireArgument
theorem dX7_requireDay_0 : decode cX7_requireDay 0 = .ok (.iload_n 0, 1) := by decide +kernel
theorem dX7_requireDay_1 : decode cX7_requireDay 1 = .ok (.iconst 0, 1) := by decide +kernel
theorem dX7_requireDay_2 : decode cX7_requireDay 2 = .ok (.sipush 399, 3) := by decide +kernel
theorem dX7_requireDay_5 : decode cX7_requireDay 5 = .ok (.invokestatic 111, 3) := by decide +kernel
theorem dX7_requireDay_8 : decode cX7_requireDay 8 = .ok (.return_, 1) := by decide +kernel
set_option maxRecDepth 20000 in
theorem ggX7_requireCategory_X7_requireArgument : GoodIn wsX7_requireCategory wsX7_requireArgument := goodIn_ca (goodIn_r _ [4, 5, 6] (by decide +kernel) (by decide +kernel)) (goodIn_sub (fun _ h => List.mem_cons_of_mem _ (List.mem_append_right _ h)) (by decide +kernel))
set_option maxRecDepth 20000 in
theorem gX7_requireCategory_X7_requireArgument : GoodIn wsX7_requireCategory (va_wsS RX7 111 yX7_requireArgument wsX7_requireArgument) := goodIn_app (goodIn_of _ (by decide +kernel)) ggX7_requireCategory_X7_requireArgument
theorem dX7_requireCategory_0 : decode cX7_requireCategory 0 = .ok (.iload_n 0, 1) := by decide +kernel
theorem dX7_requireCategory_1 : decode cX7_requireCategory 1 = .ok (.iconst 0, 1) := by decide +kernel
theorem dX7_requireCategory_2 : decode cX7_requireCategory 2 = .ok (.iconst 3, 1) := by decide +kernel
theorem dX7_requireCategory_3 : decode cX7_requireCategory 3 = .ok (.invokestatic 111, 3) := by decide +kernel
theorem dX7_requireCategory_6 : decode cX7_requireCategory 6 = .ok (.return_, 1) := by decide +kernel
theorem dX7_requireArgument_0 : decode cX7_requireArgument 0 = .ok (.iload_n 0, 1) := by decide +kernel
theorem dX7_requireArgument_1 : decode cX7_requireArgument 1 = .ok (.iload_n 1, 1) := by decide +kernel
theorem dX7_requireArgument_2 : decode cX7_requireArgument 2 = .ok (.if_icmp .lt 8, 3) := by decide +kernel
theorem dX7_requireArgument_5 : decode cX7_requireArgument 5 = .ok (.iload_n 0, 1) := by decide +kernel
theorem dX7_requireArgument_6 : decode cX7_requireArgument 6 = .ok (.iload_n 2, 1) := by decide +kernel
theorem dX7_requireArgument_7 : decode cX7_requireArgument 7 = .ok (.if_icmp .le 14, 3) := by decide +kernel
theorem dX7_requireArgument_10 : decode cX7_requireArgument 10 = .ok (.new 316, 3) := by decide +kernel
theorem dX7_requireArgument_13 : decode cX7_requireArgument 13 = .ok (.dup, 1) := by decide +kernel
theorem dX7_requireArgument_14 : decode cX7_requireArgument 14 = .ok (.ldc_w 318, 3) := by decide +kernel
theorem dX7_requireArgument_17 : decode cX7_requireArgument 17 = .ok (.invokespecial 320, 3) := by decide +kernel
theorem dX7_requireArgument_20 : decode cX7_requireArgument 20 = .ok (.athrow, 1) := by decide +kernel
theorem dX7_requireArgument_21 : decode cX7_requireArgument 21 = .ok (.return_, 1) := by decide +kernel
