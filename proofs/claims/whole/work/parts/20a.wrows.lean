set_option maxRecDepth 20000 in
theorem ggL_obstacle_X7_obstacle : GoodIn wsL_obstacle wsX7_obstacle := goodIn_ca (goodIn_ca (goodIn_r _ [7, 8, 9, 10, 11, 12, 6, 13, 14, 15, 16, 17, 18, 19, 20, 21, 22, 23, 24, 25, 26, 27, 28, 29, 30, 31, 32, 33, 34, 35, 36, 37, 38, 39, 40, 41, 42, 43, 44, 45, 46, 47, 48, 49, 50, 51, 52, 53, 54, 55, 56] (by decide +kernel) (by decide +kernel)) (goodIn_sub (fun _ h => List.mem_cons_of_mem _ (List.mem_append_left _ (List.mem_append_right _ h))) (by decide +kernel))) (goodIn_sub (fun _ h => List.mem_cons_of_mem _ (List.mem_append_right _ h)) (by decide +kernel))
set_option maxRecDepth 20000 in
theorem gL_obstacle_X7_obstacle : GoodIn wsL_obstacle (wsV RL 7 RX7 yX7_obstacle wsX7_obstacle) := goodIn_app (goodIn_of _ (by decide +kernel)) ggL_obstacle_X7_obstacle
theorem dL_obstacle_0 : decode cL_obstacle 0 = .ok (.aload 6, 2) := by decide +kernel
theorem dL_obstacle_2 : decode cL_obstacle 2 = .ok (.iconst 0, 1) := by decide +kernel
theorem dL_obstacle_3 : decode cL_obstacle 3 = .ok (.aload_n 0, 1) := by decide +kernel
theorem dL_obstacle_4 : decode cL_obstacle 4 = .ok (.iload_n 1, 1) := by decide +kernel
theorem dL_obstacle_5 : decode cL_obstacle 5 = .ok (.iload_n 2, 1) := by decide +kernel
theorem dL_obstacle_6 : decode cL_obstacle 6 = .ok (.iload_n 3, 1) := by decide +kernel
theorem dL_obstacle_7 : decode cL_obstacle 7 = .ok (.iload 4, 2) := by decide +kernel
theorem dL_obstacle_9 : decode cL_obstacle 9 = .ok (.iload 5, 2) := by decide +kernel
theorem dL_obstacle_11 : decode cL_obstacle 11 = .ok (.invokevirtual 7, 3) := by decide +kernel
theorem dL_obstacle_14 : decode cL_obstacle 14 = .ok (.i2l, 1) := by decide +kernel
theorem dL_obstacle_15 : decode cL_obstacle 15 = .ok (.lastore, 1) := by decide +kernel
theorem dL_obstacle_16 : decode cL_obstacle 16 = .ok (.goto 11, 3) := by decide +kernel
theorem dL_obstacle_19 : decode cL_obstacle 19 = .ok (.astore 7, 2) := by decide +kernel
theorem dL_obstacle_21 : decode cL_obstacle 21 = .ok (.iconst 1, 1) := by decide +kernel
theorem dL_obstacle_22 : decode cL_obstacle 22 = .ok (.ireturn, 1) := by decide +kernel
theorem dL_obstacle_23 : decode cL_obstacle 23 = .ok (.astore 7, 2) := by decide +kernel
theorem dL_obstacle_25 : decode cL_obstacle 25 = .ok (.iconst 2, 1) := by decide +kernel
theorem dL_obstacle_26 : decode cL_obstacle 26 = .ok (.ireturn, 1) := by decide +kernel
theorem dL_obstacle_27 : decode cL_obstacle 27 = .ok (.iconst 0, 1) := by decide +kernel
theorem dL_obstacle_28 : decode cL_obstacle 28 = .ok (.ireturn, 1) := by decide +kernel
set_option maxRecDepth 20000 in
theorem ggL_end_X7_end : GoodIn wsL_end wsX7_end := goodIn_ca (goodIn_ca (goodIn_r _ [7, 8, 9, 10, 11, 12, 13, 14, 15, 16, 17, 18, 6, 19, 20, 21, 22, 23, 24, 25, 26, 27, 28, 29, 30, 31, 32, 33, 34, 35, 36, 37, 38, 39, 40, 41, 42, 43, 44, 45, 46] (by decide +kernel) (by decide +kernel)) (goodIn_sub (fun _ h => List.mem_cons_of_mem _ (List.mem_append_left _ (List.mem_append_right _ h))) (by decide +kernel))) (goodIn_sub (fun _ h => List.mem_cons_of_mem _ (List.mem_append_right _ h)) (by decide +kernel))
set_option maxRecDepth 20000 in
theorem gL_end_X7_end : GoodIn wsL_end (wsV RL 17 RX7 yX7_end wsX7_end) := goodIn_app (goodIn_of _ (by decide +kernel)) ggL_end_X7_end
theorem dL_end_0 : decode cL_end 0 = .ok (.aload_n 2, 1) := by decide +kernel
theorem dL_end_1 : decode cL_end 1 = .ok (.iconst 0, 1) := by decide +kernel
theorem dL_end_2 : decode cL_end 2 = .ok (.aload_n 0, 1) := by decide +kernel
theorem dL_end_3 : decode cL_end 3 = .ok (.iload_n 1, 1) := by decide +kernel
theorem dL_end_4 : decode cL_end 4 = .ok (.invokevirtual 17, 3) := by decide +kernel
theorem dL_end_7 : decode cL_end 7 = .ok (.i2l, 1) := by decide +kernel
theorem dL_end_8 : decode cL_end 8 = .ok (.lastore, 1) := by decide +kernel
theorem dL_end_9 : decode cL_end 9 = .ok (.goto 9, 3) := by decide +kernel
theorem dL_end_12 : decode cL_end 12 = .ok (.astore_n 3, 1) := by decide +kernel
theorem dL_end_13 : decode cL_end 13 = .ok (.iconst 1, 1) := by decide +kernel
theorem dL_end_14 : decode cL_end 14 = .ok (.ireturn, 1) := by decide +kernel
theorem dL_end_15 : decode cL_end 15 = .ok (.astore_n 3, 1) := by decide +kernel
theorem dL_end_16 : decode cL_end 16 = .ok (.iconst 2, 1) := by decide +kernel
theorem dL_end_17 : decode cL_end 17 = .ok (.ireturn, 1) := by decide +kernel
theorem dL_end_18 : decode cL_end 18 = .ok (.iconst 0, 1) := by decide +kernel
theorem dL_end_19 : decode cL_end 19 = .ok (.ireturn, 1) := by decide +kernel
set_option maxRecDepth 20000 in
theorem ggL_aid_X7_aid : GoodIn wsL_aid wsX7_aid := goodIn_ca (goodIn_ca (goodIn_r _ [7, 8, 9, 10, 6, 11, 12, 13, 14, 15, 16, 17, 18, 19, 20, 21, 22, 23, 24, 25, 26, 27, 28, 29, 30, 31, 32, 33, 34, 35, 36, 37, 38, 39] (by decide +kernel) (by decide +kernel)) (goodIn_sub (fun _ h => List.mem_cons_of_mem _ (List.mem_append_left _ (List.mem_append_right _ h))) (by decide +kernel))) (goodIn_sub (fun _ h => List.mem_cons_of_mem _ (List.mem_append_right _ h)) (by decide +kernel))
set_option maxRecDepth 20000 in
theorem gL_aid_X7_aid : GoodIn wsL_aid (wsV RL 23 RX7 yX7_aid wsX7_aid) := goodIn_app (goodIn_of _ (by decide +kernel)) ggL_aid_X7_aid
theorem dL_aid_0 : decode cL_aid 0 = .ok (.aload_n 3, 1) := by decide +kernel
theorem dL_aid_1 : decode cL_aid 1 = .ok (.iconst 0, 1) := by decide +kernel
theorem dL_aid_2 : decode cL_aid 2 = .ok (.aload_n 0, 1) := by decide +kernel
theorem dL_aid_3 : decode cL_aid 3 = .ok (.iload_n 1, 1) := by decide +kernel
theorem dL_aid_4 : decode cL_aid 4 = .ok (.iload_n 2, 1) := by decide +kernel
theorem dL_aid_5 : decode cL_aid 5 = .ok (.invokevirtual 23, 3) := by decide +kernel
theorem dL_aid_8 : decode cL_aid 8 = .ok (.i2l, 1) := by decide +kernel
theorem dL_aid_9 : decode cL_aid 9 = .ok (.lastore, 1) := by decide +kernel
theorem dL_aid_10 : decode cL_aid 10 = .ok (.goto 11, 3) := by decide +kernel
theorem dL_aid_13 : decode cL_aid 13 = .ok (.astore 4, 2) := by decide +kernel
theorem dL_aid_15 : decode cL_aid 15 = .ok (.iconst 1, 1) := by decide +kernel
theorem dL_aid_16 : decode cL_aid 16 = .ok (.ireturn, 1) := by decide +kernel
theorem dL_aid_17 : decode cL_aid 17 = .ok (.astore 4, 2) := by decide +kernel
theorem dL_aid_19 : decode cL_aid 19 = .ok (.iconst 2, 1) := by decide +kernel
theorem dL_aid_20 : decode cL_aid 20 = .ok (.ireturn, 1) := by decide +kernel
theorem dL_aid_21 : decode cL_aid 21 = .ok (.iconst 0, 1) := by decide +kernel
theorem dL_aid_22 : decode cL_aid 22 = .ok (.ireturn, 1) := by decide +kernel
set_option maxRecDepth 20000 in
theorem ggL_check_X7_check : GoodIn wsL_check wsX7_check := goodIn_ca (goodIn_ca (goodIn_r _ [7, 8, 9, 10, 11, 12, 13, 14, 15, 6, 16, 17, 18, 19, 20, 21, 22, 23, 24, 25, 26, 27, 28, 29, 30, 31, 32, 33, 34, 35, 36, 37, 38, 39, 40] (by decide +kernel) (by decide +kernel)) (goodIn_sub (fun _ h => List.mem_cons_of_mem _ (List.mem_append_left _ (List.mem_append_right _ h))) (by decide +kernel))) (goodIn_sub (fun _ h => List.mem_cons_of_mem _ (List.mem_append_right _ h)) (by decide +kernel))
set_option maxRecDepth 20000 in
theorem gL_check_X7_check : GoodIn wsL_check (wsV RL 27 RX7 yX7_check wsX7_check) := goodIn_app (goodIn_of _ (by decide +kernel)) ggL_check_X7_check
theorem dL_check_0 : decode cL_check 0 = .ok (.aload_n 3, 1) := by decide +kernel
theorem dL_check_1 : decode cL_check 1 = .ok (.iconst 0, 1) := by decide +kernel
theorem dL_check_2 : decode cL_check 2 = .ok (.aload_n 0, 1) := by decide +kernel
theorem dL_check_3 : decode cL_check 3 = .ok (.iload_n 1, 1) := by decide +kernel
theorem dL_check_4 : decode cL_check 4 = .ok (.iload_n 2, 1) := by decide +kernel
theorem dL_check_5 : decode cL_check 5 = .ok (.invokevirtual 27, 3) := by decide +kernel
theorem dL_check_8 : decode cL_check 8 = .ok (.i2l, 1) := by decide +kernel
theorem dL_check_9 : decode cL_check 9 = .ok (.lastore, 1) := by decide +kernel
theorem dL_check_10 : decode cL_check 10 = .ok (.goto 11, 3) := by decide +kernel
theorem dL_check_13 : decode cL_check 13 = .ok (.astore 4, 2) := by decide +kernel
theorem dL_check_15 : decode cL_check 15 = .ok (.iconst 1, 1) := by decide +kernel
theorem dL_check_16 : decode cL_check 16 = .ok (.ireturn, 1) := by decide +kernel
theorem dL_check_17 : decode cL_check 17 = .ok (.astore 4, 2) := by decide +kernel
theorem dL_check_19 : decode cL_check 19 = .ok (.iconst 2, 1) := by decide +kernel
theorem dL_check_20 : decode cL_check 20 = .ok (.ireturn, 1) := by decide +kernel
theorem dL_check_21 : decode cL_check 21 = .ok (.iconst 0, 1) := by decide +kernel
theorem dL_check_22 : decode cL_check 22 = .ok (.ireturn, 1) := by decide +kernel
set_option maxRecDepth 20000 in
theorem ggL_procedure_X7_procedure : GoodIn wsL_procedure wsX7_procedure := goodIn_ca (goodIn_ca (goodIn_ca (goodIn_r _ [8, 9, 10, 11, 12, 13, 7, 14, 15, 16, 17, 18, 19, 20, 21, 22, 23, 24, 25, 26, 27, 28, 29, 30, 31, 32, 33, 34, 35, 36, 37, 38, 39, 40, 41, 42, 43, 44, 45, 46, 47] (by decide +kernel) (by decide +kernel)) (goodIn_sub (fun _ h => List.mem_cons_of_mem _ (List.mem_append_left _ (List.mem_append_left _ (List.mem_append_right _ h)))) (by decide +kernel))) (goodIn_sub (fun _ h => List.mem_cons_of_mem _ (List.mem_append_left _ (List.mem_append_right _ h))) (by decide +kernel))) (goodIn_sub (fun _ h => List.mem_cons_of_mem _ (List.mem_append_right _ h)) (by decide +kernel))
set_option maxRecDepth 20000 in
theorem gL_procedure_X7_procedure : GoodIn wsL_procedure (wsV RL 30 RX7 yX7_procedure wsX7_procedure) := goodIn_app (goodIn_of _ (by decide +kernel)) ggL_procedure_X7_procedure
theorem dL_procedure_0 : decode cL_procedure 0 = .ok (.aload_n 3, 1) := by decide +kernel
theorem dL_procedure_1 : decode cL_procedure 1 = .ok (.iconst 0, 1) := by decide +kernel
theorem dL_procedure_2 : decode cL_procedure 2 = .ok (.aload_n 0, 1) := by decide +kernel
theorem dL_procedure_3 : decode cL_procedure 3 = .ok (.iload_n 1, 1) := by decide +kernel
theorem dL_procedure_4 : decode cL_procedure 4 = .ok (.iload_n 2, 1) := by decide +kernel
theorem dL_procedure_5 : decode cL_procedure 5 = .ok (.invokevirtual 30, 3) := by decide +kernel
theorem dL_procedure_8 : decode cL_procedure 8 = .ok (.i2l, 1) := by decide +kernel
theorem dL_procedure_9 : decode cL_procedure 9 = .ok (.lastore, 1) := by decide +kernel
theorem dL_procedure_10 : decode cL_procedure 10 = .ok (.goto 15, 3) := by decide +kernel
theorem dL_procedure_13 : decode cL_procedure 13 = .ok (.astore 4, 2) := by decide +kernel
theorem dL_procedure_15 : decode cL_procedure 15 = .ok (.iconst 1, 1) := by decide +kernel
theorem dL_procedure_16 : decode cL_procedure 16 = .ok (.ireturn, 1) := by decide +kernel
theorem dL_procedure_17 : decode cL_procedure 17 = .ok (.astore 4, 2) := by decide +kernel
theorem dL_procedure_19 : decode cL_procedure 19 = .ok (.iconst 2, 1) := by decide +kernel
theorem dL_procedure_20 : decode cL_procedure 20 = .ok (.ireturn, 1) := by decide +kernel
theorem dL_procedure_21 : decode cL_procedure 21 = .ok (.astore 4, 2) := by decide +kernel
theorem dL_procedure_23 : decode cL_procedure 23 = .ok (.iconst 3, 1) := by decide +kernel
theorem dL_procedure_24 : decode cL_procedure 24 = .ok (.ireturn, 1) := by decide +kernel
theorem dL_procedure_25 : decode cL_procedure 25 = .ok (.iconst 0, 1) := by decide +kernel
theorem dL_procedure_26 : decode cL_procedure 26 = .ok (.ireturn, 1) := by decide +kernel
set_option maxRecDepth 20000 in
theorem ggL_pass_X7_pass : GoodIn wsL_pass wsX7_pass := goodIn_ca (goodIn_ca (goodIn_r _ [7, 8, 9, 10, 11, 12, 13, 6, 14, 15, 16, 17, 18, 19, 20, 21, 22, 23, 24, 25, 26, 27, 28, 29, 30, 31, 32, 33, 34, 35, 36, 37, 38, 39, 40, 41, 42, 43, 44, 45, 46, 47, 48, 49, 50, 51, 52, 53, 54, 55, 56, 57, 58, 59, 60, 61, 62, 63, 64, 65, 66, 67, 68, 69, 70, 71, 72, 73, 74, 75, 76, 77, 78, 79, 80, 81, 82, 83, 84, 85, 86, 87, 88, 89, 90, 91, 92, 93, 94, 95, 96, 97, 98, 99, 100, 101, 102, 103, 104, 105, 106, 107, 108, 109, 110, 111, 112, 113, 114, 115, 116, 117, 118, 119, 120, 121, 122, 123, 124, 125, 126, 127, 128, 129, 130, 131, 132, 133, 134, 135, 136, 137, 138, 139, 140, 141, 142] (by decide +kernel) (by decide +kernel)) (goodIn_sub (fun _ h => List.mem_cons_of_mem _ (List.mem_append_left _ (List.mem_append_right _ h))) (by decide +kernel))) (goodIn_sub (fun _ h => List.mem_cons_of_mem _ (List.mem_append_right _ h)) (by decide +kernel))
set_option maxRecDepth 20000 in
theorem gL_pass_X7_pass : GoodIn wsL_pass (wsV RL 33 RX7 yX7_pass wsX7_pass) := goodIn_app (goodIn_of _ (by decide +kernel)) ggL_pass_X7_pass
theorem dL_pass_0 : decode cL_pass 0 = .ok (.aload_n 2, 1) := by decide +kernel
theorem dL_pass_1 : decode cL_pass 1 = .ok (.iconst 0, 1) := by decide +kernel
theorem dL_pass_2 : decode cL_pass 2 = .ok (.aload_n 0, 1) := by decide +kernel
theorem dL_pass_3 : decode cL_pass 3 = .ok (.iload_n 1, 1) := by decide +kernel
theorem dL_pass_4 : decode cL_pass 4 = .ok (.invokevirtual 33, 3) := by decide +kernel
theorem dL_pass_7 : decode cL_pass 7 = .ok (.i2l, 1) := by decide +kernel
theorem dL_pass_8 : decode cL_pass 8 = .ok (.lastore, 1) := by decide +kernel
theorem dL_pass_9 : decode cL_pass 9 = .ok (.goto 9, 3) := by decide +kernel
theorem dL_pass_12 : decode cL_pass 12 = .ok (.astore_n 3, 1) := by decide +kernel
theorem dL_pass_13 : decode cL_pass 13 = .ok (.iconst 1, 1) := by decide +kernel
theorem dL_pass_14 : decode cL_pass 14 = .ok (.ireturn, 1) := by decide +kernel
theorem dL_pass_15 : decode cL_pass 15 = .ok (.astore_n 3, 1) := by decide +kernel
theorem dL_pass_16 : decode cL_pass 16 = .ok (.iconst 2, 1) := by decide +kernel
theorem dL_pass_17 : decode cL_pass 17 = .ok (.ireturn, 1) := by decide +kernel
theorem dL_pass_18 : decode cL_pass 18 = .ok (.iconst 0, 1) := by decide +kernel
theorem dL_pass_19 : decode cL_pass 19 = .ok (.ireturn, 1) := by decide +kernel
set_option maxRecDepth 20000 in
theorem ggL_amend_X7_amend : GoodIn wsL_amend wsX7_amend := goodIn_ca (goodIn_ca (goodIn_r _ [7, 8, 9, 10, 11, 12, 13, 14, 15, 16, 17, 18, 6, 19, 20, 21, 22, 23, 24, 25, 26, 27, 28, 29, 30, 31, 32, 33, 34, 35, 36, 37, 38, 39, 40, 41, 42, 43, 44, 45, 46, 47, 48, 49, 50, 51, 52, 53, 54, 55, 56, 57, 58, 59, 60, 61, 62, 63, 64, 65, 66, 67, 68, 69, 70, 71, 72, 73, 74, 75, 76, 77, 78, 79, 80, 81, 82, 83, 84, 85, 86, 87, 88, 89, 90, 91, 92, 93, 94, 95, 96, 97, 98] (by decide +kernel) (by decide +kernel)) (goodIn_sub (fun _ h => List.mem_cons_of_mem _ (List.mem_append_left _ (List.mem_append_right _ h))) (by decide +kernel))) (goodIn_sub (fun _ h => List.mem_cons_of_mem _ (List.mem_append_right _ h)) (by decide +kernel))
set_option maxRecDepth 20000 in
theorem gL_amend_X7_amend : GoodIn wsL_amend (wsV RL 36 RX7 yX7_amend wsX7_amend) := goodIn_app (goodIn_of _ (by decide +kernel)) ggL_amend_X7_amend
theorem dL_amend_0 : decode cL_amend 0 = .ok (.aload_n 2, 1) := by decide +kernel
theorem dL_amend_1 : decode cL_amend 1 = .ok (.iconst 0, 1) := by decide +kernel
theorem dL_amend_2 : decode cL_amend 2 = .ok (.aload_n 0, 1) := by decide +kernel
theorem dL_amend_3 : decode cL_amend 3 = .ok (.iload_n 1, 1) := by decide +kernel
theorem dL_amend_4 : decode cL_amend 4 = .ok (.invokevirtual 36, 3) := by decide +kernel
theorem dL_amend_7 : decode cL_amend 7 = .ok (.i2l, 1) := by decide +kernel
theorem dL_amend_8 : decode cL_amend 8 = .ok (.lastore, 1) := by decide +kernel
theorem dL_amend_9 : decode cL_amend 9 = .ok (.goto 9, 3) := by decide +kernel
theorem dL_amend_12 : decode cL_amend 12 = .ok (.astore_n 3, 1) := by decide +kernel
theorem dL_amend_13 : decode cL_amend 13 = .ok (.iconst 1, 1) := by decide +kernel
theorem dL_amend_14 : decode cL_amend 14 = .ok (.ireturn, 1) := by decide +kernel
theorem dL_amend_15 : decode cL_amend 15 = .ok (.astore_n 3, 1) := by decide +kernel
theorem dL_amend_16 : decode cL_amend 16 = .ok (.iconst 2, 1) := by decide +kernel
theorem dL_amend_17 : decode cL_amend 17 = .ok (.ireturn, 1) := by decide +kernel
theorem dL_amend_18 : decode cL_amend 18 = .ok (.iconst 0, 1) := by decide +kernel
theorem dL_amend_19 : decode cL_amend 19 = .ok (.ireturn, 1) := by decide +kernel
set_option maxRecDepth 20000 in
theorem ggL_raise_X7_raise : GoodIn wsL_raise wsX7_raise := goodIn_ca (goodIn_ca (goodIn_ca (goodIn_r _ [8, 9, 10, 11, 12, 7, 13, 14, 15, 16, 17, 18, 19, 20, 21, 22, 23, 24, 25, 26, 27, 28, 29, 30, 31, 32, 33, 34, 35, 36, 37, 38, 39, 40, 41, 42, 43, 44, 45, 46, 47, 48, 49, 50, 51, 52, 53, 54, 55, 56, 57, 58, 59, 60, 61, 62, 63, 64, 65, 66, 67, 68] (by decide +kernel) (by decide +kernel)) (goodIn_sub (fun _ h => List.mem_cons_of_mem _ (List.mem_append_left _ (List.mem_append_left _ (List.mem_append_right _ h)))) (by decide +kernel))) (goodIn_sub (fun _ h => List.mem_cons_of_mem _ (List.mem_append_left _ (List.mem_append_right _ h))) (by decide +kernel))) (goodIn_sub (fun _ h => List.mem_cons_of_mem _ (List.mem_append_right _ h)) (by decide +kernel))
set_option maxRecDepth 20000 in
theorem gL_raise_X7_raise : GoodIn wsL_raise (wsV RL 39 RX7 yX7_raise wsX7_raise) := goodIn_app (goodIn_of _ (by decide +kernel)) ggL_raise_X7_raise
theorem dL_raise_0 : decode cL_raise 0 = .ok (.aload 5, 2) := by decide +kernel
theorem dL_raise_2 : decode cL_raise 2 = .ok (.iconst 0, 1) := by decide +kernel
theorem dL_raise_3 : decode cL_raise 3 = .ok (.aload_n 0, 1) := by decide +kernel
theorem dL_raise_4 : decode cL_raise 4 = .ok (.iload_n 1, 1) := by decide +kernel
theorem dL_raise_5 : decode cL_raise 5 = .ok (.iload_n 2, 1) := by decide +kernel
theorem dL_raise_6 : decode cL_raise 6 = .ok (.iload_n 3, 1) := by decide +kernel
theorem dL_raise_7 : decode cL_raise 7 = .ok (.iload 4, 2) := by decide +kernel
theorem dL_raise_9 : decode cL_raise 9 = .ok (.invokevirtual 39, 3) := by decide +kernel
theorem dL_raise_12 : decode cL_raise 12 = .ok (.i2l, 1) := by decide +kernel
theorem dL_raise_13 : decode cL_raise 13 = .ok (.lastore, 1) := by decide +kernel
theorem dL_raise_14 : decode cL_raise 14 = .ok (.goto 15, 3) := by decide +kernel
theorem dL_raise_17 : decode cL_raise 17 = .ok (.astore 6, 2) := by decide +kernel
theorem dL_raise_19 : decode cL_raise 19 = .ok (.iconst 1, 1) := by decide +kernel
theorem dL_raise_20 : decode cL_raise 20 = .ok (.ireturn, 1) := by decide +kernel
theorem dL_raise_21 : decode cL_raise 21 = .ok (.astore 6, 2) := by decide +kernel
theorem dL_raise_23 : decode cL_raise 23 = .ok (.iconst 2, 1) := by decide +kernel
theorem dL_raise_24 : decode cL_raise 24 = .ok (.ireturn, 1) := by decide +kernel
theorem dL_raise_25 : decode cL_raise 25 = .ok (.astore 6, 2) := by decide +kernel
theorem dL_raise_27 : decode cL_raise 27 = .ok (.iconst 3, 1) := by decide +kernel
theorem dL_raise_28 : decode cL_raise 28 = .ok (.ireturn, 1) := by decide +kernel
theorem dL_raise_29 : decode cL_raise 29 = .ok (.iconst 0, 1) := by decide +kernel
theorem dL_raise_30 : decode cL_raise 30 = .ok (.ireturn, 1) := by decide +kernel
set_option maxRecDepth 20000 in
theorem ggL_out_X7_out : GoodIn wsL_out wsX7_out := goodIn_ca (goodIn_ca (goodIn_ca (goodIn_r _ [8, 9, 10, 11, 7, 12, 13, 14, 15, 16, 17, 18, 19, 20, 21, 22, 23, 24, 25, 26, 27, 28, 29, 30, 31, 32, 33, 34, 35, 36, 37, 38, 39, 40, 41, 42, 43, 44, 45, 46, 47, 48, 49, 50, 51, 52, 53, 54, 55, 56, 57, 58, 59, 60, 61, 62, 63] (by decide +kernel) (by decide +kernel)) (goodIn_sub (fun _ h => List.mem_cons_of_mem _ (List.mem_append_left _ (List.mem_append_left _ (List.mem_append_right _ h)))) (by decide +kernel))) (goodIn_sub (fun _ h => List.mem_cons_of_mem _ (List.mem_append_left _ (List.mem_append_right _ h))) (by decide +kernel))) (goodIn_sub (fun _ h => List.mem_cons_of_mem _ (List.mem_append_right _ h)) (by decide +kernel))
set_option maxRecDepth 20000 in
theorem gL_out_X7_out : GoodIn wsL_out (wsV RL 43 RX7 yX7_out wsX7_out) := goodIn_app (goodIn_of _ (by decide +kernel)) ggL_out_X7_out
theorem dL_out_0 : decode cL_out 0 = .ok (.aload 4, 2) := by decide +kernel
theorem dL_out_2 : decode cL_out 2 = .ok (.iconst 0, 1) := by decide +kernel
theorem dL_out_3 : decode cL_out 3 = .ok (.aload_n 0, 1) := by decide +kernel
theorem dL_out_4 : decode cL_out 4 = .ok (.iload_n 1, 1) := by decide +kernel
theorem dL_out_5 : decode cL_out 5 = .ok (.iload_n 2, 1) := by decide +kernel
theorem dL_out_6 : decode cL_out 6 = .ok (.iload_n 3, 1) := by decide +kernel
theorem dL_out_7 : decode cL_out 7 = .ok (.invokevirtual 43, 3) := by decide +kernel
theorem dL_out_10 : decode cL_out 10 = .ok (.i2l, 1) := by decide +kernel
theorem dL_out_11 : decode cL_out 11 = .ok (.lastore, 1) := by decide +kernel
theorem dL_out_12 : decode cL_out 12 = .ok (.goto 15, 3) := by decide +kernel
theorem dL_out_15 : decode cL_out 15 = .ok (.astore 5, 2) := by decide +kernel
theorem dL_out_17 : decode cL_out 17 = .ok (.iconst 1, 1) := by decide +kernel
theorem dL_out_18 : decode cL_out 18 = .ok (.ireturn, 1) := by decide +kernel
theorem dL_out_19 : decode cL_out 19 = .ok (.astore 5, 2) := by decide +kernel
theorem dL_out_21 : decode cL_out 21 = .ok (.iconst 2, 1) := by decide +kernel
theorem dL_out_22 : decode cL_out 22 = .ok (.ireturn, 1) := by decide +kernel
theorem dL_out_23 : decode cL_out 23 = .ok (.astore 5, 2) := by decide +kernel
theorem dL_out_25 : decode cL_out 25 = .ok (.iconst 3, 1) := by decide +kernel
theorem dL_out_26 : decode cL_out 26 = .ok (.ireturn, 1) := by decide +kernel
theorem dL_out_27 : decode cL_out 27 = .ok (.iconst 0, 1) := by decide +kernel
theorem dL_out_28 : decode cL_out 28 = .ok (.ireturn, 1) := by decide +kernel
set_option maxRecDepth 20000 in
theorem ggL_close_X7_close : GoodIn wsL_close wsX7_close := goodIn_ca (goodIn_ca (goodIn_ca (goodIn_r _ [8, 9, 10, 11, 12, 7, 13, 14, 15, 16, 17, 18, 19, 20, 21, 22, 23, 24, 25, 26, 27, 28, 29, 30, 31, 32, 33, 34, 35, 36, 37, 38, 39, 40, 41, 42, 43, 44, 45, 46, 47, 48, 49, 50, 51, 52, 53, 54, 55, 56, 57, 58, 59, 60, 61, 62, 63, 64, 65, 66, 67, 68] (by decide +kernel) (by decide +kernel)) (goodIn_sub (fun _ h => List.mem_cons_of_mem _ (List.mem_append_left _ (List.mem_append_left _ (List.mem_append_right _ h)))) (by decide +kernel))) (goodIn_sub (fun _ h => List.mem_cons_of_mem _ (List.mem_append_left _ (List.mem_append_right _ h))) (by decide +kernel))) (goodIn_sub (fun _ h => List.mem_cons_of_mem _ (List.mem_append_right _ h)) (by decide +kernel))
set_option maxRecDepth 20000 in
theorem gL_close_X7_close : GoodIn wsL_close (wsV RL 47 RX7 yX7_close wsX7_close) := goodIn_app (goodIn_of _ (by decide +kernel)) ggL_close_X7_close
theorem dL_close_0 : decode cL_close 0 = .ok (.aload 4, 2) := by decide +kernel
theorem dL_close_2 : decode cL_close 2 = .ok (.iconst 0, 1) := by decide +kernel
theorem dL_close_3 : decode cL_close 3 = .ok (.aload_n 0, 1) := by decide +kernel
theorem dL_close_4 : decode cL_close 4 = .ok (.iload_n 1, 1) := by decide +kernel
theorem dL_close_5 : decode cL_close 5 = .ok (.iload_n 2, 1) := by decide +kernel
theorem dL_close_6 : decode cL_close 6 = .ok (.iload_n 3, 1) := by decide +kernel
theorem dL_close_7 : decode cL_close 7 = .ok (.invokevirtual 47, 3) := by decide +kernel
theorem dL_close_10 : decode cL_close 10 = .ok (.i2l, 1) := by decide +kernel
theorem dL_close_11 : decode cL_close 11 = .ok (.lastore, 1) := by decide +kernel
theorem dL_close_12 : decode cL_close 12 = .ok (.goto 15, 3) := by decide +kernel
theorem dL_close_15 : decode cL_close 15 = .ok (.astore 5, 2) := by decide +kernel
theorem dL_close_17 : decode cL_close 17 = .ok (.iconst 1, 1) := by decide +kernel
theorem dL_close_18 : decode cL_close 18 = .ok (.ireturn, 1) := by decide +kernel
theorem dL_close_19 : decode cL_close 19 = .ok (.astore 5, 2) := by decide +kernel
theorem dL_close_21 : decode cL_close 21 = .ok (.iconst 2, 1) := by decide +kernel
theorem dL_close_22 : decode cL_close 22 = .ok (.ireturn, 1) := by decide +kernel
theorem dL_close_23 : decode cL_close 23 = .ok (.astore 5, 2) := by decide +kernel
theorem dL_close_25 : decode cL_close 25 = .ok (.iconst 3, 1) := by decide +kernel
theorem dL_close_26 : decode cL_close 26 = .ok (.ireturn, 1) := by decide +kernel
theorem dL_close_27 : decode cL_close 27 = .ok (.iconst 0, 1) := by decide +kernel
theorem dL_close_28 : decode cL_close 28 = .ok (.ireturn, 1) := by decide +kernel
set_option maxRecDepth 20000 in
theorem ggL_cancel_X7_cancel : GoodIn wsL_cancel wsX7_cancel := goodIn_ca (goodIn_ca (goodIn_r _ [7, 8, 9, 10, 11, 12, 13, 14, 6, 15, 16, 17, 18, 19, 20, 21, 22, 23, 24, 25, 26, 27, 28, 29, 30, 31, 32, 33, 34, 35, 36, 37, 38, 39, 40, 41, 42, 43, 44, 45, 46, 47, 48, 49, 50, 51, 52, 53, 54, 55, 56, 57, 58, 59, 60, 61, 62, 63, 64] (by decide +kernel) (by decide +kernel)) (goodIn_sub (fun _ h => List.mem_cons_of_mem _ (List.mem_append_left _ (List.mem_append_right _ h))) (by decide +kernel))) (goodIn_sub (fun _ h => List.mem_cons_of_mem _ (List.mem_append_right _ h)) (by decide +kernel))
set_option maxRecDepth 20000 in
theorem gL_cancel_X7_cancel : GoodIn wsL_cancel (wsV RL 50 RX7 yX7_cancel wsX7_cancel) := goodIn_app (goodIn_of _ (by decide +kernel)) ggL_cancel_X7_cancel
theorem dL_cancel_0 : decode cL_cancel 0 = .ok (.aload_n 2, 1) := by decide +kernel
theorem dL_cancel_1 : decode cL_cancel 1 = .ok (.iconst 0, 1) := by decide +kernel
theorem dL_cancel_2 : decode cL_cancel 2 = .ok (.aload_n 0, 1) := by decide +kernel
theorem dL_cancel_3 : decode cL_cancel 3 = .ok (.iload_n 1, 1) := by decide +kernel
theorem dL_cancel_4 : decode cL_cancel 4 = .ok (.invokevirtual 50, 3) := by decide +kernel
theorem dL_cancel_7 : decode cL_cancel 7 = .ok (.i2l, 1) := by decide +kernel
theorem dL_cancel_8 : decode cL_cancel 8 = .ok (.lastore, 1) := by decide +kernel
theorem dL_cancel_9 : decode cL_cancel 9 = .ok (.goto 9, 3) := by decide +kernel
theorem dL_cancel_12 : decode cL_cancel 12 = .ok (.astore_n 3, 1) := by decide +kernel
theorem dL_cancel_13 : decode cL_cancel 13 = .ok (.iconst 1, 1) := by decide +kernel
theorem dL_cancel_14 : decode cL_cancel 14 = .ok (.ireturn, 1) := by decide +kernel
theorem dL_cancel_15 : decode cL_cancel 15 = .ok (.astore_n 3, 1) := by decide +kernel
theorem dL_cancel_16 : decode cL_cancel 16 = .ok (.iconst 2, 1) := by decide +kernel
theorem dL_cancel_17 : decode cL_cancel 17 = .ok (.ireturn, 1) := by decide +kernel
theorem dL_cancel_18 : decode cL_cancel 18 = .ok (.iconst 0, 1) := by decide +kernel
theorem dL_cancel_19 : decode cL_cancel 19 = .ok (.ireturn, 1) := by decide +kernel
set_option maxRecDepth 20000 in
theorem ggL_load_X7_load : GoodIn wsL_load wsX7_load := goodIn_ca (goodIn_r _ [6, 7, 8, 9, 10, 5, 11, 12, 13, 14, 15, 16, 17, 18, 19, 20, 21, 22, 23, 24, 25, 26, 27, 28, 29, 30, 31, 32, 33, 34] (by decide +kernel) (by decide +kernel)) (goodIn_sub (fun _ h => List.mem_cons_of_mem _ (List.mem_append_right _ h)) (by decide +kernel))
set_option maxRecDepth 20000 in
theorem gL_load_X7_load : GoodIn wsL_load (wsV RL 53 RX7 yX7_load wsX7_load) := goodIn_app (goodIn_of _ (by decide +kernel)) ggL_load_X7_load
theorem dL_load_0 : decode cL_load 0 = .ok (.aload_n 2, 1) := by decide +kernel
theorem dL_load_1 : decode cL_load 1 = .ok (.iconst 0, 1) := by decide +kernel
theorem dL_load_2 : decode cL_load 2 = .ok (.aload_n 0, 1) := by decide +kernel
theorem dL_load_3 : decode cL_load 3 = .ok (.iload_n 1, 1) := by decide +kernel
theorem dL_load_4 : decode cL_load 4 = .ok (.invokevirtual 53, 3) := by decide +kernel
theorem dL_load_7 : decode cL_load 7 = .ok (.i2l, 1) := by decide +kernel
theorem dL_load_8 : decode cL_load 8 = .ok (.lastore, 1) := by decide +kernel
theorem dL_load_9 : decode cL_load 9 = .ok (.goto 6, 3) := by decide +kernel
theorem dL_load_12 : decode cL_load 12 = .ok (.astore_n 3, 1) := by decide +kernel
theorem dL_load_13 : decode cL_load 13 = .ok (.iconst 1, 1) := by decide +kernel
theorem dL_load_14 : decode cL_load 14 = .ok (.ireturn, 1) := by decide +kernel
theorem dL_load_15 : decode cL_load 15 = .ok (.iconst 0, 1) := by decide +kernel
theorem dL_load_16 : decode cL_load 16 = .ok (.ireturn, 1) := by decide +kernel
set_option maxRecDepth 20000 in
theorem ggL_read_X7_read : GoodIn wsL_read wsX7_read := goodIn_ca (goodIn_r _ [6, 7, 8, 9, 10, 5, 11, 12, 13, 14, 15, 16, 17, 18, 19, 20, 21, 22, 23, 24, 25, 26, 27, 28, 29, 30, 31, 32, 33, 34, 35, 36, 37, 38, 39, 40, 41] (by decide +kernel) (by decide +kernel)) (goodIn_sub (fun _ h => List.mem_cons_of_mem _ (List.mem_append_right _ h)) (by decide +kernel))
set_option maxRecDepth 20000 in
theorem gL_read_X7_read : GoodIn wsL_read (wsV RL 56 RX7 yX7_read wsX7_read) := goodIn_app (goodIn_of _ (by decide +kernel)) ggL_read_X7_read
theorem dL_read_0 : decode cL_read 0 = .ok (.aload_n 2, 1) := by decide +kernel
theorem dL_read_1 : decode cL_read 1 = .ok (.iconst 0, 1) := by decide +kernel
theorem dL_read_2 : decode cL_read 2 = .ok (.aload_n 0, 1) := by decide +kernel
theorem dL_read_3 : decode cL_read 3 = .ok (.iload_n 1, 1) := by decide +kernel
theorem dL_read_4 : decode cL_read 4 = .ok (.invokevirtual 56, 3) := by decide +kernel
theorem dL_read_7 : decode cL_read 7 = .ok (.i2l, 1) := by decide +kernel
theorem dL_read_8 : decode cL_read 8 = .ok (.lastore, 1) := by decide +kernel
theorem dL_read_9 : decode cL_read 9 = .ok (.goto 6, 3) := by decide +kernel
theorem dL_read_12 : decode cL_read 12 = .ok (.astore_n 3, 1) := by decide +kernel
theorem dL_read_13 : decode cL_read 13 = .ok (.iconst 1, 1) := by decide +kernel
theorem dL_read_14 : decode cL_read 14 = .ok (.ireturn, 1) := by decide +kernel
theorem dL_read_15 : decode cL_read 15 = .ok (.iconst 0, 1) := by decide +kernel
theorem dL_read_16 : decode cL_read 16 = .ok (.ireturn, 1) := by decide +kernel
set_option maxRecDepth 20000 in
theorem ggL_ofObstacle_X7_ofObstacle : GoodIn wsL_ofObstacle wsX7_ofObstacle := goodIn_ca (goodIn_ca (goodIn_r _ [7, 8, 9, 10, 11, 6, 12, 13, 14, 15, 16, 17, 18, 19, 20, 21, 22, 23, 24, 25, 26, 27, 28, 29, 30, 31, 32, 33, 34, 35, 36, 37, 38, 39, 40] (by decide +kernel) (by decide +kernel)) (goodIn_sub (fun _ h => List.mem_cons_of_mem _ (List.mem_append_left _ (List.mem_append_right _ h))) (by decide +kernel))) (goodIn_sub (fun _ h => List.mem_cons_of_mem _ (List.mem_append_right _ h)) (by decide +kernel))
set_option maxRecDepth 20000 in
theorem gL_ofObstacle_X7_ofObstacle : GoodIn wsL_ofObstacle (wsV RL 59 RX7 yX7_ofObstacle wsX7_ofObstacle) := goodIn_app (goodIn_of _ (by decide +kernel)) ggL_ofObstacle_X7_ofObstacle
theorem dL_ofObstacle_0 : decode cL_ofObstacle 0 = .ok (.aload_n 3, 1) := by decide +kernel
theorem dL_ofObstacle_1 : decode cL_ofObstacle 1 = .ok (.iconst 0, 1) := by decide +kernel
theorem dL_ofObstacle_2 : decode cL_ofObstacle 2 = .ok (.aload_n 0, 1) := by decide +kernel
theorem dL_ofObstacle_3 : decode cL_ofObstacle 3 = .ok (.iload_n 1, 1) := by decide +kernel
theorem dL_ofObstacle_4 : decode cL_ofObstacle 4 = .ok (.iload_n 2, 1) := by decide +kernel
theorem dL_ofObstacle_5 : decode cL_ofObstacle 5 = .ok (.invokevirtual 59, 3) := by decide +kernel
theorem dL_ofObstacle_8 : decode cL_ofObstacle 8 = .ok (.i2l, 1) := by decide +kernel
theorem dL_ofObstacle_9 : decode cL_ofObstacle 9 = .ok (.lastore, 1) := by decide +kernel
theorem dL_ofObstacle_10 : decode cL_ofObstacle 10 = .ok (.goto 11, 3) := by decide +kernel
theorem dL_ofObstacle_13 : decode cL_ofObstacle 13 = .ok (.astore 4, 2) := by decide +kernel
theorem dL_ofObstacle_15 : decode cL_ofObstacle 15 = .ok (.iconst 1, 1) := by decide +kernel
theorem dL_ofObstacle_16 : decode cL_ofObstacle 16 = .ok (.ireturn, 1) := by decide +kernel
theorem dL_ofObstacle_17 : decode cL_ofObstacle 17 = .ok (.astore 4, 2) := by decide +kernel
theorem dL_ofObstacle_19 : decode cL_ofObstacle 19 = .ok (.iconst 2, 1) := by decide +kernel
theorem dL_ofObstacle_20 : decode cL_ofObstacle 20 = .ok (.ireturn, 1) := by decide +kernel
theorem dL_ofObstacle_21 : decode cL_ofObstacle 21 = .ok (.iconst 0, 1) := by decide +kernel
theorem dL_ofObstacle_22 : decode cL_ofObstacle 22 = .ok (.ireturn, 1) := by decide +kernel
set_option maxRecDepth 20000 in
theorem ggL_demanded_X7_demanded : GoodIn wsL_demanded wsX7_demanded := goodIn_ca (goodIn_ca (goodIn_r _ [7, 8, 9, 10, 6, 11, 12, 13, 14, 15, 16, 17, 18, 19, 20, 21, 22, 23, 24, 25, 26, 27, 28, 29, 30, 31, 32, 33, 34, 35, 36, 37, 38, 39, 40, 41, 42, 43, 44, 45, 46, 47, 48, 49, 50, 51, 52, 53, 54, 55, 56, 57, 58, 59, 60, 61, 62, 63, 64, 65, 66, 67, 68, 69, 70, 71, 72, 73, 74, 75, 76, 77, 78, 79, 80, 81, 82, 83, 84, 85, 86, 87, 88] (by decide +kernel) (by decide +kernel)) (goodIn_sub (fun _ h => List.mem_cons_of_mem _ (List.mem_append_left _ (List.mem_append_right _ h))) (by decide +kernel))) (goodIn_sub (fun _ h => List.mem_cons_of_mem _ (List.mem_append_right _ h)) (by decide +kernel))
set_option maxRecDepth 20000 in
theorem gL_demanded_X7_demanded : GoodIn wsL_demanded (wsV RL 62 RX7 yX7_demanded wsX7_demanded) := goodIn_app (goodIn_of _ (by decide +kernel)) ggL_demanded_X7_demanded
theorem dL_demanded_0 : decode cL_demanded 0 = .ok (.aload 4, 2) := by decide +kernel
theorem dL_demanded_2 : decode cL_demanded 2 = .ok (.iconst 0, 1) := by decide +kernel
theorem dL_demanded_3 : decode cL_demanded 3 = .ok (.aload_n 0, 1) := by decide +kernel
theorem dL_demanded_4 : decode cL_demanded 4 = .ok (.iload_n 1, 1) := by decide +kernel
theorem dL_demanded_5 : decode cL_demanded 5 = .ok (.iload_n 2, 1) := by decide +kernel
theorem dL_demanded_6 : decode cL_demanded 6 = .ok (.iload_n 3, 1) := by decide +kernel
theorem dL_demanded_7 : decode cL_demanded 7 = .ok (.invokevirtual 62, 3) := by decide +kernel
theorem dL_demanded_10 : decode cL_demanded 10 = .ok (.i2l, 1) := by decide +kernel
theorem dL_demanded_11 : decode cL_demanded 11 = .ok (.lastore, 1) := by decide +kernel
theorem dL_demanded_12 : decode cL_demanded 12 = .ok (.goto 11, 3) := by decide +kernel
theorem dL_demanded_15 : decode cL_demanded 15 = .ok (.astore 5, 2) := by decide +kernel
theorem dL_demanded_17 : decode cL_demanded 17 = .ok (.iconst 1, 1) := by decide +kernel
theorem dL_demanded_18 : decode cL_demanded 18 = .ok (.ireturn, 1) := by decide +kernel
theorem dL_demanded_19 : decode cL_demanded 19 = .ok (.astore 5, 2) := by decide +kernel
theorem dL_demanded_21 : decode cL_demanded 21 = .ok (.iconst 2, 1) := by decide +kernel
theorem dL_demanded_22 : decode cL_demanded 22 = .ok (.ireturn, 1) := by decide +kernel
theorem dL_demanded_23 : decode cL_demanded 23 = .ok (.iconst 0, 1) := by decide +kernel
theorem dL_demanded_24 : decode cL_demanded 24 = .ok (.ireturn, 1) := by decide +kernel
set_option maxRecDepth 20000 in
theorem ggL_decides_X7_decides : GoodIn wsL_decides wsX7_decides := goodIn_ca (goodIn_ca (goodIn_r _ [7, 8, 9, 10, 11, 6, 12, 13, 14, 15, 16, 17, 18, 19, 20, 21, 22, 23, 24, 25, 26, 27, 28, 29, 30, 31, 32, 33, 34, 35, 36, 37, 38, 39, 40, 41, 42, 43, 44, 45, 46, 47, 48, 49, 50, 51, 52, 53, 54, 55, 56, 57, 58, 59, 60, 61, 62, 63, 64, 65, 66, 67, 68, 69, 70, 71, 72, 73, 74, 75, 76, 77, 78, 79, 80, 81, 82, 83, 84, 85] (by decide +kernel) (by decide +kernel)) (goodIn_sub (fun _ h => List.mem_cons_of_mem _ (List.mem_append_left _ (List.mem_append_right _ h))) (by decide +kernel))) (goodIn_sub (fun _ h => List.mem_cons_of_mem _ (List.mem_append_right _ h)) (by decide +kernel))
set_option maxRecDepth 20000 in
theorem gL_decides_X7_decides : GoodIn wsL_decides (wsV RL 65 RX7 yX7_decides wsX7_decides) := goodIn_app (goodIn_of _ (by decide +kernel)) ggL_decides_X7_decides
theorem dL_decides_0 : decode cL_decides 0 = .ok (.aload_n 3, 1) := by decide +kernel
theorem dL_decides_1 : decode cL_decides 1 = .ok (.iconst 0, 1) := by decide +kernel
theorem dL_decides_2 : decode cL_decides 2 = .ok (.aload_n 0, 1) := by decide +kernel
theorem dL_decides_3 : decode cL_decides 3 = .ok (.iload_n 1, 1) := by decide +kernel
theorem dL_decides_4 : decode cL_decides 4 = .ok (.iload_n 2, 1) := by decide +kernel
theorem dL_decides_5 : decode cL_decides 5 = .ok (.invokevirtual 65, 3) := by decide +kernel
theorem dL_decides_8 : decode cL_decides 8 = .ok (.i2l, 1) := by decide +kernel
theorem dL_decides_9 : decode cL_decides 9 = .ok (.lastore, 1) := by decide +kernel
theorem dL_decides_10 : decode cL_decides 10 = .ok (.goto 11, 3) := by decide +kernel
theorem dL_decides_13 : decode cL_decides 13 = .ok (.astore 4, 2) := by decide +kernel
theorem dL_decides_15 : decode cL_decides 15 = .ok (.iconst 1, 1) := by decide +kernel
theorem dL_decides_16 : decode cL_decides 16 = .ok (.ireturn, 1) := by decide +kernel
theorem dL_decides_17 : decode cL_decides 17 = .ok (.astore 4, 2) := by decide +kernel
theorem dL_decides_19 : decode cL_decides 19 = .ok (.iconst 2, 1) := by decide +kernel
theorem dL_decides_20 : decode cL_decides 20 = .ok (.ireturn, 1) := by decide +kernel
theorem dL_decides_21 : decode cL_decides 21 = .ok (.iconst 0, 1) := by decide +kernel
theorem dL_decides_22 : decode cL_decides 22 = .ok (.ireturn, 1) := by decide +kernel
set_option maxRecDepth 20000 in
theorem ggL_chart_X7_chart : GoodIn wsL_chart wsX7_chart := goodIn_ca (goodIn_ca (goodIn_r _ [7, 8, 9, 10, 11, 6, 12, 13, 14, 15, 16, 17, 18, 19, 20, 21, 22, 23, 24, 25, 26, 27, 28, 29, 30, 31, 32, 33, 34, 35, 36, 37, 38, 39, 40, 41, 42, 43, 44, 45, 46, 47, 48, 49, 50, 51, 52, 53, 54] (by decide +kernel) (by decide +kernel)) (goodIn_sub (fun _ h => List.mem_cons_of_mem _ (List.mem_append_left _ (List.mem_append_right _ h))) (by decide +kernel))) (goodIn_sub (fun _ h => List.mem_cons_of_mem _ (List.mem_append_right _ h)) (by decide +kernel))
set_option maxRecDepth 20000 in
theorem gL_chart_X7_chart : GoodIn wsL_chart (wsV RL 68 RX7 yX7_chart wsX7_chart) := goodIn_app (goodIn_of _ (by decide +kernel)) ggL_chart_X7_chart
theorem dL_chart_0 : decode cL_chart 0 = .ok (.aload_n 3, 1) := by decide +kernel
theorem dL_chart_1 : decode cL_chart 1 = .ok (.iconst 0, 1) := by decide +kernel
theorem dL_chart_2 : decode cL_chart 2 = .ok (.aload_n 0, 1) := by decide +kernel
theorem dL_chart_3 : decode cL_chart 3 = .ok (.iload_n 1, 1) := by decide +kernel
theorem dL_chart_4 : decode cL_chart 4 = .ok (.iload_n 2, 1) := by decide +kernel
theorem dL_chart_5 : decode cL_chart 5 = .ok (.invokevirtual 68, 3) := by decide +kernel
theorem dL_chart_8 : decode cL_chart 8 = .ok (.i2l, 1) := by decide +kernel
theorem dL_chart_9 : decode cL_chart 9 = .ok (.lastore, 1) := by decide +kernel
theorem dL_chart_10 : decode cL_chart 10 = .ok (.goto 11, 3) := by decide +kernel
theorem dL_chart_13 : decode cL_chart 13 = .ok (.astore 4, 2) := by decide +kernel
theorem dL_chart_15 : decode cL_chart 15 = .ok (.iconst 1, 1) := by decide +kernel
theorem dL_chart_16 : decode cL_chart 16 = .ok (.ireturn, 1) := by decide +kernel
theorem dL_chart_17 : decode cL_chart 17 = .ok (.astore 4, 2) := by decide +kernel
theorem dL_chart_19 : decode cL_chart 19 = .ok (.iconst 2, 1) := by decide +kernel
theorem dL_chart_20 : decode cL_chart 20 = .ok (.ireturn, 1) := by decide +kernel
theorem dL_chart_21 : decode cL_chart 21 = .ok (.iconst 0, 1) := by decide +kernel
theorem dL_chart_22 : decode cL_chart 22 = .ok (.ireturn, 1) := by decide +kernel
set_option maxRecDepth 20000 in
theorem ggL_inForce_X7_inForce : GoodIn wsL_inForce wsX7_inForce := goodIn_ca (goodIn_ca (goodIn_r _ [7, 8, 9, 10, 6, 11, 12, 13, 14, 15, 16, 17, 18, 19, 20, 21, 22, 23, 24, 25, 26, 27, 28, 29, 30, 31, 32, 33, 34, 35, 36, 37, 38, 39, 40, 41, 42, 43, 44, 45, 46, 47, 48, 49, 50, 51, 52, 53, 54, 55, 56, 57, 58, 59, 60, 61, 62, 63, 64, 65, 66, 67, 68, 69, 70, 71, 72, 73, 74, 75, 76, 77, 78, 79, 80, 81, 82, 83, 84, 85, 86, 87, 88, 89, 90, 91, 92, 93, 94, 95, 96, 97, 98, 99, 100, 101, 102, 103] (by decide +kernel) (by decide +kernel)) (goodIn_sub (fun _ h => List.mem_cons_of_mem _ (List.mem_append_left _ (List.mem_append_right _ h))) (by decide +kernel))) (goodIn_sub (fun _ h => List.mem_cons_of_mem _ (List.mem_append_right _ h)) (by decide +kernel))
set_option maxRecDepth 20000 in
theorem gL_inForce_X7_inForce : GoodIn wsL_inForce (wsV RL 71 RX7 yX7_inForce wsX7_inForce) := goodIn_app (goodIn_of _ (by decide +kernel)) ggL_inForce_X7_inForce
theorem dL_inForce_0 : decode cL_inForce 0 = .ok (.aload 4, 2) := by decide +kernel
theorem dL_inForce_2 : decode cL_inForce 2 = .ok (.iconst 0, 1) := by decide +kernel
theorem dL_inForce_3 : decode cL_inForce 3 = .ok (.aload_n 0, 1) := by decide +kernel
theorem dL_inForce_4 : decode cL_inForce 4 = .ok (.iload_n 1, 1) := by decide +kernel
theorem dL_inForce_5 : decode cL_inForce 5 = .ok (.iload_n 2, 1) := by decide +kernel
theorem dL_inForce_6 : decode cL_inForce 6 = .ok (.iload_n 3, 1) := by decide +kernel
theorem dL_inForce_7 : decode cL_inForce 7 = .ok (.invokevirtual 71, 3) := by decide +kernel
theorem dL_inForce_10 : decode cL_inForce 10 = .ok (.i2l, 1) := by decide +kernel
theorem dL_inForce_11 : decode cL_inForce 11 = .ok (.lastore, 1) := by decide +kernel
theorem dL_inForce_12 : decode cL_inForce 12 = .ok (.goto 11, 3) := by decide +kernel
theorem dL_inForce_15 : decode cL_inForce 15 = .ok (.astore 5, 2) := by decide +kernel
theorem dL_inForce_17 : decode cL_inForce 17 = .ok (.iconst 1, 1) := by decide +kernel
theorem dL_inForce_18 : decode cL_inForce 18 = .ok (.ireturn, 1) := by decide +kernel
theorem dL_inForce_19 : decode cL_inForce 19 = .ok (.astore 5, 2) := by decide +kernel
theorem dL_inForce_21 : decode cL_inForce 21 = .ok (.iconst 2, 1) := by decide +kernel
theorem dL_inForce_22 : decode cL_inForce 22 = .ok (.ireturn, 1) := by decide +kernel
theorem dL_inForce_23 : decode cL_inForce 23 = .ok (.iconst 0, 1) := by decide +kernel
theorem dL_inForce_24 : decode cL_inForce 24 = .ok (.ireturn, 1) := by decide +kernel
set_option maxRecDepth 20000 in
theorem ggL_ofNotice_X7_ofNotice : GoodIn wsL_ofNotice wsX7_ofNotice := goodIn_ca (goodIn_ca (goodIn_r _ [7, 8, 9, 10, 11, 12, 6, 13, 14, 15, 16, 17, 18, 19, 20, 21, 22, 23, 24, 25, 26, 27, 28, 29, 30, 31, 32, 33, 34, 35, 36, 37, 38, 39, 40, 41, 42, 43, 44, 45, 46, 47, 48, 49, 50, 51, 52] (by decide +kernel) (by decide +kernel)) (goodIn_sub (fun _ h => List.mem_cons_of_mem _ (List.mem_append_left _ (List.mem_append_right _ h))) (by decide +kernel))) (goodIn_sub (fun _ h => List.mem_cons_of_mem _ (List.mem_append_right _ h)) (by decide +kernel))
set_option maxRecDepth 20000 in
theorem gL_ofNotice_X7_ofNotice : GoodIn wsL_ofNotice (wsV RL 74 RX7 yX7_ofNotice wsX7_ofNotice) := goodIn_app (goodIn_of _ (by decide +kernel)) ggL_ofNotice_X7_ofNotice
theorem dL_ofNotice_0 : decode cL_ofNotice 0 = .ok (.aload_n 3, 1) := by decide +kernel
theorem dL_ofNotice_1 : decode cL_ofNotice 1 = .ok (.iconst 0, 1) := by decide +kernel
theorem dL_ofNotice_2 : decode cL_ofNotice 2 = .ok (.aload_n 0, 1) := by decide +kernel
theorem dL_ofNotice_3 : decode cL_ofNotice 3 = .ok (.iload_n 1, 1) := by decide +kernel
theorem dL_ofNotice_4 : decode cL_ofNotice 4 = .ok (.iload_n 2, 1) := by decide +kernel
theorem dL_ofNotice_5 : decode cL_ofNotice 5 = .ok (.invokevirtual 74, 3) := by decide +kernel
theorem dL_ofNotice_8 : decode cL_ofNotice 8 = .ok (.i2l, 1) := by decide +kernel
theorem dL_ofNotice_9 : decode cL_ofNotice 9 = .ok (.lastore, 1) := by decide +kernel
theorem dL_ofNotice_10 : decode cL_ofNotice 10 = .ok (.goto 11, 3) := by decide +kernel
theorem dL_ofNotice_13 : decode cL_ofNotice 13 = .ok (.astore 4, 2) := by decide +kernel
theorem dL_ofNotice_15 : decode cL_ofNotice 15 = .ok (.iconst 1, 1) := by decide +kernel
theorem dL_ofNotice_16 : decode cL_ofNotice 16 = .ok (.ireturn, 1) := by decide +kernel
theorem dL_ofNotice_17 : decode cL_ofNotice 17 = .ok (.astore 4, 2) := by decide +kernel
theorem dL_ofNotice_19 : decode cL_ofNotice 19 = .ok (.iconst 2, 1) := by decide +kernel
theorem dL_ofNotice_20 : decode cL_ofNotice 20 = .ok (.ireturn, 1) := by decide +kernel
theorem dL_ofNotice_21 : decode cL_ofNotice 21 = .ok (.iconst 0, 1) := by decide +kernel
theorem dL_ofNotice_22 : decode cL_ofNotice 22 = .ok (.ireturn, 1) := by decide +kernel
set_option maxRecDepth 20000 in
theorem ggL_believes_X7_believes : GoodIn wsL_believes wsX7_believes := goodIn_ca (goodIn_ca (goodIn_r _ [7, 8, 9, 10, 6, 11, 12, 13, 14, 15, 16, 17, 18, 19, 20, 21, 22, 23, 24, 25, 26, 27, 28, 29, 30, 31, 32, 33, 34, 35, 36, 37, 38, 39, 40, 41, 42, 43, 44, 45, 46, 47, 48, 49, 50, 51, 52, 53, 54, 55, 56, 57, 58, 59, 60, 61, 62, 63, 64, 65, 66, 67, 68, 69, 70, 71, 72, 73, 74, 75, 76, 77, 78, 79, 80, 81, 82, 83, 84, 85, 86, 87, 88, 89, 90, 91, 92, 93, 94, 95, 96, 97] (by decide +kernel) (by decide +kernel)) (goodIn_sub (fun _ h => List.mem_cons_of_mem _ (List.mem_append_left _ (List.mem_append_right _ h))) (by decide +kernel))) (goodIn_sub (fun _ h => List.mem_cons_of_mem _ (List.mem_append_right _ h)) (by decide +kernel))
set_option maxRecDepth 20000 in
theorem gL_believes_X7_believes : GoodIn wsL_believes (wsV RL 77 RX7 yX7_believes wsX7_believes) := goodIn_app (goodIn_of _ (by decide +kernel)) ggL_believes_X7_believes
theorem dL_believes_0 : decode cL_believes 0 = .ok (.aload 5, 2) := by decide +kernel
theorem dL_believes_2 : decode cL_believes 2 = .ok (.iconst 0, 1) := by decide +kernel
theorem dL_believes_3 : decode cL_believes 3 = .ok (.aload_n 0, 1) := by decide +kernel
theorem dL_believes_4 : decode cL_believes 4 = .ok (.iload_n 1, 1) := by decide +kernel
theorem dL_believes_5 : decode cL_believes 5 = .ok (.iload_n 2, 1) := by decide +kernel
theorem dL_believes_6 : decode cL_believes 6 = .ok (.iload_n 3, 1) := by decide +kernel
theorem dL_believes_7 : decode cL_believes 7 = .ok (.iload 4, 2) := by decide +kernel
theorem dL_believes_9 : decode cL_believes 9 = .ok (.invokevirtual 77, 3) := by decide +kernel
theorem dL_believes_12 : decode cL_believes 12 = .ok (.i2l, 1) := by decide +kernel
theorem dL_believes_13 : decode cL_believes 13 = .ok (.lastore, 1) := by decide +kernel
theorem dL_believes_14 : decode cL_believes 14 = .ok (.goto 11, 3) := by decide +kernel
theorem dL_believes_17 : decode cL_believes 17 = .ok (.astore 6, 2) := by decide +kernel
theorem dL_believes_19 : decode cL_believes 19 = .ok (.iconst 1, 1) := by decide +kernel
theorem dL_believes_20 : decode cL_believes 20 = .ok (.ireturn, 1) := by decide +kernel
theorem dL_believes_21 : decode cL_believes 21 = .ok (.astore 6, 2) := by decide +kernel
theorem dL_believes_23 : decode cL_believes 23 = .ok (.iconst 2, 1) := by decide +kernel
theorem dL_believes_24 : decode cL_believes 24 = .ok (.ireturn, 1) := by decide +kernel
theorem dL_believes_25 : decode cL_believes 25 = .ok (.iconst 0, 1) := by decide +kernel
theorem dL_believes_26 : decode cL_believes 26 = .ok (.ireturn, 1) := by decide +kernel
set_option maxRecDepth 20000 in
theorem ggL_misled_X7_misled : GoodIn wsL_misled wsX7_misled := goodIn_ca (goodIn_r _ [6, 7, 8, 9, 10, 5, 11, 12, 13, 14, 15, 16, 17, 18, 19, 20, 21, 22, 23, 24, 25, 26, 27, 28, 29, 30, 31, 32, 33, 34, 35, 36, 37, 38, 39, 40, 41, 42, 43, 44, 45, 46, 47, 48, 49, 50, 51, 52, 53, 54, 55, 56, 57, 58, 59, 60, 61, 62, 63, 64, 65, 66, 67, 68, 69, 70, 71, 72, 73, 74, 75, 76, 77, 78, 79, 80, 81, 82, 83, 84, 85, 86, 87, 88, 89, 90, 91, 92, 93, 94, 95] (by decide +kernel) (by decide +kernel)) (goodIn_sub (fun _ h => List.mem_cons_of_mem _ (List.mem_append_right _ h)) (by decide +kernel))
set_option maxRecDepth 20000 in
theorem gL_misled_X7_misled : GoodIn wsL_misled (wsV RL 80 RX7 yX7_misled wsX7_misled) := goodIn_app (goodIn_of _ (by decide +kernel)) ggL_misled_X7_misled
theorem dL_misled_0 : decode cL_misled 0 = .ok (.aload_n 2, 1) := by decide +kernel
theorem dL_misled_1 : decode cL_misled 1 = .ok (.iconst 0, 1) := by decide +kernel
theorem dL_misled_2 : decode cL_misled 2 = .ok (.aload_n 0, 1) := by decide +kernel
theorem dL_misled_3 : decode cL_misled 3 = .ok (.iload_n 1, 1) := by decide +kernel
theorem dL_misled_4 : decode cL_misled 4 = .ok (.invokevirtual 80, 3) := by decide +kernel
theorem dL_misled_7 : decode cL_misled 7 = .ok (.i2l, 1) := by decide +kernel
theorem dL_misled_8 : decode cL_misled 8 = .ok (.lastore, 1) := by decide +kernel
theorem dL_misled_9 : decode cL_misled 9 = .ok (.goto 6, 3) := by decide +kernel
theorem dL_misled_12 : decode cL_misled 12 = .ok (.astore_n 3, 1) := by decide +kernel
theorem dL_misled_13 : decode cL_misled 13 = .ok (.iconst 1, 1) := by decide +kernel
theorem dL_misled_14 : decode cL_misled 14 = .ok (.ireturn, 1) := by decide +kernel
theorem dL_misled_15 : decode cL_misled 15 = .ok (.iconst 0, 1) := by decide +kernel
theorem dL_misled_16 : decode cL_misled 16 = .ok (.ireturn, 1) := by decide +kernel
set_option maxRecDepth 20000 in
theorem ggL_many_X7_many : GoodIn wsL_many wsX7_many := goodIn_ca (goodIn_r _ [6, 7, 8, 9, 10, 11, 12, 13, 14, 15, 16, 5, 17, 18, 19, 20, 21, 22, 23, 24, 25, 26, 27, 28, 29, 30, 31, 32, 33, 34, 35, 36, 37, 38, 39, 40, 41, 42, 43, 44, 45, 46, 47, 48, 49, 50, 51, 52, 53, 54, 55, 56, 57, 58, 59, 60, 61, 62, 63, 64, 65, 66, 67, 68, 69, 70, 71, 72, 73, 74, 75, 76, 77, 78, 79, 80, 81, 82, 83, 84, 85, 86, 87, 88, 89, 90, 91, 92, 93, 94, 95, 96, 97, 98, 99, 100, 101, 102, 103, 104, 105, 106, 107, 108, 109, 110, 111, 112, 113, 114, 115, 116, 117, 118, 119, 120, 121, 122, 123, 124, 125, 126, 127, 128, 129, 130, 131, 132, 133, 134, 135, 136, 137, 138, 139, 140, 141, 142, 143, 144, 145] (by decide +kernel) (by decide +kernel)) (goodIn_sub (fun _ h => List.mem_cons_of_mem _ (List.mem_append_right _ h)) (by decide +kernel))
set_option maxRecDepth 20000 in
theorem gL_many_X7_many : GoodIn wsL_many (wsV RL 83 RX7 yX7_many wsX7_many) := goodIn_app (goodIn_of _ (by decide +kernel)) ggL_many_X7_many
theorem dL_many_0 : decode cL_many 0 = .ok (.aload_n 2, 1) := by decide +kernel
theorem dL_many_1 : decode cL_many 1 = .ok (.iconst 0, 1) := by decide +kernel
theorem dL_many_2 : decode cL_many 2 = .ok (.aload_n 0, 1) := by decide +kernel
theorem dL_many_3 : decode cL_many 3 = .ok (.iload_n 1, 1) := by decide +kernel
theorem dL_many_4 : decode cL_many 4 = .ok (.invokevirtual 83, 3) := by decide +kernel
theorem dL_many_7 : decode cL_many 7 = .ok (.i2l, 1) := by decide +kernel
theorem dL_many_8 : decode cL_many 8 = .ok (.lastore, 1) := by decide +kernel
theorem dL_many_9 : decode cL_many 9 = .ok (.goto 6, 3) := by decide +kernel
theorem dL_many_12 : decode cL_many 12 = .ok (.astore_n 3, 1) := by decide +kernel
theorem dL_many_13 : decode cL_many 13 = .ok (.iconst 1, 1) := by decide +kernel
theorem dL_many_14 : decode cL_many 14 = .ok (.ireturn, 1) := by decide +kernel
theorem dL_many_15 : decode cL_many 15 = .ok (.iconst 0, 1) := by decide +kernel
theorem dL_many_16 : decode cL_many 16 = .ok (.ireturn, 1) := by decide +kernel
set_option maxRecDepth 20000 in
theorem ggL_meanDemanded_X7_meanDemanded : GoodIn wsL_meanDemanded wsX7_meanDemanded := goodIn_ca (goodIn_r _ [6, 7, 8, 9, 5, 10, 11, 12, 13, 14, 15, 16, 17, 18, 19, 20, 21, 22, 23, 24, 25, 26, 27, 28, 29, 30, 31, 32, 33, 34, 35, 36, 37, 38, 39, 40, 41, 42, 43, 44, 45, 46, 47, 48, 49, 50, 51, 52, 53, 54, 55, 56, 57, 58, 59, 60, 61, 62, 63, 64, 65, 66, 67, 68, 69, 70, 71, 72, 73, 74, 75, 76, 77, 78] (by decide +kernel) (by decide +kernel)) (goodIn_sub (fun _ h => List.mem_cons_of_mem _ (List.mem_append_right _ h)) (by decide +kernel))
set_option maxRecDepth 20000 in
theorem gL_meanDemanded_X7_meanDemanded : GoodIn wsL_meanDemanded (wsV RL 86 RX7 yX7_meanDemanded wsX7_meanDemanded) := goodIn_app (goodIn_of _ (by decide +kernel)) ggL_meanDemanded_X7_meanDemanded
theorem dL_meanDemanded_0 : decode cL_meanDemanded 0 = .ok (.aload_n 2, 1) := by decide +kernel
theorem dL_meanDemanded_1 : decode cL_meanDemanded 1 = .ok (.iconst 0, 1) := by decide +kernel
theorem dL_meanDemanded_2 : decode cL_meanDemanded 2 = .ok (.aload_n 0, 1) := by decide +kernel
theorem dL_meanDemanded_3 : decode cL_meanDemanded 3 = .ok (.iload_n 1, 1) := by decide +kernel
theorem dL_meanDemanded_4 : decode cL_meanDemanded 4 = .ok (.invokevirtual 86, 3) := by decide +kernel
theorem dL_meanDemanded_7 : decode cL_meanDemanded 7 = .ok (.dastore, 1) := by decide +kernel
theorem dL_meanDemanded_8 : decode cL_meanDemanded 8 = .ok (.goto 6, 3) := by decide +kernel
theorem dL_meanDemanded_11 : decode cL_meanDemanded 11 = .ok (.astore_n 3, 1) := by decide +kernel
theorem dL_meanDemanded_12 : decode cL_meanDemanded 12 = .ok (.iconst 1, 1) := by decide +kernel
theorem dL_meanDemanded_13 : decode cL_meanDemanded 13 = .ok (.ireturn, 1) := by decide +kernel
theorem dL_meanDemanded_14 : decode cL_meanDemanded 14 = .ok (.iconst 0, 1) := by decide +kernel
theorem dL_meanDemanded_15 : decode cL_meanDemanded 15 = .ok (.ireturn, 1) := by decide +kernel
set_option maxRecDepth 20000 in
theorem ggL_permit_X7_permit : GoodIn wsL_permit wsX7_permit := goodIn_ca (goodIn_r _ [6, 7, 8, 9, 5, 10, 11, 12, 13, 14, 15, 16, 17, 18, 19, 20, 21, 22, 23, 24, 25, 26, 27, 28, 29, 30, 31, 32, 33, 34, 35, 36, 37, 38, 39, 40, 41, 42, 43, 44, 45, 46, 47, 48, 49, 50, 51, 52, 53, 54, 55, 56, 57, 58, 59, 60, 61, 62, 63, 64, 65, 66, 67, 68, 69, 70, 71, 72, 73, 74, 75, 76, 77, 78, 79, 80, 81, 82, 83, 84, 85, 86, 87, 88, 89, 90, 91, 92, 93, 94, 95, 96, 97, 98, 99, 100, 101, 102, 103, 104, 105, 106, 107, 108, 109, 110, 111, 112, 113, 114, 115, 116, 117, 118, 119, 120, 121, 122, 123, 124, 125, 126, 127, 128, 129, 130, 131, 132, 133, 134, 135, 136, 137, 138, 139, 140, 141, 142, 143, 144, 145] (by decide +kernel) (by decide +kernel)) (goodIn_sub (fun _ h => List.mem_cons_of_mem _ (List.mem_append_right _ h)) (by decide +kernel))
set_option maxRecDepth 20000 in
theorem gL_permit_X7_permit : GoodIn wsL_permit (wsV RL 90 RX7 yX7_permit wsX7_permit) := goodIn_app (goodIn_of _ (by decide +kernel)) ggL_permit_X7_permit
theorem dL_permit_0 : decode cL_permit 0 = .ok (.aload 6, 2) := by decide +kernel
theorem dL_permit_2 : decode cL_permit 2 = .ok (.iconst 0, 1) := by decide +kernel
theorem dL_permit_3 : decode cL_permit 3 = .ok (.aload_n 0, 1) := by decide +kernel
theorem dL_permit_4 : decode cL_permit 4 = .ok (.iload_n 1, 1) := by decide +kernel
theorem dL_permit_5 : decode cL_permit 5 = .ok (.iload_n 2, 1) := by decide +kernel
theorem dL_permit_6 : decode cL_permit 6 = .ok (.iload_n 3, 1) := by decide +kernel
theorem dL_permit_7 : decode cL_permit 7 = .ok (.iload 4, 2) := by decide +kernel
theorem dL_permit_9 : decode cL_permit 9 = .ok (.iload 5, 2) := by decide +kernel
theorem dL_permit_11 : decode cL_permit 11 = .ok (.invokevirtual 90, 3) := by decide +kernel
theorem dL_permit_14 : decode cL_permit 14 = .ok (.i2l, 1) := by decide +kernel
theorem dL_permit_15 : decode cL_permit 15 = .ok (.lastore, 1) := by decide +kernel
theorem dL_permit_16 : decode cL_permit 16 = .ok (.goto 7, 3) := by decide +kernel
theorem dL_permit_19 : decode cL_permit 19 = .ok (.astore 7, 2) := by decide +kernel
theorem dL_permit_21 : decode cL_permit 21 = .ok (.iconst 1, 1) := by decide +kernel
theorem dL_permit_22 : decode cL_permit 22 = .ok (.ireturn, 1) := by decide +kernel
theorem dL_permit_23 : decode cL_permit 23 = .ok (.iconst 0, 1) := by decide +kernel
theorem dL_permit_24 : decode cL_permit 24 = .ok (.ireturn, 1) := by decide +kernel
set_option maxRecDepth 20000 in
theorem ggL_highest_X7_highest : GoodIn wsL_highest wsX7_highest := goodIn_ca (goodIn_r _ [6, 7, 8, 9, 5, 10, 11, 12, 13, 14, 15, 16, 17, 18, 19, 20, 21, 22, 23, 24, 25, 26, 27, 28, 29, 30, 31, 32, 33, 34, 35, 36, 37, 38, 39, 40, 41, 42, 43, 44, 45, 46, 47, 48, 49, 50, 51, 52, 53, 54, 55, 56, 57, 58, 59, 60, 61, 62, 63, 64, 65, 66, 67, 68, 69, 70, 71, 72, 73, 74, 75, 76, 77, 78, 79, 80, 81, 82, 83, 84, 85, 86, 87, 88, 89, 90, 91, 92, 93, 94, 95, 96, 97, 98, 99, 100, 101, 102, 103, 104, 105, 106, 107, 108, 109, 110, 111, 112, 113, 114, 115, 116, 117, 118, 119, 120, 121, 122, 123, 124, 125, 126, 127, 128, 129, 130, 131, 132, 133, 134, 135, 136, 137, 138, 139, 140, 141, 142] (by decide +kernel) (by decide +kernel)) (goodIn_sub (fun _ h => List.mem_cons_of_mem _ (List.mem_append_right _ h)) (by decide +kernel))
set_option maxRecDepth 20000 in
theorem gL_highest_X7_highest : GoodIn wsL_highest (wsV RL 93 RX7 yX7_highest wsX7_highest) := goodIn_app (goodIn_of _ (by decide +kernel)) ggL_highest_X7_highest
theorem dL_highest_0 : decode cL_highest 0 = .ok (.aload 5, 2) := by decide +kernel
theorem dL_highest_2 : decode cL_highest 2 = .ok (.iconst 0, 1) := by decide +kernel
theorem dL_highest_3 : decode cL_highest 3 = .ok (.aload_n 0, 1) := by decide +kernel
theorem dL_highest_4 : decode cL_highest 4 = .ok (.iload_n 1, 1) := by decide +kernel
theorem dL_highest_5 : decode cL_highest 5 = .ok (.iload_n 2, 1) := by decide +kernel
theorem dL_highest_6 : decode cL_highest 6 = .ok (.iload_n 3, 1) := by decide +kernel
theorem dL_highest_7 : decode cL_highest 7 = .ok (.iload 4, 2) := by decide +kernel
theorem dL_highest_9 : decode cL_highest 9 = .ok (.invokevirtual 93, 3) := by decide +kernel
theorem dL_highest_12 : decode cL_highest 12 = .ok (.i2l, 1) := by decide +kernel
theorem dL_highest_13 : decode cL_highest 13 = .ok (.lastore, 1) := by decide +kernel
theorem dL_highest_14 : decode cL_highest 14 = .ok (.goto 7, 3) := by decide +kernel
theorem dL_highest_17 : decode cL_highest 17 = .ok (.astore 6, 2) := by decide +kernel
theorem dL_highest_19 : decode cL_highest 19 = .ok (.iconst 1, 1) := by decide +kernel
theorem dL_highest_20 : decode cL_highest 20 = .ok (.ireturn, 1) := by decide +kernel
theorem dL_highest_21 : decode cL_highest 21 = .ok (.iconst 0, 1) := by decide +kernel
theorem dL_highest_22 : decode cL_highest 22 = .ok (.ireturn, 1) := by decide +kernel
set_option maxRecDepth 20000 in
theorem ggL_unsafeOn_X7_unsafeOn : GoodIn wsL_unsafeOn wsX7_unsafeOn := goodIn_ca (goodIn_r _ [6, 7, 8, 9, 10, 5, 11, 12, 13, 14, 15, 16, 17, 18, 19, 20, 21, 22, 23, 24, 25, 26, 27, 28, 29, 30, 31, 32, 33, 34, 35, 36, 37, 38, 39, 40, 41, 42, 43, 44, 45, 46, 47, 48, 49, 50, 51, 52, 53, 54, 55, 56, 57, 58, 59, 60, 61, 62, 63, 64, 65, 66, 67, 68, 69, 70, 71, 72, 73, 74, 75, 76, 77, 78, 79, 80, 81, 82, 83, 84, 85, 86, 87, 88, 89, 90, 91, 92, 93, 94, 95, 96, 97, 98, 99, 100, 101, 102, 103, 104, 105, 106, 107, 108, 109, 110, 111, 112, 113, 114, 115, 116, 117, 118, 119, 120, 121, 122, 123, 124, 125, 126, 127, 128] (by decide +kernel) (by decide +kernel)) (goodIn_sub (fun _ h => List.mem_cons_of_mem _ (List.mem_append_right _ h)) (by decide +kernel))
set_option maxRecDepth 20000 in
theorem gL_unsafeOn_X7_unsafeOn : GoodIn wsL_unsafeOn (wsV RL 96 RX7 yX7_unsafeOn wsX7_unsafeOn) := goodIn_app (goodIn_of _ (by decide +kernel)) ggL_unsafeOn_X7_unsafeOn
theorem dL_unsafeOn_0 : decode cL_unsafeOn 0 = .ok (.aload_n 2, 1) := by decide +kernel
theorem dL_unsafeOn_1 : decode cL_unsafeOn 1 = .ok (.iconst 0, 1) := by decide +kernel
theorem dL_unsafeOn_2 : decode cL_unsafeOn 2 = .ok (.aload_n 0, 1) := by decide +kernel
theorem dL_unsafeOn_3 : decode cL_unsafeOn 3 = .ok (.iload_n 1, 1) := by decide +kernel
theorem dL_unsafeOn_4 : decode cL_unsafeOn 4 = .ok (.invokevirtual 96, 3) := by decide +kernel
theorem dL_unsafeOn_7 : decode cL_unsafeOn 7 = .ok (.i2l, 1) := by decide +kernel
theorem dL_unsafeOn_8 : decode cL_unsafeOn 8 = .ok (.lastore, 1) := by decide +kernel
theorem dL_unsafeOn_9 : decode cL_unsafeOn 9 = .ok (.goto 6, 3) := by decide +kernel
theorem dL_unsafeOn_12 : decode cL_unsafeOn 12 = .ok (.astore_n 3, 1) := by decide +kernel
theorem dL_unsafeOn_13 : decode cL_unsafeOn 13 = .ok (.iconst 1, 1) := by decide +kernel
theorem dL_unsafeOn_14 : decode cL_unsafeOn 14 = .ok (.ireturn, 1) := by decide +kernel
theorem dL_unsafeOn_15 : decode cL_unsafeOn 15 = .ok (.iconst 0, 1) := by decide +kernel
theorem dL_unsafeOn_16 : decode cL_unsafeOn 16 = .ok (.ireturn, 1) := by decide +kernel
set_option maxRecDepth 20000 in
theorem ggL_raiseFor_X7_raiseFor : GoodIn wsL_raiseFor wsX7_raiseFor := goodIn_ca (goodIn_r _ [6, 7, 8, 9, 10, 11, 12, 13, 14, 15, 5, 16, 17, 18, 19, 20, 21, 22, 23, 24, 25, 26, 27, 28, 29, 30, 31, 32, 33, 34, 35, 36, 37, 38, 39, 40, 41, 42, 43, 44, 45, 46, 47, 48, 49, 50, 51, 52, 53, 54, 55, 56, 57, 58, 59, 60, 61, 62, 63, 64, 65, 66, 67, 68, 69, 70, 71, 72, 73, 74, 75, 76, 77, 78, 79, 80, 81, 82, 83, 84, 85, 86, 87, 88, 89, 90, 91, 92, 93, 94, 95, 96, 97, 98, 99, 100, 101, 102, 103, 104, 105, 106, 107, 108, 109, 110, 111, 112, 113, 114, 115, 116, 117, 118, 119, 120, 121, 122, 123, 124, 125, 126, 127, 128] (by decide +kernel) (by decide +kernel)) (goodIn_sub (fun _ h => List.mem_cons_of_mem _ (List.mem_append_right _ h)) (by decide +kernel))
set_option maxRecDepth 20000 in
theorem gL_raiseFor_X7_raiseFor : GoodIn wsL_raiseFor (wsV RL 99 RX7 yX7_raiseFor wsX7_raiseFor) := goodIn_app (goodIn_of _ (by decide +kernel)) ggL_raiseFor_X7_raiseFor
theorem dL_raiseFor_0 : decode cL_raiseFor 0 = .ok (.aload_n 2, 1) := by decide +kernel
theorem dL_raiseFor_1 : decode cL_raiseFor 1 = .ok (.iconst 0, 1) := by decide +kernel
theorem dL_raiseFor_2 : decode cL_raiseFor 2 = .ok (.aload_n 0, 1) := by decide +kernel
theorem dL_raiseFor_3 : decode cL_raiseFor 3 = .ok (.iload_n 1, 1) := by decide +kernel
theorem dL_raiseFor_4 : decode cL_raiseFor 4 = .ok (.invokevirtual 99, 3) := by decide +kernel
theorem dL_raiseFor_7 : decode cL_raiseFor 7 = .ok (.i2l, 1) := by decide +kernel
theorem dL_raiseFor_8 : decode cL_raiseFor 8 = .ok (.lastore, 1) := by decide +kernel
theorem dL_raiseFor_9 : decode cL_raiseFor 9 = .ok (.goto 6, 3) := by decide +kernel
theorem dL_raiseFor_12 : decode cL_raiseFor 12 = .ok (.astore_n 3, 1) := by decide +kernel
theorem dL_raiseFor_13 : decode cL_raiseFor 13 = .ok (.iconst 1, 1) := by decide +kernel
theorem dL_raiseFor_14 : decode cL_raiseFor 14 = .ok (.ireturn, 1) := by decide +kernel
theorem dL_raiseFor_15 : decode cL_raiseFor 15 = .ok (.iconst 0, 1) := by decide +kernel
theorem dL_raiseFor_16 : decode cL_raiseFor 16 = .ok (.ireturn, 1) := by decide +kernel
