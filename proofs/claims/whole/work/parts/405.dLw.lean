set_option maxRecDepth 20000 in
theorem ggL_leg_X6_leg : GoodIn wsL_leg wsX6_leg := goodIn_ca (goodIn_ca (goodIn_ca (goodIn_r _ [8, 9, 10, 11, 12, 13, 14, 15, 7, 16, 17, 18, 19, 20, 21, 22, 23, 24, 25, 26, 27, 28, 29, 30, 31, 32, 33, 34, 35, 36, 37, 38, 39, 40, 41, 42] (by decide +kernel) (by decide +kernel)) (goodIn_sub (fun _ h => List.mem_cons_of_mem _ (List.mem_append_left _ (List.mem_append_left _ (List.mem_append_right _ h)))) (by decide +kernel))) (goodIn_sub (fun _ h => List.mem_cons_of_mem _ (List.mem_append_left _ (List.mem_append_right _ h))) (by decide +kernel))) (goodIn_sub (fun _ h => List.mem_cons_of_mem _ (List.mem_append_right _ h)) (by decide +kernel))
set_option maxRecDepth 20000 in
theorem gL_leg_X6_leg : GoodIn wsL_leg (wsV RL 7 RX6 yX6_leg wsX6_leg) := goodIn_app (goodIn_of _ (by decide +kernel)) ggL_leg_X6_leg
theorem dL_leg_0 : decode cL_leg 0 = .ok (.aload_n 3, 1) := by decide +kernel
theorem dL_leg_1 : decode cL_leg 1 = .ok (.iconst 0, 1) := by decide +kernel
theorem dL_leg_2 : decode cL_leg 2 = .ok (.aload_n 0, 1) := by decide +kernel
theorem dL_leg_3 : decode cL_leg 3 = .ok (.iload_n 1, 1) := by decide +kernel
theorem dL_leg_4 : decode cL_leg 4 = .ok (.iload_n 2, 1) := by decide +kernel
theorem dL_leg_5 : decode cL_leg 5 = .ok (.invokevirtual 7, 3) := by decide +kernel
theorem dL_leg_8 : decode cL_leg 8 = .ok (.i2l, 1) := by decide +kernel
theorem dL_leg_9 : decode cL_leg 9 = .ok (.lastore, 1) := by decide +kernel
theorem dL_leg_10 : decode cL_leg 10 = .ok (.goto 15, 3) := by decide +kernel
theorem dL_leg_13 : decode cL_leg 13 = .ok (.astore 4, 2) := by decide +kernel
theorem dL_leg_15 : decode cL_leg 15 = .ok (.iconst 1, 1) := by decide +kernel
theorem dL_leg_16 : decode cL_leg 16 = .ok (.ireturn, 1) := by decide +kernel
theorem dL_leg_17 : decode cL_leg 17 = .ok (.astore 4, 2) := by decide +kernel
theorem dL_leg_19 : decode cL_leg 19 = .ok (.iconst 2, 1) := by decide +kernel
theorem dL_leg_20 : decode cL_leg 20 = .ok (.ireturn, 1) := by decide +kernel
theorem dL_leg_21 : decode cL_leg 21 = .ok (.astore 4, 2) := by decide +kernel
theorem dL_leg_23 : decode cL_leg 23 = .ok (.iconst 3, 1) := by decide +kernel
theorem dL_leg_24 : decode cL_leg 24 = .ok (.ireturn, 1) := by decide +kernel
theorem dL_leg_25 : decode cL_leg 25 = .ok (.iconst 0, 1) := by decide +kernel
theorem dL_leg_26 : decode cL_leg 26 = .ok (.ireturn, 1) := by decide +kernel
set_option maxRecDepth 20000 in
theorem ggL_write_X6_write : GoodIn wsL_write wsX6_write := goodIn_ca (goodIn_ca (goodIn_r _ [7, 8, 9, 10, 11, 12, 13, 14, 6, 15, 16, 17, 18, 19, 20, 21, 22, 23, 24, 25, 26, 27, 28, 29, 30, 31, 32, 33, 34, 35, 36, 37, 38, 39, 40, 41, 42, 43, 44, 45, 46, 47, 48, 49, 50, 51, 52, 53, 54, 55, 56, 57, 58, 59, 60, 61, 62, 63, 64, 65, 66, 67, 68, 69, 70, 71, 72, 73, 74, 75, 76, 77, 78, 79, 80, 81, 82, 83, 84, 85, 86, 87, 88] (by decide +kernel) (by decide +kernel)) (goodIn_sub (fun _ h => List.mem_cons_of_mem _ (List.mem_append_left _ (List.mem_append_right _ h))) (by decide +kernel))) (goodIn_sub (fun _ h => List.mem_cons_of_mem _ (List.mem_append_right _ h)) (by decide +kernel))
set_option maxRecDepth 20000 in
theorem gL_write_X6_write : GoodIn wsL_write (wsV RL 19 RX6 yX6_write wsX6_write) := goodIn_app (goodIn_of _ (by decide +kernel)) ggL_write_X6_write
theorem dL_write_0 : decode cL_write 0 = .ok (.aload_n 2, 1) := by decide +kernel
theorem dL_write_1 : decode cL_write 1 = .ok (.iconst 0, 1) := by decide +kernel
theorem dL_write_2 : decode cL_write 2 = .ok (.aload_n 0, 1) := by decide +kernel
theorem dL_write_3 : decode cL_write 3 = .ok (.iload_n 1, 1) := by decide +kernel
theorem dL_write_4 : decode cL_write 4 = .ok (.invokevirtual 19, 3) := by decide +kernel
theorem dL_write_7 : decode cL_write 7 = .ok (.i2l, 1) := by decide +kernel
theorem dL_write_8 : decode cL_write 8 = .ok (.lastore, 1) := by decide +kernel
theorem dL_write_9 : decode cL_write 9 = .ok (.goto 9, 3) := by decide +kernel
theorem dL_write_12 : decode cL_write 12 = .ok (.astore_n 3, 1) := by decide +kernel
theorem dL_write_13 : decode cL_write 13 = .ok (.iconst 1, 1) := by decide +kernel
theorem dL_write_14 : decode cL_write 14 = .ok (.ireturn, 1) := by decide +kernel
theorem dL_write_15 : decode cL_write 15 = .ok (.astore_n 3, 1) := by decide +kernel
theorem dL_write_16 : decode cL_write 16 = .ok (.iconst 2, 1) := by decide +kernel
theorem dL_write_17 : decode cL_write 17 = .ok (.ireturn, 1) := by decide +kernel
theorem dL_write_18 : decode cL_write 18 = .ok (.iconst 0, 1) := by decide +kernel
theorem dL_write_19 : decode cL_write 19 = .ok (.ireturn, 1) := by decide +kernel
set_option maxRecDepth 20000 in
theorem ggL_reverse_X6_reverse : GoodIn wsL_reverse wsX6_reverse := goodIn_ca (goodIn_ca (goodIn_r _ [7, 8, 9, 10, 11, 12, 13, 14, 15, 6, 16, 17, 18, 19, 20, 21, 22, 23, 24, 25, 26, 27, 28, 29, 30, 31, 32, 33, 34, 35, 36, 37, 38, 39, 40, 41, 42, 43, 44, 45, 46, 47, 48, 49, 50, 51, 52, 53, 54, 55, 56, 57, 58, 59, 60, 61, 62, 63, 64, 65, 66, 67, 68, 69, 70, 71, 72, 73, 74, 75, 76, 77, 78, 79, 80, 81, 82, 83, 84, 85, 86, 87, 88, 89, 90, 91, 92, 93, 94, 95, 96, 97, 98, 99, 100, 101, 102, 103, 104, 105, 106, 107, 108, 109, 110, 111, 112] (by decide +kernel) (by decide +kernel)) (goodIn_sub (fun _ h => List.mem_cons_of_mem _ (List.mem_append_left _ (List.mem_append_right _ h))) (by decide +kernel))) (goodIn_sub (fun _ h => List.mem_cons_of_mem _ (List.mem_append_right _ h)) (by decide +kernel))
set_option maxRecDepth 20000 in
theorem gL_reverse_X6_reverse : GoodIn wsL_reverse (wsV RL 23 RX6 yX6_reverse wsX6_reverse) := goodIn_app (goodIn_of _ (by decide +kernel)) ggL_reverse_X6_reverse
theorem dL_reverse_0 : decode cL_reverse 0 = .ok (.aload_n 2, 1) := by decide +kernel
theorem dL_reverse_1 : decode cL_reverse 1 = .ok (.iconst 0, 1) := by decide +kernel
theorem dL_reverse_2 : decode cL_reverse 2 = .ok (.aload_n 0, 1) := by decide +kernel
theorem dL_reverse_3 : decode cL_reverse 3 = .ok (.iload_n 1, 1) := by decide +kernel
theorem dL_reverse_4 : decode cL_reverse 4 = .ok (.invokevirtual 23, 3) := by decide +kernel
theorem dL_reverse_7 : decode cL_reverse 7 = .ok (.i2l, 1) := by decide +kernel
theorem dL_reverse_8 : decode cL_reverse 8 = .ok (.lastore, 1) := by decide +kernel
theorem dL_reverse_9 : decode cL_reverse 9 = .ok (.goto 9, 3) := by decide +kernel
theorem dL_reverse_12 : decode cL_reverse 12 = .ok (.astore_n 3, 1) := by decide +kernel
theorem dL_reverse_13 : decode cL_reverse 13 = .ok (.iconst 1, 1) := by decide +kernel
theorem dL_reverse_14 : decode cL_reverse 14 = .ok (.ireturn, 1) := by decide +kernel
theorem dL_reverse_15 : decode cL_reverse 15 = .ok (.astore_n 3, 1) := by decide +kernel
theorem dL_reverse_16 : decode cL_reverse 16 = .ok (.iconst 2, 1) := by decide +kernel
theorem dL_reverse_17 : decode cL_reverse 17 = .ok (.ireturn, 1) := by decide +kernel
theorem dL_reverse_18 : decode cL_reverse 18 = .ok (.iconst 0, 1) := by decide +kernel
theorem dL_reverse_19 : decode cL_reverse 19 = .ok (.ireturn, 1) := by decide +kernel
set_option maxRecDepth 20000 in
theorem ggL_pass_X6_pass : GoodIn wsL_pass wsX6_pass := goodIn_ca (goodIn_ca (goodIn_r _ [7, 8, 9, 10, 11, 12, 13, 14, 15, 16, 17, 18] (by decide +kernel) (by decide +kernel)) (goodIn_sub (fun _ h => List.mem_cons_of_mem _ (List.mem_append_left _ (List.mem_append_right _ h))) (by decide +kernel))) (goodIn_sub (fun _ h => List.mem_cons_of_mem _ (List.mem_append_right _ h)) (by decide +kernel))
set_option maxRecDepth 20000 in
theorem gL_pass_X6_pass : GoodIn wsL_pass (wsV RL 26 RX6 yX6_pass wsX6_pass) := goodIn_app (goodIn_of _ (by decide +kernel)) ggL_pass_X6_pass
theorem dL_pass_0 : decode cL_pass 0 = .ok (.aload_n 2, 1) := by decide +kernel
theorem dL_pass_1 : decode cL_pass 1 = .ok (.iconst 0, 1) := by decide +kernel
theorem dL_pass_2 : decode cL_pass 2 = .ok (.aload_n 0, 1) := by decide +kernel
theorem dL_pass_3 : decode cL_pass 3 = .ok (.iload_n 1, 1) := by decide +kernel
theorem dL_pass_4 : decode cL_pass 4 = .ok (.invokevirtual 26, 3) := by decide +kernel
theorem dL_pass_7 : decode cL_pass 7 = .ok (.i2l, 1) := by decide +kernel
theorem dL_pass_8 : decode cL_pass 8 = .ok (.lastore, 1) := by decide +kernel
theorem dL_pass_9 : decode cL_pass 9 = .ok (.goto 9, 3) := by decide +kernel
theorem dL_pass_12 : decode cL_pass 12 = .ok (.astore_n 3, 1) := by decide +kernel
theorem dL_pass_13 : decode cL_pass 13 = .ok (.iconst 1, 1) := by decide +kernel
theorem dL_pass_14 : decode cL_pass 14 = .ok (.ireturn, 1) := by decide +kernel
theorem dL_pass_15 : decode cL_pass 15 = .ok (.astore_n 3, 1) := by decide +kernel
theorem dL_pass_16 : decode cL_pass 16 = .ok (.iconst 2, 1) := by decide +kernel
theorem dL_pass_17 : decode cL_pass 17 = .ok (.ireturn, 1) := by decide +kernel
theorem dL_pass_18 : decode cL_pass 18 = .ok (.iconst 0, 1) := by decide +kernel
theorem dL_pass_19 : decode cL_pass 19 = .ok (.ireturn, 1) := by decide +kernel
set_option maxRecDepth 20000 in
theorem ggL_burn_X6_burn : GoodIn wsL_burn wsX6_burn := goodIn_ca (goodIn_ca (goodIn_r _ [7, 8, 9, 10, 11, 12, 13, 14, 6, 15, 16, 17, 18, 19, 20, 21, 22, 23, 24, 25, 26, 27, 28, 29, 30, 31, 32, 33, 34, 35, 36, 37, 38, 39, 40, 41, 42, 43, 44] (by decide +kernel) (by decide +kernel)) (goodIn_sub (fun _ h => List.mem_cons_of_mem _ (List.mem_append_left _ (List.mem_append_right _ h))) (by decide +kernel))) (goodIn_sub (fun _ h => List.mem_cons_of_mem _ (List.mem_append_right _ h)) (by decide +kernel))
set_option maxRecDepth 20000 in
theorem gL_burn_X6_burn : GoodIn wsL_burn (wsV RL 29 RX6 yX6_burn wsX6_burn) := goodIn_app (goodIn_of _ (by decide +kernel)) ggL_burn_X6_burn
theorem dL_burn_0 : decode cL_burn 0 = .ok (.aload_n 3, 1) := by decide +kernel
theorem dL_burn_1 : decode cL_burn 1 = .ok (.iconst 0, 1) := by decide +kernel
theorem dL_burn_2 : decode cL_burn 2 = .ok (.aload_n 0, 1) := by decide +kernel
theorem dL_burn_3 : decode cL_burn 3 = .ok (.iload_n 1, 1) := by decide +kernel
theorem dL_burn_4 : decode cL_burn 4 = .ok (.iload_n 2, 1) := by decide +kernel
theorem dL_burn_5 : decode cL_burn 5 = .ok (.invokevirtual 29, 3) := by decide +kernel
theorem dL_burn_8 : decode cL_burn 8 = .ok (.i2l, 1) := by decide +kernel
theorem dL_burn_9 : decode cL_burn 9 = .ok (.lastore, 1) := by decide +kernel
theorem dL_burn_10 : decode cL_burn 10 = .ok (.goto 11, 3) := by decide +kernel
theorem dL_burn_13 : decode cL_burn 13 = .ok (.astore 4, 2) := by decide +kernel
theorem dL_burn_15 : decode cL_burn 15 = .ok (.iconst 1, 1) := by decide +kernel
theorem dL_burn_16 : decode cL_burn 16 = .ok (.ireturn, 1) := by decide +kernel
theorem dL_burn_17 : decode cL_burn 17 = .ok (.astore 4, 2) := by decide +kernel
theorem dL_burn_19 : decode cL_burn 19 = .ok (.iconst 2, 1) := by decide +kernel
theorem dL_burn_20 : decode cL_burn 20 = .ok (.ireturn, 1) := by decide +kernel
theorem dL_burn_21 : decode cL_burn 21 = .ok (.iconst 0, 1) := by decide +kernel
theorem dL_burn_22 : decode cL_burn 22 = .ok (.ireturn, 1) := by decide +kernel
set_option maxRecDepth 20000 in
theorem ggL_alter_X6_alter : GoodIn wsL_alter wsX6_alter := goodIn_ca (goodIn_ca (goodIn_ca (goodIn_r _ [8, 9, 10, 11, 12, 13, 14, 15, 16, 17, 18, 7, 19, 20, 21, 22, 23, 24, 25, 26, 27, 28, 29, 30, 31, 32, 33, 34, 35, 36, 37, 38, 39, 40, 41, 42, 43, 44, 45, 46, 47, 48, 49, 50, 51, 52, 53, 54, 55] (by decide +kernel) (by decide +kernel)) (goodIn_sub (fun _ h => List.mem_cons_of_mem _ (List.mem_append_left _ (List.mem_append_left _ (List.mem_append_right _ h)))) (by decide +kernel))) (goodIn_sub (fun _ h => List.mem_cons_of_mem _ (List.mem_append_left _ (List.mem_append_right _ h))) (by decide +kernel))) (goodIn_sub (fun _ h => List.mem_cons_of_mem _ (List.mem_append_right _ h)) (by decide +kernel))
set_option maxRecDepth 20000 in
theorem gL_alter_X6_alter : GoodIn wsL_alter (wsV RL 32 RX6 yX6_alter wsX6_alter) := goodIn_app (goodIn_of _ (by decide +kernel)) ggL_alter_X6_alter
theorem dL_alter_0 : decode cL_alter 0 = .ok (.aload 4, 2) := by decide +kernel
theorem dL_alter_2 : decode cL_alter 2 = .ok (.iconst 0, 1) := by decide +kernel
theorem dL_alter_3 : decode cL_alter 3 = .ok (.aload_n 0, 1) := by decide +kernel
theorem dL_alter_4 : decode cL_alter 4 = .ok (.iload_n 1, 1) := by decide +kernel
theorem dL_alter_5 : decode cL_alter 5 = .ok (.iload_n 2, 1) := by decide +kernel
theorem dL_alter_6 : decode cL_alter 6 = .ok (.iload_n 3, 1) := by decide +kernel
theorem dL_alter_7 : decode cL_alter 7 = .ok (.invokevirtual 32, 3) := by decide +kernel
theorem dL_alter_10 : decode cL_alter 10 = .ok (.i2l, 1) := by decide +kernel
theorem dL_alter_11 : decode cL_alter 11 = .ok (.lastore, 1) := by decide +kernel
theorem dL_alter_12 : decode cL_alter 12 = .ok (.goto 15, 3) := by decide +kernel
theorem dL_alter_15 : decode cL_alter 15 = .ok (.astore 5, 2) := by decide +kernel
theorem dL_alter_17 : decode cL_alter 17 = .ok (.iconst 1, 1) := by decide +kernel
theorem dL_alter_18 : decode cL_alter 18 = .ok (.ireturn, 1) := by decide +kernel
theorem dL_alter_19 : decode cL_alter 19 = .ok (.astore 5, 2) := by decide +kernel
theorem dL_alter_21 : decode cL_alter 21 = .ok (.iconst 2, 1) := by decide +kernel
theorem dL_alter_22 : decode cL_alter 22 = .ok (.ireturn, 1) := by decide +kernel
theorem dL_alter_23 : decode cL_alter 23 = .ok (.astore 5, 2) := by decide +kernel
theorem dL_alter_25 : decode cL_alter 25 = .ok (.iconst 3, 1) := by decide +kernel
theorem dL_alter_26 : decode cL_alter 26 = .ok (.ireturn, 1) := by decide +kernel
theorem dL_alter_27 : decode cL_alter 27 = .ok (.iconst 0, 1) := by decide +kernel
theorem dL_alter_28 : decode cL_alter 28 = .ok (.ireturn, 1) := by decide +kernel
set_option maxRecDepth 20000 in
theorem ggL_copy_X6_copy : GoodIn wsL_copy wsX6_copy := goodIn_ca (goodIn_r _ [6, 7, 8, 9, 10, 11, 5, 12, 13, 14, 15, 16, 17, 18, 19, 20, 21, 22, 23, 24, 25, 26, 27, 28, 29, 30, 31, 32, 33, 34, 35, 36, 37, 38, 39, 40, 41, 42, 43, 44, 45, 46, 47, 48, 49, 50, 51, 52, 53, 54, 55, 56, 57, 58, 59, 60, 61, 62, 63, 64, 65, 66, 67, 68, 69, 70, 71, 72, 73, 74, 75, 76, 77, 78, 79, 80, 81, 82, 83, 84, 85, 86, 87, 88, 89, 90, 91, 92, 93, 94, 95, 96, 97, 98, 99, 100] (by decide +kernel) (by decide +kernel)) (goodIn_sub (fun _ h => List.mem_cons_of_mem _ (List.mem_append_right _ h)) (by decide +kernel))
set_option maxRecDepth 20000 in
theorem gL_copy_X6_copy : GoodIn wsL_copy (wsV RL 36 RX6 yX6_copy wsX6_copy) := goodIn_app (goodIn_of _ (by decide +kernel)) ggL_copy_X6_copy
theorem dL_copy_0 : decode cL_copy 0 = .ok (.aload_n 1, 1) := by decide +kernel
theorem dL_copy_1 : decode cL_copy 1 = .ok (.iconst 0, 1) := by decide +kernel
theorem dL_copy_2 : decode cL_copy 2 = .ok (.aload_n 0, 1) := by decide +kernel
theorem dL_copy_3 : decode cL_copy 3 = .ok (.invokevirtual 36, 3) := by decide +kernel
theorem dL_copy_6 : decode cL_copy 6 = .ok (.i2l, 1) := by decide +kernel
theorem dL_copy_7 : decode cL_copy 7 = .ok (.lastore, 1) := by decide +kernel
theorem dL_copy_8 : decode cL_copy 8 = .ok (.goto 6, 3) := by decide +kernel
theorem dL_copy_11 : decode cL_copy 11 = .ok (.astore_n 2, 1) := by decide +kernel
theorem dL_copy_12 : decode cL_copy 12 = .ok (.iconst 1, 1) := by decide +kernel
theorem dL_copy_13 : decode cL_copy 13 = .ok (.ireturn, 1) := by decide +kernel
theorem dL_copy_14 : decode cL_copy 14 = .ok (.iconst 0, 1) := by decide +kernel
theorem dL_copy_15 : decode cL_copy 15 = .ok (.ireturn, 1) := by decide +kernel
set_option maxRecDepth 20000 in
theorem ggL_copyFrom_X6_copyFrom : GoodIn wsL_copyFrom wsX6_copyFrom := goodIn_ca (goodIn_ca (goodIn_r _ [7, 8, 9, 10, 11, 12, 6, 13, 14, 15, 16, 17, 18, 19, 20, 21, 22, 23, 24, 25, 26, 27, 28, 29, 30, 31, 32, 33, 34, 35, 36, 37, 38, 39, 40, 41, 42, 43, 44, 45, 46, 47, 48, 49, 50, 51, 52, 53, 54, 55, 56, 57, 58, 59, 60, 61, 62, 63, 64, 65, 66, 67, 68, 69, 70, 71, 72, 73, 74, 75, 76, 77, 78, 79, 80, 81, 82, 83, 84, 85, 86, 87, 88, 89, 90, 91, 92, 93, 94, 95, 96, 97, 98, 99, 100, 101, 102, 103, 104, 105, 106, 107, 108, 109, 110, 111] (by decide +kernel) (by decide +kernel)) (goodIn_sub (fun _ h => List.mem_cons_of_mem _ (List.mem_append_left _ (List.mem_append_right _ h))) (by decide +kernel))) (goodIn_sub (fun _ h => List.mem_cons_of_mem _ (List.mem_append_right _ h)) (by decide +kernel))
set_option maxRecDepth 20000 in
theorem gL_copyFrom_X6_copyFrom : GoodIn wsL_copyFrom (wsV RL 40 RX6 yX6_copyFrom wsX6_copyFrom) := goodIn_app (goodIn_of _ (by decide +kernel)) ggL_copyFrom_X6_copyFrom
theorem dL_copyFrom_0 : decode cL_copyFrom 0 = .ok (.aload_n 2, 1) := by decide +kernel
theorem dL_copyFrom_1 : decode cL_copyFrom 1 = .ok (.iconst 0, 1) := by decide +kernel
theorem dL_copyFrom_2 : decode cL_copyFrom 2 = .ok (.aload_n 0, 1) := by decide +kernel
theorem dL_copyFrom_3 : decode cL_copyFrom 3 = .ok (.iload_n 1, 1) := by decide +kernel
theorem dL_copyFrom_4 : decode cL_copyFrom 4 = .ok (.invokevirtual 40, 3) := by decide +kernel
theorem dL_copyFrom_7 : decode cL_copyFrom 7 = .ok (.i2l, 1) := by decide +kernel
theorem dL_copyFrom_8 : decode cL_copyFrom 8 = .ok (.lastore, 1) := by decide +kernel
theorem dL_copyFrom_9 : decode cL_copyFrom 9 = .ok (.goto 9, 3) := by decide +kernel
theorem dL_copyFrom_12 : decode cL_copyFrom 12 = .ok (.astore_n 3, 1) := by decide +kernel
theorem dL_copyFrom_13 : decode cL_copyFrom 13 = .ok (.iconst 1, 1) := by decide +kernel
theorem dL_copyFrom_14 : decode cL_copyFrom 14 = .ok (.ireturn, 1) := by decide +kernel
theorem dL_copyFrom_15 : decode cL_copyFrom 15 = .ok (.astore_n 3, 1) := by decide +kernel
theorem dL_copyFrom_16 : decode cL_copyFrom 16 = .ok (.iconst 2, 1) := by decide +kernel
theorem dL_copyFrom_17 : decode cL_copyFrom 17 = .ok (.ireturn, 1) := by decide +kernel
theorem dL_copyFrom_18 : decode cL_copyFrom 18 = .ok (.iconst 0, 1) := by decide +kernel
theorem dL_copyFrom_19 : decode cL_copyFrom 19 = .ok (.ireturn, 1) := by decide +kernel
set_option maxRecDepth 20000 in
theorem ggL_carry_X6_carry : GoodIn wsL_carry wsX6_carry := goodIn_ca (goodIn_r _ [6, 7, 8, 9, 10, 11, 5, 12, 13, 14, 15, 16, 17, 18, 19, 20, 21, 22, 23, 24, 25, 26, 27, 28, 29, 30, 31, 32, 33, 34, 35, 36, 37, 38, 39, 40, 41, 42, 43, 44, 45, 46, 47, 48, 49, 50, 51, 52, 53, 54, 55, 56, 57, 58, 59, 60, 61, 62, 63, 64] (by decide +kernel) (by decide +kernel)) (goodIn_sub (fun _ h => List.mem_cons_of_mem _ (List.mem_append_right _ h)) (by decide +kernel))
set_option maxRecDepth 20000 in
theorem gL_carry_X6_carry : GoodIn wsL_carry (wsV RL 43 RX6 yX6_carry wsX6_carry) := goodIn_app (goodIn_of _ (by decide +kernel)) ggL_carry_X6_carry
theorem dL_carry_0 : decode cL_carry 0 = .ok (.aload_n 3, 1) := by decide +kernel
theorem dL_carry_1 : decode cL_carry 1 = .ok (.iconst 0, 1) := by decide +kernel
theorem dL_carry_2 : decode cL_carry 2 = .ok (.aload_n 0, 1) := by decide +kernel
theorem dL_carry_3 : decode cL_carry 3 = .ok (.iload_n 1, 1) := by decide +kernel
theorem dL_carry_4 : decode cL_carry 4 = .ok (.iload_n 2, 1) := by decide +kernel
theorem dL_carry_5 : decode cL_carry 5 = .ok (.invokevirtual 43, 3) := by decide +kernel
theorem dL_carry_8 : decode cL_carry 8 = .ok (.i2l, 1) := by decide +kernel
theorem dL_carry_9 : decode cL_carry 9 = .ok (.lastore, 1) := by decide +kernel
theorem dL_carry_10 : decode cL_carry 10 = .ok (.goto 7, 3) := by decide +kernel
theorem dL_carry_13 : decode cL_carry 13 = .ok (.astore 4, 2) := by decide +kernel
theorem dL_carry_15 : decode cL_carry 15 = .ok (.iconst 1, 1) := by decide +kernel
theorem dL_carry_16 : decode cL_carry 16 = .ok (.ireturn, 1) := by decide +kernel
theorem dL_carry_17 : decode cL_carry 17 = .ok (.iconst 0, 1) := by decide +kernel
theorem dL_carry_18 : decode cL_carry 18 = .ok (.ireturn, 1) := by decide +kernel
set_option maxRecDepth 20000 in
theorem ggL_rot_X6_rot : GoodIn wsL_rot wsX6_rot := goodIn_ca (goodIn_r _ [6, 7, 8, 9, 10, 5, 11, 12, 13, 14, 15, 16, 17, 18, 19, 20, 21, 22, 23, 24, 25, 26, 27, 28, 29, 30, 31, 32, 33, 34, 35, 36, 37, 38, 39, 40, 41, 42, 43, 44, 45, 46, 47, 48] (by decide +kernel) (by decide +kernel)) (goodIn_sub (fun _ h => List.mem_cons_of_mem _ (List.mem_append_right _ h)) (by decide +kernel))
set_option maxRecDepth 20000 in
theorem gL_rot_X6_rot : GoodIn wsL_rot (wsV RL 47 RX6 yX6_rot wsX6_rot) := goodIn_app (goodIn_of _ (by decide +kernel)) ggL_rot_X6_rot
theorem dL_rot_0 : decode cL_rot 0 = .ok (.aload_n 3, 1) := by decide +kernel
theorem dL_rot_1 : decode cL_rot 1 = .ok (.iconst 0, 1) := by decide +kernel
theorem dL_rot_2 : decode cL_rot 2 = .ok (.aload_n 0, 1) := by decide +kernel
theorem dL_rot_3 : decode cL_rot 3 = .ok (.iload_n 1, 1) := by decide +kernel
theorem dL_rot_4 : decode cL_rot 4 = .ok (.iload_n 2, 1) := by decide +kernel
theorem dL_rot_5 : decode cL_rot 5 = .ok (.invokevirtual 47, 3) := by decide +kernel
theorem dL_rot_8 : decode cL_rot 8 = .ok (.ifCond .eq 7, 3) := by decide +kernel
theorem dL_rot_11 : decode cL_rot 11 = .ok (.lconst 1, 1) := by decide +kernel
theorem dL_rot_12 : decode cL_rot 12 = .ok (.goto 4, 3) := by decide +kernel
theorem dL_rot_15 : decode cL_rot 15 = .ok (.lconst 0, 1) := by decide +kernel
theorem dL_rot_16 : decode cL_rot 16 = .ok (.lastore, 1) := by decide +kernel
theorem dL_rot_17 : decode cL_rot 17 = .ok (.goto 7, 3) := by decide +kernel
theorem dL_rot_20 : decode cL_rot 20 = .ok (.astore 4, 2) := by decide +kernel
theorem dL_rot_22 : decode cL_rot 22 = .ok (.iconst 1, 1) := by decide +kernel
theorem dL_rot_23 : decode cL_rot 23 = .ok (.ireturn, 1) := by decide +kernel
theorem dL_rot_24 : decode cL_rot 24 = .ok (.iconst 0, 1) := by decide +kernel
theorem dL_rot_25 : decode cL_rot 25 = .ok (.ireturn, 1) := by decide +kernel
set_option maxRecDepth 20000 in
theorem ggL_throwAway_X6_throwAway : GoodIn wsL_throwAway wsX6_throwAway := goodIn_ca (goodIn_ca (goodIn_r _ [7, 8, 9, 10, 11, 12, 13, 14, 15, 6, 16, 17, 18, 19, 20, 21, 22, 23, 24, 25, 26, 27, 28, 29, 30, 31, 32, 33, 34, 35, 36, 37, 38, 39, 40, 41, 42, 43, 44, 45, 46, 47, 48, 49, 50, 51, 52, 53, 54, 55, 56, 57, 58, 59, 60, 61, 62, 63, 64, 65, 66, 67, 68, 69, 70, 71, 72, 73, 74, 75, 76, 77, 78, 79, 80, 81, 82, 83, 84, 85, 86, 87, 88, 89, 90, 91, 92, 93, 94, 95, 96, 97, 98, 99, 100, 101, 102, 103] (by decide +kernel) (by decide +kernel)) (goodIn_sub (fun _ h => List.mem_cons_of_mem _ (List.mem_append_left _ (List.mem_append_right _ h))) (by decide +kernel))) (goodIn_sub (fun _ h => List.mem_cons_of_mem _ (List.mem_append_right _ h)) (by decide +kernel))
set_option maxRecDepth 20000 in
theorem gL_throwAway_X6_throwAway : GoodIn wsL_throwAway (wsV RL 51 RX6 yX6_throwAway wsX6_throwAway) := goodIn_app (goodIn_of _ (by decide +kernel)) ggL_throwAway_X6_throwAway
theorem dL_throwAway_0 : decode cL_throwAway 0 = .ok (.aload_n 2, 1) := by decide +kernel
theorem dL_throwAway_1 : decode cL_throwAway 1 = .ok (.iconst 0, 1) := by decide +kernel
theorem dL_throwAway_2 : decode cL_throwAway 2 = .ok (.aload_n 0, 1) := by decide +kernel
theorem dL_throwAway_3 : decode cL_throwAway 3 = .ok (.iload_n 1, 1) := by decide +kernel
theorem dL_throwAway_4 : decode cL_throwAway 4 = .ok (.invokevirtual 51, 3) := by decide +kernel
theorem dL_throwAway_7 : decode cL_throwAway 7 = .ok (.i2l, 1) := by decide +kernel
theorem dL_throwAway_8 : decode cL_throwAway 8 = .ok (.lastore, 1) := by decide +kernel
theorem dL_throwAway_9 : decode cL_throwAway 9 = .ok (.goto 9, 3) := by decide +kernel
theorem dL_throwAway_12 : decode cL_throwAway 12 = .ok (.astore_n 3, 1) := by decide +kernel
theorem dL_throwAway_13 : decode cL_throwAway 13 = .ok (.iconst 1, 1) := by decide +kernel
theorem dL_throwAway_14 : decode cL_throwAway 14 = .ok (.ireturn, 1) := by decide +kernel
theorem dL_throwAway_15 : decode cL_throwAway 15 = .ok (.astore_n 3, 1) := by decide +kernel
theorem dL_throwAway_16 : decode cL_throwAway 16 = .ok (.iconst 2, 1) := by decide +kernel
theorem dL_throwAway_17 : decode cL_throwAway 17 = .ok (.ireturn, 1) := by decide +kernel
theorem dL_throwAway_18 : decode cL_throwAway 18 = .ok (.iconst 0, 1) := by decide +kernel
theorem dL_throwAway_19 : decode cL_throwAway 19 = .ok (.ireturn, 1) := by decide +kernel
set_option maxRecDepth 20000 in
theorem ggL_restore_X6_restore : GoodIn wsL_restore wsX6_restore := goodIn_ca (goodIn_ca (goodIn_r _ [7, 8, 9, 10, 11, 12, 13, 14, 6, 15, 16, 17, 18, 19, 20, 21, 22, 23, 24, 25, 26, 27, 28, 29, 30, 31, 32, 33, 34, 35, 36, 37, 38, 39, 40, 41, 42, 43, 44, 45, 46, 47, 48, 49, 50, 51, 52, 53, 54, 55, 56, 57, 58, 59, 60, 61, 62, 63, 64, 65, 66, 67, 68, 69, 70, 71, 72, 73, 74, 75, 76, 77, 78, 79, 80, 81, 82, 83, 84, 85, 86, 87, 88] (by decide +kernel) (by decide +kernel)) (goodIn_sub (fun _ h => List.mem_cons_of_mem _ (List.mem_append_left _ (List.mem_append_right _ h))) (by decide +kernel))) (goodIn_sub (fun _ h => List.mem_cons_of_mem _ (List.mem_append_right _ h)) (by decide +kernel))
set_option maxRecDepth 20000 in
theorem gL_restore_X6_restore : GoodIn wsL_restore (wsV RL 54 RX6 yX6_restore wsX6_restore) := goodIn_app (goodIn_of _ (by decide +kernel)) ggL_restore_X6_restore
theorem dL_restore_0 : decode cL_restore 0 = .ok (.aload_n 2, 1) := by decide +kernel
theorem dL_restore_1 : decode cL_restore 1 = .ok (.iconst 0, 1) := by decide +kernel
theorem dL_restore_2 : decode cL_restore 2 = .ok (.aload_n 0, 1) := by decide +kernel
theorem dL_restore_3 : decode cL_restore 3 = .ok (.iload_n 1, 1) := by decide +kernel
theorem dL_restore_4 : decode cL_restore 4 = .ok (.invokevirtual 54, 3) := by decide +kernel
theorem dL_restore_7 : decode cL_restore 7 = .ok (.i2l, 1) := by decide +kernel
theorem dL_restore_8 : decode cL_restore 8 = .ok (.lastore, 1) := by decide +kernel
theorem dL_restore_9 : decode cL_restore 9 = .ok (.goto 9, 3) := by decide +kernel
theorem dL_restore_12 : decode cL_restore 12 = .ok (.astore_n 3, 1) := by decide +kernel
theorem dL_restore_13 : decode cL_restore 13 = .ok (.iconst 1, 1) := by decide +kernel
theorem dL_restore_14 : decode cL_restore 14 = .ok (.ireturn, 1) := by decide +kernel
theorem dL_restore_15 : decode cL_restore 15 = .ok (.astore_n 3, 1) := by decide +kernel
theorem dL_restore_16 : decode cL_restore 16 = .ok (.iconst 2, 1) := by decide +kernel
theorem dL_restore_17 : decode cL_restore 17 = .ok (.ireturn, 1) := by decide +kernel
theorem dL_restore_18 : decode cL_restore 18 = .ok (.iconst 0, 1) := by decide +kernel
theorem dL_restore_19 : decode cL_restore 19 = .ok (.ireturn, 1) := by decide +kernel
set_option maxRecDepth 20000 in
theorem ggL_open_X6_open : GoodIn wsL_open wsX6_open := goodIn_ca (goodIn_r _ [6, 7, 8, 9, 10, 11, 12, 13, 14, 15, 16, 17, 18, 19, 20, 21, 22, 23, 24, 25, 26, 27, 28, 29, 30, 31, 32, 33] (by decide +kernel) (by decide +kernel)) (goodIn_sub (fun _ h => List.mem_cons_of_mem _ (List.mem_append_right _ h)) (by decide +kernel))
set_option maxRecDepth 20000 in
theorem gL_open_X6_open : GoodIn wsL_open (wsV RL 57 RX6 yX6_open wsX6_open) := goodIn_app (goodIn_of _ (by decide +kernel)) ggL_open_X6_open
theorem dL_open_0 : decode cL_open 0 = .ok (.aload_n 1, 1) := by decide +kernel
theorem dL_open_1 : decode cL_open 1 = .ok (.iconst 0, 1) := by decide +kernel
theorem dL_open_2 : decode cL_open 2 = .ok (.aload_n 0, 1) := by decide +kernel
theorem dL_open_3 : decode cL_open 3 = .ok (.invokevirtual 57, 3) := by decide +kernel
theorem dL_open_6 : decode cL_open 6 = .ok (.i2l, 1) := by decide +kernel
theorem dL_open_7 : decode cL_open 7 = .ok (.lastore, 1) := by decide +kernel
theorem dL_open_8 : decode cL_open 8 = .ok (.goto 6, 3) := by decide +kernel
theorem dL_open_11 : decode cL_open 11 = .ok (.astore_n 2, 1) := by decide +kernel
theorem dL_open_12 : decode cL_open 12 = .ok (.iconst 1, 1) := by decide +kernel
theorem dL_open_13 : decode cL_open 13 = .ok (.ireturn, 1) := by decide +kernel
theorem dL_open_14 : decode cL_open 14 = .ok (.iconst 0, 1) := by decide +kernel
theorem dL_open_15 : decode cL_open 15 = .ok (.ireturn, 1) := by decide +kernel
set_option maxRecDepth 20000 in
theorem ggL_close_X6_close : GoodIn wsL_close wsX6_close := goodIn_ca (goodIn_ca (goodIn_r _ [7, 8, 9, 10, 11, 12, 13, 14, 15, 6, 16, 17, 18, 19, 20, 21, 22, 23, 24, 25, 26, 27, 28, 29, 30, 31, 32, 33, 34, 35, 36, 37, 38, 39, 40, 41, 42, 43, 44, 45, 46, 47, 48, 49, 50, 51, 52, 53, 54, 55, 56, 57, 58, 59, 60, 61, 62, 63, 64, 65, 66, 67] (by decide +kernel) (by decide +kernel)) (goodIn_sub (fun _ h => List.mem_cons_of_mem _ (List.mem_append_left _ (List.mem_append_right _ h))) (by decide +kernel))) (goodIn_sub (fun _ h => List.mem_cons_of_mem _ (List.mem_append_right _ h)) (by decide +kernel))
set_option maxRecDepth 20000 in
theorem gL_close_X6_close : GoodIn wsL_close (wsV RL 60 RX6 yX6_close wsX6_close) := goodIn_app (goodIn_of _ (by decide +kernel)) ggL_close_X6_close
theorem dL_close_0 : decode cL_close 0 = .ok (.aload_n 2, 1) := by decide +kernel
theorem dL_close_1 : decode cL_close 1 = .ok (.iconst 0, 1) := by decide +kernel
theorem dL_close_2 : decode cL_close 2 = .ok (.aload_n 0, 1) := by decide +kernel
theorem dL_close_3 : decode cL_close 3 = .ok (.iload_n 1, 1) := by decide +kernel
theorem dL_close_4 : decode cL_close 4 = .ok (.invokevirtual 60, 3) := by decide +kernel
theorem dL_close_7 : decode cL_close 7 = .ok (.i2l, 1) := by decide +kernel
theorem dL_close_8 : decode cL_close 8 = .ok (.lastore, 1) := by decide +kernel
theorem dL_close_9 : decode cL_close 9 = .ok (.goto 9, 3) := by decide +kernel
theorem dL_close_12 : decode cL_close 12 = .ok (.astore_n 3, 1) := by decide +kernel
theorem dL_close_13 : decode cL_close 13 = .ok (.iconst 1, 1) := by decide +kernel
theorem dL_close_14 : decode cL_close 14 = .ok (.ireturn, 1) := by decide +kernel
theorem dL_close_15 : decode cL_close 15 = .ok (.astore_n 3, 1) := by decide +kernel
theorem dL_close_16 : decode cL_close 16 = .ok (.iconst 2, 1) := by decide +kernel
theorem dL_close_17 : decode cL_close 17 = .ok (.ireturn, 1) := by decide +kernel
theorem dL_close_18 : decode cL_close 18 = .ok (.iconst 0, 1) := by decide +kernel
theorem dL_close_19 : decode cL_close 19 = .ok (.ireturn, 1) := by decide +kernel
set_option maxRecDepth 20000 in
theorem ggL_hold_X6_hold : GoodIn wsL_hold wsX6_hold := goodIn_ca (goodIn_ca (goodIn_ca (goodIn_r _ [8, 9, 10, 11, 12, 13, 14, 15, 16, 17, 18, 7, 19, 20, 21, 22, 23, 24, 25, 26, 27, 28, 29, 30, 31, 32, 33, 34, 35, 36, 37, 38, 39, 40, 41, 42, 43, 44, 45, 46, 47, 48, 49, 50, 51, 52, 53, 54, 55, 56, 57, 58, 59, 60, 61, 62, 63, 64, 65, 66, 67, 68, 69, 70, 71, 72, 73, 74, 75, 76, 77, 78, 79, 80, 81] (by decide +kernel) (by decide +kernel)) (goodIn_sub (fun _ h => List.mem_cons_of_mem _ (List.mem_append_left _ (List.mem_append_left _ (List.mem_append_right _ h)))) (by decide +kernel))) (goodIn_sub (fun _ h => List.mem_cons_of_mem _ (List.mem_append_left _ (List.mem_append_right _ h))) (by decide +kernel))) (goodIn_sub (fun _ h => List.mem_cons_of_mem _ (List.mem_append_right _ h)) (by decide +kernel))
set_option maxRecDepth 20000 in
theorem gL_hold_X6_hold : GoodIn wsL_hold (wsV RL 63 RX6 yX6_hold wsX6_hold) := goodIn_app (goodIn_of _ (by decide +kernel)) ggL_hold_X6_hold
theorem dL_hold_0 : decode cL_hold 0 = .ok (.aload 5, 2) := by decide +kernel
theorem dL_hold_2 : decode cL_hold 2 = .ok (.iconst 0, 1) := by decide +kernel
theorem dL_hold_3 : decode cL_hold 3 = .ok (.aload_n 0, 1) := by decide +kernel
theorem dL_hold_4 : decode cL_hold 4 = .ok (.iload_n 1, 1) := by decide +kernel
theorem dL_hold_5 : decode cL_hold 5 = .ok (.iload_n 2, 1) := by decide +kernel
theorem dL_hold_6 : decode cL_hold 6 = .ok (.iload_n 3, 1) := by decide +kernel
theorem dL_hold_7 : decode cL_hold 7 = .ok (.iload 4, 2) := by decide +kernel
theorem dL_hold_9 : decode cL_hold 9 = .ok (.invokevirtual 63, 3) := by decide +kernel
theorem dL_hold_12 : decode cL_hold 12 = .ok (.i2l, 1) := by decide +kernel
theorem dL_hold_13 : decode cL_hold 13 = .ok (.lastore, 1) := by decide +kernel
theorem dL_hold_14 : decode cL_hold 14 = .ok (.goto 15, 3) := by decide +kernel
theorem dL_hold_17 : decode cL_hold 17 = .ok (.astore 6, 2) := by decide +kernel
theorem dL_hold_19 : decode cL_hold 19 = .ok (.iconst 1, 1) := by decide +kernel
theorem dL_hold_20 : decode cL_hold 20 = .ok (.ireturn, 1) := by decide +kernel
theorem dL_hold_21 : decode cL_hold 21 = .ok (.astore 6, 2) := by decide +kernel
theorem dL_hold_23 : decode cL_hold 23 = .ok (.iconst 2, 1) := by decide +kernel
theorem dL_hold_24 : decode cL_hold 24 = .ok (.ireturn, 1) := by decide +kernel
theorem dL_hold_25 : decode cL_hold 25 = .ok (.astore 6, 2) := by decide +kernel
theorem dL_hold_27 : decode cL_hold 27 = .ok (.iconst 3, 1) := by decide +kernel
theorem dL_hold_28 : decode cL_hold 28 = .ok (.ireturn, 1) := by decide +kernel
theorem dL_hold_29 : decode cL_hold 29 = .ok (.iconst 0, 1) := by decide +kernel
theorem dL_hold_30 : decode cL_hold 30 = .ok (.ireturn, 1) := by decide +kernel
set_option maxRecDepth 20000 in
theorem ggL_strike_X6_strike : GoodIn wsL_strike wsX6_strike := goodIn_ca (goodIn_ca (goodIn_r _ [7, 8, 9, 10, 11, 12, 13, 14, 15, 6, 16, 17, 18, 19, 20, 21, 22, 23, 24, 25, 26, 27, 28, 29, 30, 31, 32, 33, 34, 35, 36, 37, 38, 39, 40, 41, 42, 43, 44, 45, 46, 47, 48, 49, 50, 51, 52, 53, 54, 55, 56, 57, 58, 59, 60, 61, 62, 63, 64, 65, 66, 67, 68, 69, 70, 71, 72, 73, 74, 75, 76, 77, 78, 79, 80, 81, 82, 83, 84, 85, 86, 87, 88, 89, 90, 91, 92, 93, 94, 95, 96, 97, 98, 99, 100, 101, 102, 103, 104, 105, 106, 107, 108, 109, 110, 111, 112, 113, 114, 115, 116, 117, 118, 119, 120, 121, 122, 123, 124, 125] (by decide +kernel) (by decide +kernel)) (goodIn_sub (fun _ h => List.mem_cons_of_mem _ (List.mem_append_left _ (List.mem_append_right _ h))) (by decide +kernel))) (goodIn_sub (fun _ h => List.mem_cons_of_mem _ (List.mem_append_right _ h)) (by decide +kernel))
set_option maxRecDepth 20000 in
theorem gL_strike_X6_strike : GoodIn wsL_strike (wsV RL 67 RX6 yX6_strike wsX6_strike) := goodIn_app (goodIn_of _ (by decide +kernel)) ggL_strike_X6_strike
theorem dL_strike_0 : decode cL_strike 0 = .ok (.aload_n 3, 1) := by decide +kernel
theorem dL_strike_1 : decode cL_strike 1 = .ok (.iconst 0, 1) := by decide +kernel
theorem dL_strike_2 : decode cL_strike 2 = .ok (.aload_n 0, 1) := by decide +kernel
theorem dL_strike_3 : decode cL_strike 3 = .ok (.iload_n 1, 1) := by decide +kernel
theorem dL_strike_4 : decode cL_strike 4 = .ok (.iload_n 2, 1) := by decide +kernel
theorem dL_strike_5 : decode cL_strike 5 = .ok (.invokevirtual 67, 3) := by decide +kernel
theorem dL_strike_8 : decode cL_strike 8 = .ok (.i2l, 1) := by decide +kernel
theorem dL_strike_9 : decode cL_strike 9 = .ok (.lastore, 1) := by decide +kernel
theorem dL_strike_10 : decode cL_strike 10 = .ok (.goto 11, 3) := by decide +kernel
theorem dL_strike_13 : decode cL_strike 13 = .ok (.astore 4, 2) := by decide +kernel
theorem dL_strike_15 : decode cL_strike 15 = .ok (.iconst 1, 1) := by decide +kernel
theorem dL_strike_16 : decode cL_strike 16 = .ok (.ireturn, 1) := by decide +kernel
theorem dL_strike_17 : decode cL_strike 17 = .ok (.astore 4, 2) := by decide +kernel
theorem dL_strike_19 : decode cL_strike 19 = .ok (.iconst 2, 1) := by decide +kernel
theorem dL_strike_20 : decode cL_strike 20 = .ok (.ireturn, 1) := by decide +kernel
theorem dL_strike_21 : decode cL_strike 21 = .ok (.iconst 0, 1) := by decide +kernel
theorem dL_strike_22 : decode cL_strike 22 = .ok (.ireturn, 1) := by decide +kernel
set_option maxRecDepth 20000 in
theorem ggL_state_X6_state : GoodIn wsL_state wsX6_state := goodIn_ca (goodIn_r _ [6, 7, 8, 9, 10, 5, 11, 12, 13, 14, 15, 16, 17, 18, 19, 20, 21, 22, 23, 24, 25, 26, 27, 28, 29, 30, 31, 32, 33, 34, 35, 36, 37, 38, 39, 40, 41, 42, 43, 44, 45, 46] (by decide +kernel) (by decide +kernel)) (goodIn_sub (fun _ h => List.mem_cons_of_mem _ (List.mem_append_right _ h)) (by decide +kernel))
set_option maxRecDepth 20000 in
theorem gL_state_X6_state : GoodIn wsL_state (wsV RL 70 RX6 yX6_state wsX6_state) := goodIn_app (goodIn_of _ (by decide +kernel)) ggL_state_X6_state
theorem dL_state_0 : decode cL_state 0 = .ok (.aload_n 2, 1) := by decide +kernel
theorem dL_state_1 : decode cL_state 1 = .ok (.iconst 0, 1) := by decide +kernel
theorem dL_state_2 : decode cL_state 2 = .ok (.aload_n 0, 1) := by decide +kernel
theorem dL_state_3 : decode cL_state 3 = .ok (.iload_n 1, 1) := by decide +kernel
theorem dL_state_4 : decode cL_state 4 = .ok (.invokevirtual 70, 3) := by decide +kernel
theorem dL_state_7 : decode cL_state 7 = .ok (.i2l, 1) := by decide +kernel
theorem dL_state_8 : decode cL_state 8 = .ok (.lastore, 1) := by decide +kernel
theorem dL_state_9 : decode cL_state 9 = .ok (.goto 6, 3) := by decide +kernel
theorem dL_state_12 : decode cL_state 12 = .ok (.astore_n 3, 1) := by decide +kernel
theorem dL_state_13 : decode cL_state 13 = .ok (.iconst 1, 1) := by decide +kernel
theorem dL_state_14 : decode cL_state 14 = .ok (.ireturn, 1) := by decide +kernel
theorem dL_state_15 : decode cL_state 15 = .ok (.iconst 0, 1) := by decide +kernel
theorem dL_state_16 : decode cL_state 16 = .ok (.ireturn, 1) := by decide +kernel
set_option maxRecDepth 20000 in
theorem ggL_isTrue_X6_isTrue : GoodIn wsL_isTrue wsX6_isTrue := goodIn_ca (goodIn_r _ [6, 7, 8, 9, 10, 11, 5, 12, 13, 14, 15, 16, 17, 18, 19, 20, 21, 22, 23, 24, 25, 26, 27, 28, 29, 30, 31, 32, 33, 34, 35, 36, 37, 38, 39, 40, 41, 42, 43, 44, 45, 46, 47, 48, 49, 50, 51] (by decide +kernel) (by decide +kernel)) (goodIn_sub (fun _ h => List.mem_cons_of_mem _ (List.mem_append_right _ h)) (by decide +kernel))
set_option maxRecDepth 20000 in
theorem gL_isTrue_X6_isTrue : GoodIn wsL_isTrue (wsV RL 73 RX6 yX6_isTrue wsX6_isTrue) := goodIn_app (goodIn_of _ (by decide +kernel)) ggL_isTrue_X6_isTrue
theorem dL_isTrue_0 : decode cL_isTrue 0 = .ok (.aload_n 2, 1) := by decide +kernel
theorem dL_isTrue_1 : decode cL_isTrue 1 = .ok (.iconst 0, 1) := by decide +kernel
theorem dL_isTrue_2 : decode cL_isTrue 2 = .ok (.aload_n 0, 1) := by decide +kernel
theorem dL_isTrue_3 : decode cL_isTrue 3 = .ok (.iload_n 1, 1) := by decide +kernel
theorem dL_isTrue_4 : decode cL_isTrue 4 = .ok (.invokevirtual 73, 3) := by decide +kernel
theorem dL_isTrue_7 : decode cL_isTrue 7 = .ok (.ifCond .eq 7, 3) := by decide +kernel
theorem dL_isTrue_10 : decode cL_isTrue 10 = .ok (.lconst 1, 1) := by decide +kernel
theorem dL_isTrue_11 : decode cL_isTrue 11 = .ok (.goto 4, 3) := by decide +kernel
theorem dL_isTrue_14 : decode cL_isTrue 14 = .ok (.lconst 0, 1) := by decide +kernel
theorem dL_isTrue_15 : decode cL_isTrue 15 = .ok (.lastore, 1) := by decide +kernel
theorem dL_isTrue_16 : decode cL_isTrue 16 = .ok (.goto 6, 3) := by decide +kernel
theorem dL_isTrue_19 : decode cL_isTrue 19 = .ok (.astore_n 3, 1) := by decide +kernel
theorem dL_isTrue_20 : decode cL_isTrue 20 = .ok (.iconst 1, 1) := by decide +kernel
theorem dL_isTrue_21 : decode cL_isTrue 21 = .ok (.ireturn, 1) := by decide +kernel
theorem dL_isTrue_22 : decode cL_isTrue 22 = .ok (.iconst 0, 1) := by decide +kernel
theorem dL_isTrue_23 : decode cL_isTrue 23 = .ok (.ireturn, 1) := by decide +kernel
set_option maxRecDepth 20000 in
theorem ggL_text_X6_text : GoodIn wsL_text wsX6_text := goodIn_ca (goodIn_r _ [6, 7, 8, 9, 10, 11, 12, 5, 13, 14, 15, 16, 17, 18, 19, 20, 21, 22, 23, 24, 25, 26, 27, 28, 29, 30, 31, 32, 33, 34, 35, 36, 37, 38, 39, 40, 41] (by decide +kernel) (by decide +kernel)) (goodIn_sub (fun _ h => List.mem_cons_of_mem _ (List.mem_append_right _ h)) (by decide +kernel))
set_option maxRecDepth 20000 in
theorem gL_text_X6_text : GoodIn wsL_text (wsV RL 77 RX6 yX6_text wsX6_text) := goodIn_app (goodIn_of _ (by decide +kernel)) ggL_text_X6_text
theorem dL_text_0 : decode cL_text 0 = .ok (.aload_n 2, 1) := by decide +kernel
theorem dL_text_1 : decode cL_text 1 = .ok (.iconst 0, 1) := by decide +kernel
theorem dL_text_2 : decode cL_text 2 = .ok (.aload_n 0, 1) := by decide +kernel
theorem dL_text_3 : decode cL_text 3 = .ok (.iload_n 1, 1) := by decide +kernel
theorem dL_text_4 : decode cL_text 4 = .ok (.invokevirtual 77, 3) := by decide +kernel
theorem dL_text_7 : decode cL_text 7 = .ok (.i2l, 1) := by decide +kernel
theorem dL_text_8 : decode cL_text 8 = .ok (.lastore, 1) := by decide +kernel
theorem dL_text_9 : decode cL_text 9 = .ok (.goto 6, 3) := by decide +kernel
theorem dL_text_12 : decode cL_text 12 = .ok (.astore_n 3, 1) := by decide +kernel
theorem dL_text_13 : decode cL_text 13 = .ok (.iconst 1, 1) := by decide +kernel
theorem dL_text_14 : decode cL_text 14 = .ok (.ireturn, 1) := by decide +kernel
theorem dL_text_15 : decode cL_text 15 = .ok (.iconst 0, 1) := by decide +kernel
theorem dL_text_16 : decode cL_text 16 = .ok (.ireturn, 1) := by decide +kernel
set_option maxRecDepth 20000 in
theorem ggL_mark_X6_mark : GoodIn wsL_mark wsX6_mark := goodIn_ca (goodIn_r _ [6, 7, 8, 9, 10, 11, 5, 12, 13, 14, 15, 16, 17, 18, 19, 20, 21, 22, 23, 24, 25, 26, 27, 28, 29, 30, 31, 32] (by decide +kernel) (by decide +kernel)) (goodIn_sub (fun _ h => List.mem_cons_of_mem _ (List.mem_append_right _ h)) (by decide +kernel))
set_option maxRecDepth 20000 in
theorem gL_mark_X6_mark : GoodIn wsL_mark (wsV RL 80 RX6 yX6_mark wsX6_mark) := goodIn_app (goodIn_of _ (by decide +kernel)) ggL_mark_X6_mark
theorem dL_mark_0 : decode cL_mark 0 = .ok (.aload_n 2, 1) := by decide +kernel
theorem dL_mark_1 : decode cL_mark 1 = .ok (.iconst 0, 1) := by decide +kernel
theorem dL_mark_2 : decode cL_mark 2 = .ok (.aload_n 0, 1) := by decide +kernel
theorem dL_mark_3 : decode cL_mark 3 = .ok (.iload_n 1, 1) := by decide +kernel
theorem dL_mark_4 : decode cL_mark 4 = .ok (.invokevirtual 80, 3) := by decide +kernel
theorem dL_mark_7 : decode cL_mark 7 = .ok (.i2l, 1) := by decide +kernel
theorem dL_mark_8 : decode cL_mark 8 = .ok (.lastore, 1) := by decide +kernel
theorem dL_mark_9 : decode cL_mark 9 = .ok (.goto 6, 3) := by decide +kernel
theorem dL_mark_12 : decode cL_mark 12 = .ok (.astore_n 3, 1) := by decide +kernel
theorem dL_mark_13 : decode cL_mark 13 = .ok (.iconst 1, 1) := by decide +kernel
theorem dL_mark_14 : decode cL_mark 14 = .ok (.ireturn, 1) := by decide +kernel
theorem dL_mark_15 : decode cL_mark 15 = .ok (.iconst 0, 1) := by decide +kernel
theorem dL_mark_16 : decode cL_mark 16 = .ok (.ireturn, 1) := by decide +kernel
set_option maxRecDepth 20000 in
theorem ggL_reversal_X6_reversal : GoodIn wsL_reversal wsX6_reversal := goodIn_ca (goodIn_r _ [6, 7, 8, 9, 10, 11, 5, 12, 13, 14, 15, 16, 17, 18, 19, 20, 21, 22, 23, 24, 25, 26, 27, 28, 29, 30, 31, 32] (by decide +kernel) (by decide +kernel)) (goodIn_sub (fun _ h => List.mem_cons_of_mem _ (List.mem_append_right _ h)) (by decide +kernel))
set_option maxRecDepth 20000 in
theorem gL_reversal_X6_reversal : GoodIn wsL_reversal (wsV RL 83 RX6 yX6_reversal wsX6_reversal) := goodIn_app (goodIn_of _ (by decide +kernel)) ggL_reversal_X6_reversal
theorem dL_reversal_0 : decode cL_reversal 0 = .ok (.aload_n 2, 1) := by decide +kernel
theorem dL_reversal_1 : decode cL_reversal 1 = .ok (.iconst 0, 1) := by decide +kernel
theorem dL_reversal_2 : decode cL_reversal 2 = .ok (.aload_n 0, 1) := by decide +kernel
theorem dL_reversal_3 : decode cL_reversal 3 = .ok (.iload_n 1, 1) := by decide +kernel
theorem dL_reversal_4 : decode cL_reversal 4 = .ok (.invokevirtual 83, 3) := by decide +kernel
theorem dL_reversal_7 : decode cL_reversal 7 = .ok (.i2l, 1) := by decide +kernel
theorem dL_reversal_8 : decode cL_reversal 8 = .ok (.lastore, 1) := by decide +kernel
theorem dL_reversal_9 : decode cL_reversal 9 = .ok (.goto 6, 3) := by decide +kernel
theorem dL_reversal_12 : decode cL_reversal 12 = .ok (.astore_n 3, 1) := by decide +kernel
theorem dL_reversal_13 : decode cL_reversal 13 = .ok (.iconst 1, 1) := by decide +kernel
theorem dL_reversal_14 : decode cL_reversal 14 = .ok (.ireturn, 1) := by decide +kernel
theorem dL_reversal_15 : decode cL_reversal 15 = .ok (.iconst 0, 1) := by decide +kernel
theorem dL_reversal_16 : decode cL_reversal 16 = .ok (.ireturn, 1) := by decide +kernel
set_option maxRecDepth 20000 in
theorem ggL_proves_X6_proves : GoodIn wsL_proves wsX6_proves := goodIn_ca (goodIn_ca (goodIn_r _ [7, 8, 9, 10, 11, 12, 13, 14, 6, 15, 16, 17, 18, 19, 20, 21, 22, 23, 24, 25, 26, 27, 28, 29, 30, 31, 32, 33, 34, 35, 36, 37, 38, 39, 40, 41, 42, 43, 44, 45, 46, 47, 48, 49, 50, 51, 52, 53, 54, 55] (by decide +kernel) (by decide +kernel)) (goodIn_sub (fun _ h => List.mem_cons_of_mem _ (List.mem_append_left _ (List.mem_append_right _ h))) (by decide +kernel))) (goodIn_sub (fun _ h => List.mem_cons_of_mem _ (List.mem_append_right _ h)) (by decide +kernel))
set_option maxRecDepth 20000 in
theorem gL_proves_X6_proves : GoodIn wsL_proves (wsV RL 86 RX6 yX6_proves wsX6_proves) := goodIn_app (goodIn_of _ (by decide +kernel)) ggL_proves_X6_proves
theorem dL_proves_0 : decode cL_proves 0 = .ok (.aload_n 3, 1) := by decide +kernel
theorem dL_proves_1 : decode cL_proves 1 = .ok (.iconst 0, 1) := by decide +kernel
theorem dL_proves_2 : decode cL_proves 2 = .ok (.aload_n 0, 1) := by decide +kernel
theorem dL_proves_3 : decode cL_proves 3 = .ok (.iload_n 1, 1) := by decide +kernel
theorem dL_proves_4 : decode cL_proves 4 = .ok (.iload_n 2, 1) := by decide +kernel
theorem dL_proves_5 : decode cL_proves 5 = .ok (.invokevirtual 86, 3) := by decide +kernel
theorem dL_proves_8 : decode cL_proves 8 = .ok (.ifCond .eq 7, 3) := by decide +kernel
theorem dL_proves_11 : decode cL_proves 11 = .ok (.lconst 1, 1) := by decide +kernel
theorem dL_proves_12 : decode cL_proves 12 = .ok (.goto 4, 3) := by decide +kernel
theorem dL_proves_15 : decode cL_proves 15 = .ok (.lconst 0, 1) := by decide +kernel
theorem dL_proves_16 : decode cL_proves 16 = .ok (.lastore, 1) := by decide +kernel
theorem dL_proves_17 : decode cL_proves 17 = .ok (.goto 11, 3) := by decide +kernel
theorem dL_proves_20 : decode cL_proves 20 = .ok (.astore 4, 2) := by decide +kernel
theorem dL_proves_22 : decode cL_proves 22 = .ok (.iconst 1, 1) := by decide +kernel
theorem dL_proves_23 : decode cL_proves 23 = .ok (.ireturn, 1) := by decide +kernel
theorem dL_proves_24 : decode cL_proves 24 = .ok (.astore 4, 2) := by decide +kernel
theorem dL_proves_26 : decode cL_proves 26 = .ok (.iconst 2, 1) := by decide +kernel
theorem dL_proves_27 : decode cL_proves 27 = .ok (.ireturn, 1) := by decide +kernel
theorem dL_proves_28 : decode cL_proves 28 = .ok (.iconst 0, 1) := by decide +kernel
theorem dL_proves_29 : decode cL_proves 29 = .ok (.ireturn, 1) := by decide +kernel
set_option maxRecDepth 20000 in
theorem ggL_proven_X6_proven : GoodIn wsL_proven wsX6_proven := goodIn_ca (goodIn_r _ [6, 7, 8, 9, 10, 11, 12, 5, 13, 14, 15, 16, 17, 18, 19, 20, 21, 22, 23, 24, 25, 26, 27, 28, 29, 30, 31, 32, 33, 34, 35, 36, 37, 38, 39, 40, 41, 42, 43, 44, 45, 46, 47, 48, 49, 50, 51] (by decide +kernel) (by decide +kernel)) (goodIn_sub (fun _ h => List.mem_cons_of_mem _ (List.mem_append_right _ h)) (by decide +kernel))
set_option maxRecDepth 20000 in
theorem gL_proven_X6_proven : GoodIn wsL_proven (wsV RL 89 RX6 yX6_proven wsX6_proven) := goodIn_app (goodIn_of _ (by decide +kernel)) ggL_proven_X6_proven
theorem dL_proven_0 : decode cL_proven 0 = .ok (.aload_n 3, 1) := by decide +kernel
theorem dL_proven_1 : decode cL_proven 1 = .ok (.iconst 0, 1) := by decide +kernel
theorem dL_proven_2 : decode cL_proven 2 = .ok (.aload_n 0, 1) := by decide +kernel
theorem dL_proven_3 : decode cL_proven 3 = .ok (.iload_n 1, 1) := by decide +kernel
theorem dL_proven_4 : decode cL_proven 4 = .ok (.iload_n 2, 1) := by decide +kernel
theorem dL_proven_5 : decode cL_proven 5 = .ok (.invokevirtual 89, 3) := by decide +kernel
theorem dL_proven_8 : decode cL_proven 8 = .ok (.i2l, 1) := by decide +kernel
theorem dL_proven_9 : decode cL_proven 9 = .ok (.lastore, 1) := by decide +kernel
theorem dL_proven_10 : decode cL_proven 10 = .ok (.goto 7, 3) := by decide +kernel
theorem dL_proven_13 : decode cL_proven 13 = .ok (.astore 4, 2) := by decide +kernel
theorem dL_proven_15 : decode cL_proven 15 = .ok (.iconst 1, 1) := by decide +kernel
theorem dL_proven_16 : decode cL_proven 16 = .ok (.ireturn, 1) := by decide +kernel
theorem dL_proven_17 : decode cL_proven 17 = .ok (.iconst 0, 1) := by decide +kernel
theorem dL_proven_18 : decode cL_proven 18 = .ok (.ireturn, 1) := by decide +kernel
set_option maxRecDepth 20000 in
theorem ggL_balance_X6_balance : GoodIn wsL_balance wsX6_balance := goodIn_ca (goodIn_ca (goodIn_r _ [7, 8, 9, 10, 11, 6, 12, 13, 14, 15, 16, 17, 18, 19, 20, 21, 22, 23, 24, 25, 26, 27, 28, 29, 30, 31, 32, 33, 34, 35, 36, 37, 38, 39, 40, 41, 42, 43, 44, 45, 46, 47, 48, 49, 50, 51, 52, 53, 54, 55, 56, 57, 58, 59] (by decide +kernel) (by decide +kernel)) (goodIn_sub (fun _ h => List.mem_cons_of_mem _ (List.mem_append_left _ (List.mem_append_right _ h))) (by decide +kernel))) (goodIn_sub (fun _ h => List.mem_cons_of_mem _ (List.mem_append_right _ h)) (by decide +kernel))
set_option maxRecDepth 20000 in
theorem gL_balance_X6_balance : GoodIn wsL_balance (wsV RL 92 RX6 yX6_balance wsX6_balance) := goodIn_app (goodIn_of _ (by decide +kernel)) ggL_balance_X6_balance
theorem dL_balance_0 : decode cL_balance 0 = .ok (.aload_n 3, 1) := by decide +kernel
theorem dL_balance_1 : decode cL_balance 1 = .ok (.iconst 0, 1) := by decide +kernel
theorem dL_balance_2 : decode cL_balance 2 = .ok (.aload_n 0, 1) := by decide +kernel
theorem dL_balance_3 : decode cL_balance 3 = .ok (.iload_n 1, 1) := by decide +kernel
theorem dL_balance_4 : decode cL_balance 4 = .ok (.iload_n 2, 1) := by decide +kernel
theorem dL_balance_5 : decode cL_balance 5 = .ok (.invokevirtual 92, 3) := by decide +kernel
theorem dL_balance_8 : decode cL_balance 8 = .ok (.i2l, 1) := by decide +kernel
theorem dL_balance_9 : decode cL_balance 9 = .ok (.lastore, 1) := by decide +kernel
theorem dL_balance_10 : decode cL_balance 10 = .ok (.goto 11, 3) := by decide +kernel
theorem dL_balance_13 : decode cL_balance 13 = .ok (.astore 4, 2) := by decide +kernel
theorem dL_balance_15 : decode cL_balance 15 = .ok (.iconst 1, 1) := by decide +kernel
theorem dL_balance_16 : decode cL_balance 16 = .ok (.ireturn, 1) := by decide +kernel
theorem dL_balance_17 : decode cL_balance 17 = .ok (.astore 4, 2) := by decide +kernel
theorem dL_balance_19 : decode cL_balance 19 = .ok (.iconst 2, 1) := by decide +kernel
theorem dL_balance_20 : decode cL_balance 20 = .ok (.ireturn, 1) := by decide +kernel
theorem dL_balance_21 : decode cL_balance 21 = .ok (.iconst 0, 1) := by decide +kernel
theorem dL_balance_22 : decode cL_balance 22 = .ok (.ireturn, 1) := by decide +kernel
set_option maxRecDepth 20000 in
theorem ggL_balanceByPages_X6_balanceByPages : GoodIn wsL_balanceByPages wsX6_balanceByPages := goodIn_ca (goodIn_ca (goodIn_ca (goodIn_r _ [8, 9, 10, 11, 12, 13, 14, 15, 7, 16, 17, 18, 19, 20, 21, 22, 23, 24, 25, 26, 27, 28, 29, 30, 31, 32, 33, 34, 35, 36, 37, 38, 39, 40, 41, 42, 43, 44, 45, 46, 47, 48, 49, 50, 51, 52, 53, 54, 55, 56, 57, 58, 59, 60, 61, 62, 63, 64, 65, 66, 67, 68, 69, 70, 71, 72, 73, 74] (by decide +kernel) (by decide +kernel)) (goodIn_sub (fun _ h => List.mem_cons_of_mem _ (List.mem_append_left _ (List.mem_append_left _ (List.mem_append_right _ h)))) (by decide +kernel))) (goodIn_sub (fun _ h => List.mem_cons_of_mem _ (List.mem_append_left _ (List.mem_append_right _ h))) (by decide +kernel))) (goodIn_sub (fun _ h => List.mem_cons_of_mem _ (List.mem_append_right _ h)) (by decide +kernel))
set_option maxRecDepth 20000 in
theorem gL_balanceByPages_X6_balanceByPages : GoodIn wsL_balanceByPages (wsV RL 95 RX6 yX6_balanceByPages wsX6_balanceByPages) := goodIn_app (goodIn_of _ (by decide +kernel)) ggL_balanceByPages_X6_balanceByPages
theorem dL_balanceByPages_0 : decode cL_balanceByPages 0 = .ok (.aload_n 3, 1) := by decide +kernel
theorem dL_balanceByPages_1 : decode cL_balanceByPages 1 = .ok (.iconst 0, 1) := by decide +kernel
theorem dL_balanceByPages_2 : decode cL_balanceByPages 2 = .ok (.aload_n 0, 1) := by decide +kernel
theorem dL_balanceByPages_3 : decode cL_balanceByPages 3 = .ok (.iload_n 1, 1) := by decide +kernel
theorem dL_balanceByPages_4 : decode cL_balanceByPages 4 = .ok (.iload_n 2, 1) := by decide +kernel
theorem dL_balanceByPages_5 : decode cL_balanceByPages 5 = .ok (.invokevirtual 95, 3) := by decide +kernel
theorem dL_balanceByPages_8 : decode cL_balanceByPages 8 = .ok (.i2l, 1) := by decide +kernel
theorem dL_balanceByPages_9 : decode cL_balanceByPages 9 = .ok (.lastore, 1) := by decide +kernel
theorem dL_balanceByPages_10 : decode cL_balanceByPages 10 = .ok (.goto 15, 3) := by decide +kernel
theorem dL_balanceByPages_13 : decode cL_balanceByPages 13 = .ok (.astore 4, 2) := by decide +kernel
theorem dL_balanceByPages_15 : decode cL_balanceByPages 15 = .ok (.iconst 1, 1) := by decide +kernel
theorem dL_balanceByPages_16 : decode cL_balanceByPages 16 = .ok (.ireturn, 1) := by decide +kernel
theorem dL_balanceByPages_17 : decode cL_balanceByPages 17 = .ok (.astore 4, 2) := by decide +kernel
theorem dL_balanceByPages_19 : decode cL_balanceByPages 19 = .ok (.iconst 2, 1) := by decide +kernel
theorem dL_balanceByPages_20 : decode cL_balanceByPages 20 = .ok (.ireturn, 1) := by decide +kernel
theorem dL_balanceByPages_21 : decode cL_balanceByPages 21 = .ok (.astore 4, 2) := by decide +kernel
theorem dL_balanceByPages_23 : decode cL_balanceByPages 23 = .ok (.iconst 3, 1) := by decide +kernel
theorem dL_balanceByPages_24 : decode cL_balanceByPages 24 = .ok (.ireturn, 1) := by decide +kernel
theorem dL_balanceByPages_25 : decode cL_balanceByPages 25 = .ok (.iconst 0, 1) := by decide +kernel
theorem dL_balanceByPages_26 : decode cL_balanceByPages 26 = .ok (.ireturn, 1) := by decide +kernel
set_option maxRecDepth 20000 in
theorem ggL_balanceByCopies_X6_balanceByCopies : GoodIn wsL_balanceByCopies wsX6_balanceByCopies := goodIn_ca (goodIn_ca (goodIn_ca (goodIn_r _ [8, 9, 10, 11, 12, 13, 14, 7, 15, 16, 17, 18, 19, 20, 21, 22, 23, 24, 25, 26, 27, 28, 29, 30, 31, 32, 33, 34, 35, 36, 37, 38, 39, 40, 41, 42, 43, 44, 45, 46, 47, 48, 49, 50, 51, 52, 53, 54, 55, 56, 57, 58, 59, 60, 61, 62, 63, 64, 65, 66, 67, 68, 69, 70, 71, 72, 73, 74, 75, 76, 77, 78, 79, 80, 81, 82, 83, 84, 85, 86, 87, 88, 89, 90, 91, 92, 93, 94, 95, 96, 97] (by decide +kernel) (by decide +kernel)) (goodIn_sub (fun _ h => List.mem_cons_of_mem _ (List.mem_append_left _ (List.mem_append_left _ (List.mem_append_right _ h)))) (by decide +kernel))) (goodIn_sub (fun _ h => List.mem_cons_of_mem _ (List.mem_append_left _ (List.mem_append_right _ h))) (by decide +kernel))) (goodIn_sub (fun _ h => List.mem_cons_of_mem _ (List.mem_append_right _ h)) (by decide +kernel))
set_option maxRecDepth 20000 in
theorem gL_balanceByCopies_X6_balanceByCopies : GoodIn wsL_balanceByCopies (wsV RL 98 RX6 yX6_balanceByCopies wsX6_balanceByCopies) := goodIn_app (goodIn_of _ (by decide +kernel)) ggL_balanceByCopies_X6_balanceByCopies
theorem dL_balanceByCopies_0 : decode cL_balanceByCopies 0 = .ok (.aload_n 3, 1) := by decide +kernel
theorem dL_balanceByCopies_1 : decode cL_balanceByCopies 1 = .ok (.iconst 0, 1) := by decide +kernel
theorem dL_balanceByCopies_2 : decode cL_balanceByCopies 2 = .ok (.aload_n 0, 1) := by decide +kernel
theorem dL_balanceByCopies_3 : decode cL_balanceByCopies 3 = .ok (.iload_n 1, 1) := by decide +kernel
theorem dL_balanceByCopies_4 : decode cL_balanceByCopies 4 = .ok (.iload_n 2, 1) := by decide +kernel
theorem dL_balanceByCopies_5 : decode cL_balanceByCopies 5 = .ok (.invokevirtual 98, 3) := by decide +kernel
theorem dL_balanceByCopies_8 : decode cL_balanceByCopies 8 = .ok (.i2l, 1) := by decide +kernel
theorem dL_balanceByCopies_9 : decode cL_balanceByCopies 9 = .ok (.lastore, 1) := by decide +kernel
theorem dL_balanceByCopies_10 : decode cL_balanceByCopies 10 = .ok (.goto 15, 3) := by decide +kernel
theorem dL_balanceByCopies_13 : decode cL_balanceByCopies 13 = .ok (.astore 4, 2) := by decide +kernel
theorem dL_balanceByCopies_15 : decode cL_balanceByCopies 15 = .ok (.iconst 1, 1) := by decide +kernel
theorem dL_balanceByCopies_16 : decode cL_balanceByCopies 16 = .ok (.ireturn, 1) := by decide +kernel
theorem dL_balanceByCopies_17 : decode cL_balanceByCopies 17 = .ok (.astore 4, 2) := by decide +kernel
theorem dL_balanceByCopies_19 : decode cL_balanceByCopies 19 = .ok (.iconst 2, 1) := by decide +kernel
theorem dL_balanceByCopies_20 : decode cL_balanceByCopies 20 = .ok (.ireturn, 1) := by decide +kernel
theorem dL_balanceByCopies_21 : decode cL_balanceByCopies 21 = .ok (.astore 4, 2) := by decide +kernel
theorem dL_balanceByCopies_23 : decode cL_balanceByCopies 23 = .ok (.iconst 3, 1) := by decide +kernel
theorem dL_balanceByCopies_24 : decode cL_balanceByCopies 24 = .ok (.ireturn, 1) := by decide +kernel
theorem dL_balanceByCopies_25 : decode cL_balanceByCopies 25 = .ok (.iconst 0, 1) := by decide +kernel
theorem dL_balanceByCopies_26 : decode cL_balanceByCopies 26 = .ok (.ireturn, 1) := by decide +kernel
set_option maxRecDepth 20000 in
theorem ggL_size_X6_size : GoodIn wsL_size wsX6_size := goodIn_ca (goodIn_r _ [6, 7, 8, 9, 10, 11, 5, 12, 13, 14, 15, 16, 17, 18, 19, 20, 21, 22, 23, 24, 25, 26, 27, 28, 29, 30, 31, 32, 33, 34, 35] (by decide +kernel) (by decide +kernel)) (goodIn_sub (fun _ h => List.mem_cons_of_mem _ (List.mem_append_right _ h)) (by decide +kernel))
set_option maxRecDepth 20000 in
theorem gL_size_X6_size : GoodIn wsL_size (wsV RL 101 RX6 yX6_size wsX6_size) := goodIn_app (goodIn_of _ (by decide +kernel)) ggL_size_X6_size
theorem dL_size_0 : decode cL_size 0 = .ok (.aload_n 2, 1) := by decide +kernel
theorem dL_size_1 : decode cL_size 1 = .ok (.iconst 0, 1) := by decide +kernel
theorem dL_size_2 : decode cL_size 2 = .ok (.aload_n 0, 1) := by decide +kernel
theorem dL_size_3 : decode cL_size 3 = .ok (.iload_n 1, 1) := by decide +kernel
theorem dL_size_4 : decode cL_size 4 = .ok (.invokevirtual 101, 3) := by decide +kernel
theorem dL_size_7 : decode cL_size 7 = .ok (.i2l, 1) := by decide +kernel
theorem dL_size_8 : decode cL_size 8 = .ok (.lastore, 1) := by decide +kernel
theorem dL_size_9 : decode cL_size 9 = .ok (.goto 6, 3) := by decide +kernel
theorem dL_size_12 : decode cL_size 12 = .ok (.astore_n 3, 1) := by decide +kernel
theorem dL_size_13 : decode cL_size 13 = .ok (.iconst 1, 1) := by decide +kernel
theorem dL_size_14 : decode cL_size 14 = .ok (.ireturn, 1) := by decide +kernel
theorem dL_size_15 : decode cL_size 15 = .ok (.iconst 0, 1) := by decide +kernel
theorem dL_size_16 : decode cL_size 16 = .ok (.ireturn, 1) := by decide +kernel
set_option maxRecDepth 20000 in
theorem ggL_isInVault_X6_isInVault : GoodIn wsL_isInVault wsX6_isInVault := goodIn_ca (goodIn_r _ [6, 7, 8, 9, 10, 5, 11, 12, 13, 14, 15, 16, 17, 18, 19, 20, 21, 22, 23, 24, 25, 26, 27, 28, 29, 30, 31, 32, 33, 34] (by decide +kernel) (by decide +kernel)) (goodIn_sub (fun _ h => List.mem_cons_of_mem _ (List.mem_append_right _ h)) (by decide +kernel))
set_option maxRecDepth 20000 in
theorem gL_isInVault_X6_isInVault : GoodIn wsL_isInVault (wsV RL 104 RX6 yX6_isInVault wsX6_isInVault) := goodIn_app (goodIn_of _ (by decide +kernel)) ggL_isInVault_X6_isInVault
theorem dL_isInVault_0 : decode cL_isInVault 0 = .ok (.aload_n 2, 1) := by decide +kernel
theorem dL_isInVault_1 : decode cL_isInVault 1 = .ok (.iconst 0, 1) := by decide +kernel
theorem dL_isInVault_2 : decode cL_isInVault 2 = .ok (.aload_n 0, 1) := by decide +kernel
theorem dL_isInVault_3 : decode cL_isInVault 3 = .ok (.iload_n 1, 1) := by decide +kernel
theorem dL_isInVault_4 : decode cL_isInVault 4 = .ok (.invokevirtual 104, 3) := by decide +kernel
theorem dL_isInVault_7 : decode cL_isInVault 7 = .ok (.ifCond .eq 7, 3) := by decide +kernel
theorem dL_isInVault_10 : decode cL_isInVault 10 = .ok (.lconst 1, 1) := by decide +kernel
theorem dL_isInVault_11 : decode cL_isInVault 11 = .ok (.goto 4, 3) := by decide +kernel
theorem dL_isInVault_14 : decode cL_isInVault 14 = .ok (.lconst 0, 1) := by decide +kernel
theorem dL_isInVault_15 : decode cL_isInVault 15 = .ok (.lastore, 1) := by decide +kernel
theorem dL_isInVault_16 : decode cL_isInVault 16 = .ok (.goto 6, 3) := by decide +kernel
theorem dL_isInVault_19 : decode cL_isInVault 19 = .ok (.astore_n 3, 1) := by decide +kernel
theorem dL_isInVault_20 : decode cL_isInVault 20 = .ok (.iconst 1, 1) := by decide +kernel
theorem dL_isInVault_21 : decode cL_isInVault 21 = .ok (.ireturn, 1) := by decide +kernel
theorem dL_isInVault_22 : decode cL_isInVault 22 = .ok (.iconst 0, 1) := by decide +kernel
theorem dL_isInVault_23 : decode cL_isInVault 23 = .ok (.ireturn, 1) := by decide +kernel
set_option maxRecDepth 20000 in
theorem ggL_stands_X6_stands : GoodIn wsL_stands wsX6_stands := goodIn_ca (goodIn_r _ [6, 7, 8, 9, 10, 5, 11, 12, 13, 14, 15, 16, 17, 18, 19, 20, 21, 22, 23, 24, 25, 26, 27, 28, 29, 30, 31, 32, 33, 34, 35, 36, 37, 38, 39, 40, 41, 42, 43, 44, 45, 46, 47] (by decide +kernel) (by decide +kernel)) (goodIn_sub (fun _ h => List.mem_cons_of_mem _ (List.mem_append_right _ h)) (by decide +kernel))
set_option maxRecDepth 20000 in
theorem gL_stands_X6_stands : GoodIn wsL_stands (wsV RL 107 RX6 yX6_stands wsX6_stands) := goodIn_app (goodIn_of _ (by decide +kernel)) ggL_stands_X6_stands
theorem dL_stands_0 : decode cL_stands 0 = .ok (.aload_n 3, 1) := by decide +kernel
theorem dL_stands_1 : decode cL_stands 1 = .ok (.iconst 0, 1) := by decide +kernel
theorem dL_stands_2 : decode cL_stands 2 = .ok (.aload_n 0, 1) := by decide +kernel
theorem dL_stands_3 : decode cL_stands 3 = .ok (.iload_n 1, 1) := by decide +kernel
theorem dL_stands_4 : decode cL_stands 4 = .ok (.iload_n 2, 1) := by decide +kernel
theorem dL_stands_5 : decode cL_stands 5 = .ok (.invokevirtual 107, 3) := by decide +kernel
theorem dL_stands_8 : decode cL_stands 8 = .ok (.ifCond .eq 7, 3) := by decide +kernel
theorem dL_stands_11 : decode cL_stands 11 = .ok (.lconst 1, 1) := by decide +kernel
theorem dL_stands_12 : decode cL_stands 12 = .ok (.goto 4, 3) := by decide +kernel
theorem dL_stands_15 : decode cL_stands 15 = .ok (.lconst 0, 1) := by decide +kernel
theorem dL_stands_16 : decode cL_stands 16 = .ok (.lastore, 1) := by decide +kernel
theorem dL_stands_17 : decode cL_stands 17 = .ok (.goto 7, 3) := by decide +kernel
theorem dL_stands_20 : decode cL_stands 20 = .ok (.astore 4, 2) := by decide +kernel
theorem dL_stands_22 : decode cL_stands 22 = .ok (.iconst 1, 1) := by decide +kernel
theorem dL_stands_23 : decode cL_stands 23 = .ok (.ireturn, 1) := by decide +kernel
theorem dL_stands_24 : decode cL_stands 24 = .ok (.iconst 0, 1) := by decide +kernel
theorem dL_stands_25 : decode cL_stands 25 = .ok (.ireturn, 1) := by decide +kernel
set_option maxRecDepth 20000 in
theorem ggL_copiesOf_X6_copiesOf : GoodIn wsL_copiesOf wsX6_copiesOf := goodIn_ca (goodIn_r _ [6, 7, 8, 9, 10, 5, 11, 12, 13, 14, 15, 16, 17, 18, 19, 20, 21, 22, 23, 24, 25, 26, 27, 28, 29, 30, 31, 32, 33, 34, 35, 36, 37, 38, 39, 40, 41, 42, 43, 44, 45, 46, 47, 48, 49, 50, 51, 52, 53, 54, 55] (by decide +kernel) (by decide +kernel)) (goodIn_sub (fun _ h => List.mem_cons_of_mem _ (List.mem_append_right _ h)) (by decide +kernel))
set_option maxRecDepth 20000 in
theorem gL_copiesOf_X6_copiesOf : GoodIn wsL_copiesOf (wsV RL 110 RX6 yX6_copiesOf wsX6_copiesOf) := goodIn_app (goodIn_of _ (by decide +kernel)) ggL_copiesOf_X6_copiesOf
theorem dL_copiesOf_0 : decode cL_copiesOf 0 = .ok (.aload_n 2, 1) := by decide +kernel
theorem dL_copiesOf_1 : decode cL_copiesOf 1 = .ok (.iconst 0, 1) := by decide +kernel
theorem dL_copiesOf_2 : decode cL_copiesOf 2 = .ok (.aload_n 0, 1) := by decide +kernel
theorem dL_copiesOf_3 : decode cL_copiesOf 3 = .ok (.iload_n 1, 1) := by decide +kernel
theorem dL_copiesOf_4 : decode cL_copiesOf 4 = .ok (.invokevirtual 110, 3) := by decide +kernel
theorem dL_copiesOf_7 : decode cL_copiesOf 7 = .ok (.i2l, 1) := by decide +kernel
theorem dL_copiesOf_8 : decode cL_copiesOf 8 = .ok (.lastore, 1) := by decide +kernel
theorem dL_copiesOf_9 : decode cL_copiesOf 9 = .ok (.goto 6, 3) := by decide +kernel
theorem dL_copiesOf_12 : decode cL_copiesOf 12 = .ok (.astore_n 3, 1) := by decide +kernel
theorem dL_copiesOf_13 : decode cL_copiesOf 13 = .ok (.iconst 1, 1) := by decide +kernel
theorem dL_copiesOf_14 : decode cL_copiesOf 14 = .ok (.ireturn, 1) := by decide +kernel
theorem dL_copiesOf_15 : decode cL_copiesOf 15 = .ok (.iconst 0, 1) := by decide +kernel
theorem dL_copiesOf_16 : decode cL_copiesOf 16 = .ok (.ireturn, 1) := by decide +kernel
set_option maxRecDepth 20000 in
theorem ggL_canRestore_X6_canRestore : GoodIn wsL_canRestore wsX6_canRestore := goodIn_ca (goodIn_r _ [6, 7, 8, 9, 5, 10, 11, 12, 13, 14, 15, 16, 17, 18, 19, 20, 21, 22, 23, 24, 25, 26, 27, 28, 29, 30, 31, 32, 33, 34, 35, 36, 37, 38, 39, 40] (by decide +kernel) (by decide +kernel)) (goodIn_sub (fun _ h => List.mem_cons_of_mem _ (List.mem_append_right _ h)) (by decide +kernel))
set_option maxRecDepth 20000 in
theorem gL_canRestore_X6_canRestore : GoodIn wsL_canRestore (wsV RL 113 RX6 yX6_canRestore wsX6_canRestore) := goodIn_app (goodIn_of _ (by decide +kernel)) ggL_canRestore_X6_canRestore
theorem dL_canRestore_0 : decode cL_canRestore 0 = .ok (.aload_n 2, 1) := by decide +kernel
theorem dL_canRestore_1 : decode cL_canRestore 1 = .ok (.iconst 0, 1) := by decide +kernel
theorem dL_canRestore_2 : decode cL_canRestore 2 = .ok (.aload_n 0, 1) := by decide +kernel
theorem dL_canRestore_3 : decode cL_canRestore 3 = .ok (.iload_n 1, 1) := by decide +kernel
theorem dL_canRestore_4 : decode cL_canRestore 4 = .ok (.invokevirtual 113, 3) := by decide +kernel
theorem dL_canRestore_7 : decode cL_canRestore 7 = .ok (.ifCond .eq 7, 3) := by decide +kernel
theorem dL_canRestore_10 : decode cL_canRestore 10 = .ok (.lconst 1, 1) := by decide +kernel
theorem dL_canRestore_11 : decode cL_canRestore 11 = .ok (.goto 4, 3) := by decide +kernel
theorem dL_canRestore_14 : decode cL_canRestore 14 = .ok (.lconst 0, 1) := by decide +kernel
theorem dL_canRestore_15 : decode cL_canRestore 15 = .ok (.lastore, 1) := by decide +kernel
theorem dL_canRestore_16 : decode cL_canRestore 16 = .ok (.goto 6, 3) := by decide +kernel
theorem dL_canRestore_19 : decode cL_canRestore 19 = .ok (.astore_n 3, 1) := by decide +kernel
theorem dL_canRestore_20 : decode cL_canRestore 20 = .ok (.iconst 1, 1) := by decide +kernel
theorem dL_canRestore_21 : decode cL_canRestore 21 = .ok (.ireturn, 1) := by decide +kernel
theorem dL_canRestore_22 : decode cL_canRestore 22 = .ok (.iconst 0, 1) := by decide +kernel
theorem dL_canRestore_23 : decode cL_canRestore 23 = .ok (.ireturn, 1) := by decide +kernel
set_option maxRecDepth 20000 in
theorem ggL_audit_X6_audit : GoodIn wsL_audit wsX6_audit := goodIn_ca (goodIn_r _ [6, 7, 8, 9, 10, 11, 12, 13, 14, 5, 15, 16, 17, 18, 19, 20, 21, 22, 23, 24, 25, 26, 27, 28, 29, 30, 31, 32, 33, 34, 35, 36, 37, 38, 39, 40, 41, 42, 43, 44, 45, 46, 47, 48, 49, 50, 51, 52, 53, 54, 55, 56, 57, 58, 59, 60, 61, 62] (by decide +kernel) (by decide +kernel)) (goodIn_sub (fun _ h => List.mem_cons_of_mem _ (List.mem_append_right _ h)) (by decide +kernel))
set_option maxRecDepth 20000 in
theorem gL_audit_X6_audit : GoodIn wsL_audit (wsV RL 116 RX6 yX6_audit wsX6_audit) := goodIn_app (goodIn_of _ (by decide +kernel)) ggL_audit_X6_audit
theorem dL_audit_0 : decode cL_audit 0 = .ok (.aload_n 2, 1) := by decide +kernel
theorem dL_audit_1 : decode cL_audit 1 = .ok (.iconst 0, 1) := by decide +kernel
theorem dL_audit_2 : decode cL_audit 2 = .ok (.aload_n 0, 1) := by decide +kernel
theorem dL_audit_3 : decode cL_audit 3 = .ok (.iload_n 1, 1) := by decide +kernel
theorem dL_audit_4 : decode cL_audit 4 = .ok (.invokevirtual 116, 3) := by decide +kernel
theorem dL_audit_7 : decode cL_audit 7 = .ok (.i2l, 1) := by decide +kernel
theorem dL_audit_8 : decode cL_audit 8 = .ok (.lastore, 1) := by decide +kernel
theorem dL_audit_9 : decode cL_audit 9 = .ok (.goto 6, 3) := by decide +kernel
theorem dL_audit_12 : decode cL_audit 12 = .ok (.astore_n 3, 1) := by decide +kernel
theorem dL_audit_13 : decode cL_audit 13 = .ok (.iconst 1, 1) := by decide +kernel
theorem dL_audit_14 : decode cL_audit 14 = .ok (.ireturn, 1) := by decide +kernel
theorem dL_audit_15 : decode cL_audit 15 = .ok (.iconst 0, 1) := by decide +kernel
theorem dL_audit_16 : decode cL_audit 16 = .ok (.ireturn, 1) := by decide +kernel
set_option maxRecDepth 20000 in
theorem ggL_isOpen_X6_isOpen : GoodIn wsL_isOpen wsX6_isOpen := goodIn_ca (goodIn_r _ [6, 7, 8, 9, 10, 11, 5, 12, 13, 14, 15, 16, 17, 18, 19, 20, 21, 22, 23, 24, 25, 26, 27, 28] (by decide +kernel) (by decide +kernel)) (goodIn_sub (fun _ h => List.mem_cons_of_mem _ (List.mem_append_right _ h)) (by decide +kernel))
set_option maxRecDepth 20000 in
theorem gL_isOpen_X6_isOpen : GoodIn wsL_isOpen (wsV RL 119 RX6 yX6_isOpen wsX6_isOpen) := goodIn_app (goodIn_of _ (by decide +kernel)) ggL_isOpen_X6_isOpen
theorem dL_isOpen_0 : decode cL_isOpen 0 = .ok (.aload_n 2, 1) := by decide +kernel
theorem dL_isOpen_1 : decode cL_isOpen 1 = .ok (.iconst 0, 1) := by decide +kernel
theorem dL_isOpen_2 : decode cL_isOpen 2 = .ok (.aload_n 0, 1) := by decide +kernel
theorem dL_isOpen_3 : decode cL_isOpen 3 = .ok (.iload_n 1, 1) := by decide +kernel
theorem dL_isOpen_4 : decode cL_isOpen 4 = .ok (.invokevirtual 119, 3) := by decide +kernel
theorem dL_isOpen_7 : decode cL_isOpen 7 = .ok (.ifCond .eq 7, 3) := by decide +kernel
theorem dL_isOpen_10 : decode cL_isOpen 10 = .ok (.lconst 1, 1) := by decide +kernel
theorem dL_isOpen_11 : decode cL_isOpen 11 = .ok (.goto 4, 3) := by decide +kernel
theorem dL_isOpen_14 : decode cL_isOpen 14 = .ok (.lconst 0, 1) := by decide +kernel
theorem dL_isOpen_15 : decode cL_isOpen 15 = .ok (.lastore, 1) := by decide +kernel
theorem dL_isOpen_16 : decode cL_isOpen 16 = .ok (.goto 6, 3) := by decide +kernel
theorem dL_isOpen_19 : decode cL_isOpen 19 = .ok (.astore_n 3, 1) := by decide +kernel
theorem dL_isOpen_20 : decode cL_isOpen 20 = .ok (.iconst 1, 1) := by decide +kernel
theorem dL_isOpen_21 : decode cL_isOpen 21 = .ok (.ireturn, 1) := by decide +kernel
theorem dL_isOpen_22 : decode cL_isOpen 22 = .ok (.iconst 0, 1) := by decide +kernel
theorem dL_isOpen_23 : decode cL_isOpen 23 = .ok (.ireturn, 1) := by decide +kernel
set_option maxRecDepth 20000 in
theorem ggL_holders_X6_holders : GoodIn wsL_holders wsX6_holders := goodIn_ca (goodIn_r _ [6, 7, 8, 9, 10, 11, 5, 12, 13, 14, 15, 16, 17, 18, 19, 20, 21, 22, 23, 24, 25, 26, 27, 28, 29, 30, 31, 32, 33, 34, 35, 36, 37, 38, 39, 40, 41, 42, 43, 44, 45, 46, 47, 48, 49, 50, 51, 52, 53, 54, 55, 56, 57, 58] (by decide +kernel) (by decide +kernel)) (goodIn_sub (fun _ h => List.mem_cons_of_mem _ (List.mem_append_right _ h)) (by decide +kernel))
set_option maxRecDepth 20000 in
theorem gL_holders_X6_holders : GoodIn wsL_holders (wsV RL 122 RX6 yX6_holders wsX6_holders) := goodIn_app (goodIn_of _ (by decide +kernel)) ggL_holders_X6_holders
theorem dL_holders_0 : decode cL_holders 0 = .ok (.aload_n 2, 1) := by decide +kernel
theorem dL_holders_1 : decode cL_holders 1 = .ok (.iconst 0, 1) := by decide +kernel
theorem dL_holders_2 : decode cL_holders 2 = .ok (.aload_n 0, 1) := by decide +kernel
theorem dL_holders_3 : decode cL_holders 3 = .ok (.iload_n 1, 1) := by decide +kernel
theorem dL_holders_4 : decode cL_holders 4 = .ok (.invokevirtual 122, 3) := by decide +kernel
theorem dL_holders_7 : decode cL_holders 7 = .ok (.i2l, 1) := by decide +kernel
theorem dL_holders_8 : decode cL_holders 8 = .ok (.lastore, 1) := by decide +kernel
theorem dL_holders_9 : decode cL_holders 9 = .ok (.goto 6, 3) := by decide +kernel
theorem dL_holders_12 : decode cL_holders 12 = .ok (.astore_n 3, 1) := by decide +kernel
theorem dL_holders_13 : decode cL_holders 13 = .ok (.iconst 1, 1) := by decide +kernel
theorem dL_holders_14 : decode cL_holders 14 = .ok (.ireturn, 1) := by decide +kernel
theorem dL_holders_15 : decode cL_holders 15 = .ok (.iconst 0, 1) := by decide +kernel
theorem dL_holders_16 : decode cL_holders 16 = .ok (.ireturn, 1) := by decide +kernel
set_option maxRecDepth 20000 in
theorem ggL_canStrike_X6_canStrike : GoodIn wsL_canStrike wsX6_canStrike := goodIn_ca (goodIn_r _ [6, 7, 8, 9, 10, 11, 5, 12, 13, 14, 15, 16, 17, 18, 19, 20, 21, 22, 23, 24, 25, 26, 27, 28, 29, 30, 31, 32, 33, 34, 35, 36, 37, 38, 39, 40, 41, 42, 43, 44, 45, 46, 47, 48, 49, 50, 51, 52, 53, 54, 55, 56, 57, 58, 59, 60, 61, 62, 63, 64, 65, 66, 67, 68, 69, 70, 71, 72, 73, 74, 75, 76, 77, 78, 79, 80, 81, 82, 83, 84, 85, 86] (by decide +kernel) (by decide +kernel)) (goodIn_sub (fun _ h => List.mem_cons_of_mem _ (List.mem_append_right _ h)) (by decide +kernel))
set_option maxRecDepth 20000 in
theorem gL_canStrike_X6_canStrike : GoodIn wsL_canStrike (wsV RL 125 RX6 yX6_canStrike wsX6_canStrike) := goodIn_app (goodIn_of _ (by decide +kernel)) ggL_canStrike_X6_canStrike
theorem dL_canStrike_0 : decode cL_canStrike 0 = .ok (.aload_n 3, 1) := by decide +kernel
theorem dL_canStrike_1 : decode cL_canStrike 1 = .ok (.iconst 0, 1) := by decide +kernel
theorem dL_canStrike_2 : decode cL_canStrike 2 = .ok (.aload_n 0, 1) := by decide +kernel
theorem dL_canStrike_3 : decode cL_canStrike 3 = .ok (.iload_n 1, 1) := by decide +kernel
theorem dL_canStrike_4 : decode cL_canStrike 4 = .ok (.iload_n 2, 1) := by decide +kernel
theorem dL_canStrike_5 : decode cL_canStrike 5 = .ok (.invokevirtual 125, 3) := by decide +kernel
theorem dL_canStrike_8 : decode cL_canStrike 8 = .ok (.ifCond .eq 7, 3) := by decide +kernel
theorem dL_canStrike_11 : decode cL_canStrike 11 = .ok (.lconst 1, 1) := by decide +kernel
theorem dL_canStrike_12 : decode cL_canStrike 12 = .ok (.goto 4, 3) := by decide +kernel
theorem dL_canStrike_15 : decode cL_canStrike 15 = .ok (.lconst 0, 1) := by decide +kernel
theorem dL_canStrike_16 : decode cL_canStrike 16 = .ok (.lastore, 1) := by decide +kernel
theorem dL_canStrike_17 : decode cL_canStrike 17 = .ok (.goto 7, 3) := by decide +kernel
theorem dL_canStrike_20 : decode cL_canStrike 20 = .ok (.astore 4, 2) := by decide +kernel
theorem dL_canStrike_22 : decode cL_canStrike 22 = .ok (.iconst 1, 1) := by decide +kernel
theorem dL_canStrike_23 : decode cL_canStrike 23 = .ok (.ireturn, 1) := by decide +kernel
theorem dL_canStrike_24 : decode cL_canStrike 24 = .ok (.iconst 0, 1) := by decide +kernel
theorem dL_canStrike_25 : decode cL_canStrike 25 = .ok (.ireturn, 1) := by decide +kernel
