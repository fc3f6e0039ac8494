set_option maxRecDepth 20000 in
theorem ggL_legs_X6_leg : GoodIn wsL_legs wsX6_leg := goodIn_ca (goodIn_ca (goodIn_ca (goodIn_r _ [11, 12, 13, 14, 15, 16, 17, 18, 10, 19, 20, 21, 22, 23, 24, 25, 26, 27, 28, 29, 30, 31, 32, 33, 34, 35, 36, 37, 38, 39, 40, 41, 42, 43, 44, 45] (by decide +kernel) (by decide +kernel)) (goodIn_sub (fun _ h => List.mem_cons_of_mem _ (List.mem_append_left _ (List.mem_append_left _ (List.mem_append_right _ h)))) (by decide +kernel))) (goodIn_sub (fun _ h => List.mem_cons_of_mem _ (List.mem_append_left _ (List.mem_append_right _ h))) (by decide +kernel))) (goodIn_sub (fun _ h => List.mem_cons_of_mem _ (List.mem_append_right _ h)) (by decide +kernel))
set_option maxRecDepth 20000 in
theorem gL_legs_X6_leg : GoodIn wsL_legs (wsV RL 7 RX6 yX6_leg wsX6_leg) := goodIn_app (goodIn_of _ (by decide +kernel)) ggL_legs_X6_leg
theorem dL_legs_0 : decode cL_legs 0 = .ok (.aload_n 0, 1) := by decide +kernel
theorem dL_legs_1 : decode cL_legs 1 = .ok (.iload_n 1, 1) := by decide +kernel
theorem dL_legs_2 : decode cL_legs 2 = .ok (.iload_n 2, 1) := by decide +kernel
theorem dL_legs_3 : decode cL_legs 3 = .ok (.invokevirtual 7, 3) := by decide +kernel
theorem dL_legs_6 : decode cL_legs 6 = .ok (.ireturn, 1) := by decide +kernel
theorem dL_legs_7 : decode cL_legs 7 = .ok (.astore_n 3, 1) := by decide +kernel
theorem dL_legs_8 : decode cL_legs 8 = .ok (.ldc 15, 2) := by decide +kernel
theorem dL_legs_10 : decode cL_legs 10 = .ok (.ireturn, 1) := by decide +kernel
theorem dL_legs_11 : decode cL_legs 11 = .ok (.astore_n 3, 1) := by decide +kernel
theorem dL_legs_12 : decode cL_legs 12 = .ok (.ldc 18, 2) := by decide +kernel
theorem dL_legs_14 : decode cL_legs 14 = .ok (.ireturn, 1) := by decide +kernel
theorem dL_legs_15 : decode cL_legs 15 = .ok (.astore_n 3, 1) := by decide +kernel
theorem dL_legs_16 : decode cL_legs 16 = .ok (.ldc 21, 2) := by decide +kernel
theorem dL_legs_18 : decode cL_legs 18 = .ok (.ireturn, 1) := by decide +kernel
set_option maxRecDepth 20000 in
theorem ggL_writes_X6_write : GoodIn wsL_writes wsX6_write := goodIn_ca (goodIn_ca (goodIn_r _ [9, 10, 11, 12, 13, 14, 15, 16, 8, 17, 18, 19, 20, 21, 22, 23, 24, 25, 26, 27, 28, 29, 30, 31, 32, 33, 34, 35, 36, 37, 38, 39, 40, 41, 42, 43, 44, 45, 46, 47, 48, 49, 50, 51, 52, 53, 54, 55, 56, 57, 58, 59, 60, 61, 62, 63, 64, 65, 66, 67, 68, 69, 70, 71, 72, 73, 74, 75, 76, 77, 78, 79, 80, 81, 82, 83, 84, 85, 86, 87, 88, 89, 90] (by decide +kernel) (by decide +kernel)) (goodIn_sub (fun _ h => List.mem_cons_of_mem _ (List.mem_append_left _ (List.mem_append_right _ h))) (by decide +kernel))) (goodIn_sub (fun _ h => List.mem_cons_of_mem _ (List.mem_append_right _ h)) (by decide +kernel))
set_option maxRecDepth 20000 in
theorem gL_writes_X6_write : GoodIn wsL_writes (wsV RL 22 RX6 yX6_write wsX6_write) := goodIn_app (goodIn_of _ (by decide +kernel)) ggL_writes_X6_write
theorem dL_writes_0 : decode cL_writes 0 = .ok (.aload_n 0, 1) := by decide +kernel
theorem dL_writes_1 : decode cL_writes 1 = .ok (.iload_n 1, 1) := by decide +kernel
theorem dL_writes_2 : decode cL_writes 2 = .ok (.invokevirtual 22, 3) := by decide +kernel
theorem dL_writes_5 : decode cL_writes 5 = .ok (.ireturn, 1) := by decide +kernel
theorem dL_writes_6 : decode cL_writes 6 = .ok (.astore_n 2, 1) := by decide +kernel
theorem dL_writes_7 : decode cL_writes 7 = .ok (.ldc 18, 2) := by decide +kernel
theorem dL_writes_9 : decode cL_writes 9 = .ok (.ireturn, 1) := by decide +kernel
theorem dL_writes_10 : decode cL_writes 10 = .ok (.astore_n 2, 1) := by decide +kernel
theorem dL_writes_11 : decode cL_writes 11 = .ok (.ldc 21, 2) := by decide +kernel
theorem dL_writes_13 : decode cL_writes 13 = .ok (.ireturn, 1) := by decide +kernel
set_option maxRecDepth 20000 in
theorem ggL_reverses_X6_reverse : GoodIn wsL_reverses wsX6_reverse := goodIn_ca (goodIn_ca (goodIn_r _ [9, 10, 11, 12, 13, 14, 15, 16, 17, 8, 18, 19, 20, 21, 22, 23, 24, 25, 26, 27, 28, 29, 30, 31, 32, 33, 34, 35, 36, 37, 38, 39, 40, 41, 42, 43, 44, 45, 46, 47, 48, 49, 50, 51, 52, 53, 54, 55, 56, 57, 58, 59, 60, 61, 62, 63, 64, 65, 66, 67, 68, 69, 70, 71, 72, 73, 74, 75, 76, 77, 78, 79, 80, 81, 82, 83, 84, 85, 86, 87, 88, 89, 90, 91, 92, 93, 94, 95, 96, 97, 98, 99, 100, 101, 102, 103, 104, 105, 106, 107, 108, 109, 110, 111, 112, 113, 114] (by decide +kernel) (by decide +kernel)) (goodIn_sub (fun _ h => List.mem_cons_of_mem _ (List.mem_append_left _ (List.mem_append_right _ h))) (by decide +kernel))) (goodIn_sub (fun _ h => List.mem_cons_of_mem _ (List.mem_append_right _ h)) (by decide +kernel))
set_option maxRecDepth 20000 in
theorem gL_reverses_X6_reverse : GoodIn wsL_reverses (wsV RL 26 RX6 yX6_reverse wsX6_reverse) := goodIn_app (goodIn_of _ (by decide +kernel)) ggL_reverses_X6_reverse
theorem dL_reverses_0 : decode cL_reverses 0 = .ok (.aload_n 0, 1) := by decide +kernel
theorem dL_reverses_1 : decode cL_reverses 1 = .ok (.iload_n 1, 1) := by decide +kernel
theorem dL_reverses_2 : decode cL_reverses 2 = .ok (.invokevirtual 26, 3) := by decide +kernel
theorem dL_reverses_5 : decode cL_reverses 5 = .ok (.ireturn, 1) := by decide +kernel
theorem dL_reverses_6 : decode cL_reverses 6 = .ok (.astore_n 2, 1) := by decide +kernel
theorem dL_reverses_7 : decode cL_reverses 7 = .ok (.ldc 15, 2) := by decide +kernel
theorem dL_reverses_9 : decode cL_reverses 9 = .ok (.ireturn, 1) := by decide +kernel
theorem dL_reverses_10 : decode cL_reverses 10 = .ok (.astore_n 2, 1) := by decide +kernel
theorem dL_reverses_11 : decode cL_reverses 11 = .ok (.ldc 21, 2) := by decide +kernel
theorem dL_reverses_13 : decode cL_reverses 13 = .ok (.ireturn, 1) := by decide +kernel
set_option maxRecDepth 20000 in
theorem ggL_passes_X6_pass : GoodIn wsL_passes wsX6_pass := goodIn_ca (goodIn_ca (goodIn_r _ [9, 10, 11, 12, 13, 14, 15, 16, 17, 18, 19, 20] (by decide +kernel) (by decide +kernel)) (goodIn_sub (fun _ h => List.mem_cons_of_mem _ (List.mem_append_left _ (List.mem_append_right _ h))) (by decide +kernel))) (goodIn_sub (fun _ h => List.mem_cons_of_mem _ (List.mem_append_right _ h)) (by decide +kernel))
set_option maxRecDepth 20000 in
theorem gL_passes_X6_pass : GoodIn wsL_passes (wsV RL 29 RX6 yX6_pass wsX6_pass) := goodIn_app (goodIn_of _ (by decide +kernel)) ggL_passes_X6_pass
theorem dL_passes_0 : decode cL_passes 0 = .ok (.aload_n 0, 1) := by decide +kernel
theorem dL_passes_1 : decode cL_passes 1 = .ok (.iload_n 1, 1) := by decide +kernel
theorem dL_passes_2 : decode cL_passes 2 = .ok (.invokevirtual 29, 3) := by decide +kernel
theorem dL_passes_5 : decode cL_passes 5 = .ok (.ireturn, 1) := by decide +kernel
theorem dL_passes_6 : decode cL_passes 6 = .ok (.astore_n 2, 1) := by decide +kernel
theorem dL_passes_7 : decode cL_passes 7 = .ok (.ldc 18, 2) := by decide +kernel
theorem dL_passes_9 : decode cL_passes 9 = .ok (.ireturn, 1) := by decide +kernel
theorem dL_passes_10 : decode cL_passes 10 = .ok (.astore_n 2, 1) := by decide +kernel
theorem dL_passes_11 : decode cL_passes 11 = .ok (.ldc 21, 2) := by decide +kernel
theorem dL_passes_13 : decode cL_passes 13 = .ok (.ireturn, 1) := by decide +kernel
set_option maxRecDepth 20000 in
theorem ggL_burns_X6_burn : GoodIn wsL_burns wsX6_burn := goodIn_ca (goodIn_ca (goodIn_r _ [9, 10, 11, 12, 13, 14, 15, 16, 8, 17, 18, 19, 20, 21, 22, 23, 24, 25, 26, 27, 28, 29, 30, 31, 32, 33, 34, 35, 36, 37, 38, 39, 40, 41, 42, 43, 44, 45, 46] (by decide +kernel) (by decide +kernel)) (goodIn_sub (fun _ h => List.mem_cons_of_mem _ (List.mem_append_left _ (List.mem_append_right _ h))) (by decide +kernel))) (goodIn_sub (fun _ h => List.mem_cons_of_mem _ (List.mem_append_right _ h)) (by decide +kernel))
set_option maxRecDepth 20000 in
theorem gL_burns_X6_burn : GoodIn wsL_burns (wsV RL 32 RX6 yX6_burn wsX6_burn) := goodIn_app (goodIn_of _ (by decide +kernel)) ggL_burns_X6_burn
theorem dL_burns_0 : decode cL_burns 0 = .ok (.aload_n 0, 1) := by decide +kernel
theorem dL_burns_1 : decode cL_burns 1 = .ok (.iload_n 1, 1) := by decide +kernel
theorem dL_burns_2 : decode cL_burns 2 = .ok (.iload_n 2, 1) := by decide +kernel
theorem dL_burns_3 : decode cL_burns 3 = .ok (.invokevirtual 32, 3) := by decide +kernel
theorem dL_burns_6 : decode cL_burns 6 = .ok (.ireturn, 1) := by decide +kernel
theorem dL_burns_7 : decode cL_burns 7 = .ok (.astore_n 3, 1) := by decide +kernel
theorem dL_burns_8 : decode cL_burns 8 = .ok (.ldc 15, 2) := by decide +kernel
theorem dL_burns_10 : decode cL_burns 10 = .ok (.ireturn, 1) := by decide +kernel
theorem dL_burns_11 : decode cL_burns 11 = .ok (.astore_n 3, 1) := by decide +kernel
theorem dL_burns_12 : decode cL_burns 12 = .ok (.ldc 18, 2) := by decide +kernel
theorem dL_burns_14 : decode cL_burns 14 = .ok (.ireturn, 1) := by decide +kernel
set_option maxRecDepth 20000 in
theorem ggL_alters_X6_alter : GoodIn wsL_alters wsX6_alter := goodIn_ca (goodIn_ca (goodIn_ca (goodIn_r _ [11, 12, 13, 14, 15, 16, 17, 18, 19, 20, 21, 10, 22, 23, 24, 25, 26, 27, 28, 29, 30, 31, 32, 33, 34, 35, 36, 37, 38, 39, 40, 41, 42, 43, 44, 45, 46, 47, 48, 49, 50, 51, 52, 53, 54, 55, 56, 57, 58] (by decide +kernel) (by decide +kernel)) (goodIn_sub (fun _ h => List.mem_cons_of_mem _ (List.mem_append_left _ (List.mem_append_left _ (List.mem_append_right _ h)))) (by decide +kernel))) (goodIn_sub (fun _ h => List.mem_cons_of_mem _ (List.mem_append_left _ (List.mem_append_right _ h))) (by decide +kernel))) (goodIn_sub (fun _ h => List.mem_cons_of_mem _ (List.mem_append_right _ h)) (by decide +kernel))
set_option maxRecDepth 20000 in
theorem gL_alters_X6_alter : GoodIn wsL_alters (wsV RL 35 RX6 yX6_alter wsX6_alter) := goodIn_app (goodIn_of _ (by decide +kernel)) ggL_alters_X6_alter
theorem dL_alters_0 : decode cL_alters 0 = .ok (.aload_n 0, 1) := by decide +kernel
theorem dL_alters_1 : decode cL_alters 1 = .ok (.iload_n 1, 1) := by decide +kernel
theorem dL_alters_2 : decode cL_alters 2 = .ok (.iload_n 2, 1) := by decide +kernel
theorem dL_alters_3 : decode cL_alters 3 = .ok (.iload_n 3, 1) := by decide +kernel
theorem dL_alters_4 : decode cL_alters 4 = .ok (.invokevirtual 35, 3) := by decide +kernel
theorem dL_alters_7 : decode cL_alters 7 = .ok (.ireturn, 1) := by decide +kernel
theorem dL_alters_8 : decode cL_alters 8 = .ok (.astore 4, 2) := by decide +kernel
theorem dL_alters_10 : decode cL_alters 10 = .ok (.ldc 15, 2) := by decide +kernel
theorem dL_alters_12 : decode cL_alters 12 = .ok (.ireturn, 1) := by decide +kernel
theorem dL_alters_13 : decode cL_alters 13 = .ok (.astore 4, 2) := by decide +kernel
theorem dL_alters_15 : decode cL_alters 15 = .ok (.ldc 18, 2) := by decide +kernel
theorem dL_alters_17 : decode cL_alters 17 = .ok (.ireturn, 1) := by decide +kernel
theorem dL_alters_18 : decode cL_alters 18 = .ok (.astore 4, 2) := by decide +kernel
theorem dL_alters_20 : decode cL_alters 20 = .ok (.ldc 21, 2) := by decide +kernel
theorem dL_alters_22 : decode cL_alters 22 = .ok (.ireturn, 1) := by decide +kernel
set_option maxRecDepth 20000 in
theorem ggL_copies_X6_copy : GoodIn wsL_copies wsX6_copy := goodIn_ca (goodIn_r _ [7, 8, 9, 10, 11, 12, 6, 13, 14, 15, 16, 17, 18, 19, 20, 21, 22, 23, 24, 25, 26, 27, 28, 29, 30, 31, 32, 33, 34, 35, 36, 37, 38, 39, 40, 41, 42, 43, 44, 45, 46, 47, 48, 49, 50, 51, 52, 53, 54, 55, 56, 57, 58, 59, 60, 61, 62, 63, 64, 65, 66, 67, 68, 69, 70, 71, 72, 73, 74, 75, 76, 77, 78, 79, 80, 81, 82, 83, 84, 85, 86, 87, 88, 89, 90, 91, 92, 93, 94, 95, 96, 97, 98, 99, 100, 101] (by decide +kernel) (by decide +kernel)) (goodIn_sub (fun _ h => List.mem_cons_of_mem _ (List.mem_append_right _ h)) (by decide +kernel))
set_option maxRecDepth 20000 in
theorem gL_copies_X6_copy : GoodIn wsL_copies (wsV RL 39 RX6 yX6_copy wsX6_copy) := goodIn_app (goodIn_of _ (by decide +kernel)) ggL_copies_X6_copy
theorem dL_copies_0 : decode cL_copies 0 = .ok (.aload_n 0, 1) := by decide +kernel
theorem dL_copies_1 : decode cL_copies 1 = .ok (.invokevirtual 39, 3) := by decide +kernel
theorem dL_copies_4 : decode cL_copies 4 = .ok (.ireturn, 1) := by decide +kernel
theorem dL_copies_5 : decode cL_copies 5 = .ok (.astore_n 1, 1) := by decide +kernel
theorem dL_copies_6 : decode cL_copies 6 = .ok (.ldc 21, 2) := by decide +kernel
theorem dL_copies_8 : decode cL_copies 8 = .ok (.ireturn, 1) := by decide +kernel
set_option maxRecDepth 20000 in
theorem ggL_copiesFrom_X6_copyFrom : GoodIn wsL_copiesFrom wsX6_copyFrom := goodIn_ca (goodIn_ca (goodIn_r _ [9, 10, 11, 12, 13, 14, 8, 15, 16, 17, 18, 19, 20, 21, 22, 23, 24, 25, 26, 27, 28, 29, 30, 31, 32, 33, 34, 35, 36, 37, 38, 39, 40, 41, 42, 43, 44, 45, 46, 47, 48, 49, 50, 51, 52, 53, 54, 55, 56, 57, 58, 59, 60, 61, 62, 63, 64, 65, 66, 67, 68, 69, 70, 71, 72, 73, 74, 75, 76, 77, 78, 79, 80, 81, 82, 83, 84, 85, 86, 87, 88, 89, 90, 91, 92, 93, 94, 95, 96, 97, 98, 99, 100, 101, 102, 103, 104, 105, 106, 107, 108, 109, 110, 111, 112, 113] (by decide +kernel) (by decide +kernel)) (goodIn_sub (fun _ h => List.mem_cons_of_mem _ (List.mem_append_left _ (List.mem_append_right _ h))) (by decide +kernel))) (goodIn_sub (fun _ h => List.mem_cons_of_mem _ (List.mem_append_right _ h)) (by decide +kernel))
set_option maxRecDepth 20000 in
theorem gL_copiesFrom_X6_copyFrom : GoodIn wsL_copiesFrom (wsV RL 43 RX6 yX6_copyFrom wsX6_copyFrom) := goodIn_app (goodIn_of _ (by decide +kernel)) ggL_copiesFrom_X6_copyFrom
theorem dL_copiesFrom_0 : decode cL_copiesFrom 0 = .ok (.aload_n 0, 1) := by decide +kernel
theorem dL_copiesFrom_1 : decode cL_copiesFrom 1 = .ok (.iload_n 1, 1) := by decide +kernel
theorem dL_copiesFrom_2 : decode cL_copiesFrom 2 = .ok (.invokevirtual 43, 3) := by decide +kernel
theorem dL_copiesFrom_5 : decode cL_copiesFrom 5 = .ok (.ireturn, 1) := by decide +kernel
theorem dL_copiesFrom_6 : decode cL_copiesFrom 6 = .ok (.astore_n 2, 1) := by decide +kernel
theorem dL_copiesFrom_7 : decode cL_copiesFrom 7 = .ok (.ldc 15, 2) := by decide +kernel
theorem dL_copiesFrom_9 : decode cL_copiesFrom 9 = .ok (.ireturn, 1) := by decide +kernel
theorem dL_copiesFrom_10 : decode cL_copiesFrom 10 = .ok (.astore_n 2, 1) := by decide +kernel
theorem dL_copiesFrom_11 : decode cL_copiesFrom 11 = .ok (.ldc 21, 2) := by decide +kernel
theorem dL_copiesFrom_13 : decode cL_copiesFrom 13 = .ok (.ireturn, 1) := by decide +kernel
set_option maxRecDepth 20000 in
theorem ggL_carries_X6_carry : GoodIn wsL_carries wsX6_carry := goodIn_ca (goodIn_r _ [7, 8, 9, 10, 11, 12, 6, 13, 14, 15, 16, 17, 18, 19, 20, 21, 22, 23, 24, 25, 26, 27, 28, 29, 30, 31, 32, 33, 34, 35, 36, 37, 38, 39, 40, 41, 42, 43, 44, 45, 46, 47, 48, 49, 50, 51, 52, 53, 54, 55, 56, 57, 58, 59, 60, 61, 62, 63, 64, 65] (by decide +kernel) (by decide +kernel)) (goodIn_sub (fun _ h => List.mem_cons_of_mem _ (List.mem_append_right _ h)) (by decide +kernel))
set_option maxRecDepth 20000 in
theorem gL_carries_X6_carry : GoodIn wsL_carries (wsV RL 46 RX6 yX6_carry wsX6_carry) := goodIn_app (goodIn_of _ (by decide +kernel)) ggL_carries_X6_carry
theorem dL_carries_0 : decode cL_carries 0 = .ok (.aload_n 0, 1) := by decide +kernel
theorem dL_carries_1 : decode cL_carries 1 = .ok (.iload_n 1, 1) := by decide +kernel
theorem dL_carries_2 : decode cL_carries 2 = .ok (.iload_n 2, 1) := by decide +kernel
theorem dL_carries_3 : decode cL_carries 3 = .ok (.invokevirtual 46, 3) := by decide +kernel
theorem dL_carries_6 : decode cL_carries 6 = .ok (.ireturn, 1) := by decide +kernel
theorem dL_carries_7 : decode cL_carries 7 = .ok (.astore_n 3, 1) := by decide +kernel
theorem dL_carries_8 : decode cL_carries 8 = .ok (.ldc 15, 2) := by decide +kernel
theorem dL_carries_10 : decode cL_carries 10 = .ok (.ireturn, 1) := by decide +kernel
set_option maxRecDepth 20000 in
theorem ggL_rots_X6_rot : GoodIn wsL_rots wsX6_rot := goodIn_ca (goodIn_r _ [7, 8, 9, 10, 11, 6, 12, 13, 14, 15, 16, 17, 18, 19, 20, 21, 22, 23, 24, 25, 26, 27, 28, 29, 30, 31, 32, 33, 34, 35, 36, 37, 38, 39, 40, 41, 42, 43, 44, 45, 46, 47, 48, 49] (by decide +kernel) (by decide +kernel)) (goodIn_sub (fun _ h => List.mem_cons_of_mem _ (List.mem_append_right _ h)) (by decide +kernel))
set_option maxRecDepth 20000 in
theorem gL_rots_X6_rot : GoodIn wsL_rots (wsV RL 50 RX6 yX6_rot wsX6_rot) := goodIn_app (goodIn_of _ (by decide +kernel)) ggL_rots_X6_rot
theorem dL_rots_0 : decode cL_rots 0 = .ok (.aload_n 0, 1) := by decide +kernel
theorem dL_rots_1 : decode cL_rots 1 = .ok (.iload_n 1, 1) := by decide +kernel
theorem dL_rots_2 : decode cL_rots 2 = .ok (.iload_n 2, 1) := by decide +kernel
theorem dL_rots_3 : decode cL_rots 3 = .ok (.invokevirtual 50, 3) := by decide +kernel
theorem dL_rots_6 : decode cL_rots 6 = .ok (.ifCond .eq 7, 3) := by decide +kernel
theorem dL_rots_9 : decode cL_rots 9 = .ok (.iconst 1, 1) := by decide +kernel
theorem dL_rots_10 : decode cL_rots 10 = .ok (.goto 4, 3) := by decide +kernel
theorem dL_rots_13 : decode cL_rots 13 = .ok (.iconst 0, 1) := by decide +kernel
theorem dL_rots_14 : decode cL_rots 14 = .ok (.ireturn, 1) := by decide +kernel
theorem dL_rots_15 : decode cL_rots 15 = .ok (.astore_n 3, 1) := by decide +kernel
theorem dL_rots_16 : decode cL_rots 16 = .ok (.ldc 15, 2) := by decide +kernel
theorem dL_rots_18 : decode cL_rots 18 = .ok (.ireturn, 1) := by decide +kernel
set_option maxRecDepth 20000 in
theorem ggL_throwsAway_X6_throwAway : GoodIn wsL_throwsAway wsX6_throwAway := goodIn_ca (goodIn_ca (goodIn_r _ [9, 10, 11, 12, 13, 14, 15, 16, 17, 8, 18, 19, 20, 21, 22, 23, 24, 25, 26, 27, 28, 29, 30, 31, 32, 33, 34, 35, 36, 37, 38, 39, 40, 41, 42, 43, 44, 45, 46, 47, 48, 49, 50, 51, 52, 53, 54, 55, 56, 57, 58, 59, 60, 61, 62, 63, 64, 65, 66, 67, 68, 69, 70, 71, 72, 73, 74, 75, 76, 77, 78, 79, 80, 81, 82, 83, 84, 85, 86, 87, 88, 89, 90, 91, 92, 93, 94, 95, 96, 97, 98, 99, 100, 101, 102, 103, 104, 105] (by decide +kernel) (by decide +kernel)) (goodIn_sub (fun _ h => List.mem_cons_of_mem _ (List.mem_append_left _ (List.mem_append_right _ h))) (by decide +kernel))) (goodIn_sub (fun _ h => List.mem_cons_of_mem _ (List.mem_append_right _ h)) (by decide +kernel))
set_option maxRecDepth 20000 in
theorem gL_throwsAway_X6_throwAway : GoodIn wsL_throwsAway (wsV RL 54 RX6 yX6_throwAway wsX6_throwAway) := goodIn_app (goodIn_of _ (by decide +kernel)) ggL_throwsAway_X6_throwAway
theorem dL_throwsAway_0 : decode cL_throwsAway 0 = .ok (.aload_n 0, 1) := by decide +kernel
theorem dL_throwsAway_1 : decode cL_throwsAway 1 = .ok (.iload_n 1, 1) := by decide +kernel
theorem dL_throwsAway_2 : decode cL_throwsAway 2 = .ok (.invokevirtual 54, 3) := by decide +kernel
theorem dL_throwsAway_5 : decode cL_throwsAway 5 = .ok (.ireturn, 1) := by decide +kernel
theorem dL_throwsAway_6 : decode cL_throwsAway 6 = .ok (.astore_n 2, 1) := by decide +kernel
theorem dL_throwsAway_7 : decode cL_throwsAway 7 = .ok (.ldc 15, 2) := by decide +kernel
theorem dL_throwsAway_9 : decode cL_throwsAway 9 = .ok (.ireturn, 1) := by decide +kernel
theorem dL_throwsAway_10 : decode cL_throwsAway 10 = .ok (.astore_n 2, 1) := by decide +kernel
theorem dL_throwsAway_11 : decode cL_throwsAway 11 = .ok (.ldc 21, 2) := by decide +kernel
theorem dL_throwsAway_13 : decode cL_throwsAway 13 = .ok (.ireturn, 1) := by decide +kernel
set_option maxRecDepth 20000 in
theorem ggL_restores_X6_restore : GoodIn wsL_restores wsX6_restore := goodIn_ca (goodIn_ca (goodIn_r _ [9, 10, 11, 12, 13, 14, 15, 16, 8, 17, 18, 19, 20, 21, 22, 23, 24, 25, 26, 27, 28, 29, 30, 31, 32, 33, 34, 35, 36, 37, 38, 39, 40, 41, 42, 43, 44, 45, 46, 47, 48, 49, 50, 51, 52, 53, 54, 55, 56, 57, 58, 59, 60, 61, 62, 63, 64, 65, 66, 67, 68, 69, 70, 71, 72, 73, 74, 75, 76, 77, 78, 79, 80, 81, 82, 83, 84, 85, 86, 87, 88, 89, 90] (by decide +kernel) (by decide +kernel)) (goodIn_sub (fun _ h => List.mem_cons_of_mem _ (List.mem_append_left _ (List.mem_append_right _ h))) (by decide +kernel))) (goodIn_sub (fun _ h => List.mem_cons_of_mem _ (List.mem_append_right _ h)) (by decide +kernel))
set_option maxRecDepth 20000 in
theorem gL_restores_X6_restore : GoodIn wsL_restores (wsV RL 57 RX6 yX6_restore wsX6_restore) := goodIn_app (goodIn_of _ (by decide +kernel)) ggL_restores_X6_restore
theorem dL_restores_0 : decode cL_restores 0 = .ok (.aload_n 0, 1) := by decide +kernel
theorem dL_restores_1 : decode cL_restores 1 = .ok (.iload_n 1, 1) := by decide +kernel
theorem dL_restores_2 : decode cL_restores 2 = .ok (.invokevirtual 57, 3) := by decide +kernel
theorem dL_restores_5 : decode cL_restores 5 = .ok (.ireturn, 1) := by decide +kernel
theorem dL_restores_6 : decode cL_restores 6 = .ok (.astore_n 2, 1) := by decide +kernel
theorem dL_restores_7 : decode cL_restores 7 = .ok (.ldc 15, 2) := by decide +kernel
theorem dL_restores_9 : decode cL_restores 9 = .ok (.ireturn, 1) := by decide +kernel
theorem dL_restores_10 : decode cL_restores 10 = .ok (.astore_n 2, 1) := by decide +kernel
theorem dL_restores_11 : decode cL_restores 11 = .ok (.ldc 21, 2) := by decide +kernel
theorem dL_restores_13 : decode cL_restores 13 = .ok (.ireturn, 1) := by decide +kernel
set_option maxRecDepth 20000 in
theorem ggL_opens_X6_open : GoodIn wsL_opens wsX6_open := goodIn_ca (goodIn_r _ [7, 8, 9, 10, 11, 12, 13, 14, 15, 16, 17, 18, 19, 20, 21, 22, 23, 24, 25, 26, 27, 28, 29, 30, 31, 32, 33, 34] (by decide +kernel) (by decide +kernel)) (goodIn_sub (fun _ h => List.mem_cons_of_mem _ (List.mem_append_right _ h)) (by decide +kernel))
set_option maxRecDepth 20000 in
theorem gL_opens_X6_open : GoodIn wsL_opens (wsV RL 60 RX6 yX6_open wsX6_open) := goodIn_app (goodIn_of _ (by decide +kernel)) ggL_opens_X6_open
theorem dL_opens_0 : decode cL_opens 0 = .ok (.aload_n 0, 1) := by decide +kernel
theorem dL_opens_1 : decode cL_opens 1 = .ok (.invokevirtual 60, 3) := by decide +kernel
theorem dL_opens_4 : decode cL_opens 4 = .ok (.ireturn, 1) := by decide +kernel
theorem dL_opens_5 : decode cL_opens 5 = .ok (.astore_n 1, 1) := by decide +kernel
theorem dL_opens_6 : decode cL_opens 6 = .ok (.ldc 21, 2) := by decide +kernel
theorem dL_opens_8 : decode cL_opens 8 = .ok (.ireturn, 1) := by decide +kernel
set_option maxRecDepth 20000 in
theorem ggL_closes_X6_close : GoodIn wsL_closes wsX6_close := goodIn_ca (goodIn_ca (goodIn_r _ [9, 10, 11, 12, 13, 14, 15, 16, 17, 8, 18, 19, 20, 21, 22, 23, 24, 25, 26, 27, 28, 29, 30, 31, 32, 33, 34, 35, 36, 37, 38, 39, 40, 41, 42, 43, 44, 45, 46, 47, 48, 49, 50, 51, 52, 53, 54, 55, 56, 57, 58, 59, 60, 61, 62, 63, 64, 65, 66, 67, 68, 69] (by decide +kernel) (by decide +kernel)) (goodIn_sub (fun _ h => List.mem_cons_of_mem _ (List.mem_append_left _ (List.mem_append_right _ h))) (by decide +kernel))) (goodIn_sub (fun _ h => List.mem_cons_of_mem _ (List.mem_append_right _ h)) (by decide +kernel))
set_option maxRecDepth 20000 in
theorem gL_closes_X6_close : GoodIn wsL_closes (wsV RL 63 RX6 yX6_close wsX6_close) := goodIn_app (goodIn_of _ (by decide +kernel)) ggL_closes_X6_close
theorem dL_closes_0 : decode cL_closes 0 = .ok (.aload_n 0, 1) := by decide +kernel
theorem dL_closes_1 : decode cL_closes 1 = .ok (.iload_n 1, 1) := by decide +kernel
theorem dL_closes_2 : decode cL_closes 2 = .ok (.invokevirtual 63, 3) := by decide +kernel
theorem dL_closes_5 : decode cL_closes 5 = .ok (.ireturn, 1) := by decide +kernel
theorem dL_closes_6 : decode cL_closes 6 = .ok (.astore_n 2, 1) := by decide +kernel
theorem dL_closes_7 : decode cL_closes 7 = .ok (.ldc 15, 2) := by decide +kernel
theorem dL_closes_9 : decode cL_closes 9 = .ok (.ireturn, 1) := by decide +kernel
theorem dL_closes_10 : decode cL_closes 10 = .ok (.astore_n 2, 1) := by decide +kernel
theorem dL_closes_11 : decode cL_closes 11 = .ok (.ldc 21, 2) := by decide +kernel
theorem dL_closes_13 : decode cL_closes 13 = .ok (.ireturn, 1) := by decide +kernel
set_option maxRecDepth 20000 in
theorem ggL_holds_X6_hold : GoodIn wsL_holds wsX6_hold := goodIn_ca (goodIn_ca (goodIn_ca (goodIn_r _ [11, 12, 13, 14, 15, 16, 17, 18, 19, 20, 21, 10, 22, 23, 24, 25, 26, 27, 28, 29, 30, 31, 32, 33, 34, 35, 36, 37, 38, 39, 40, 41, 42, 43, 44, 45, 46, 47, 48, 49, 50, 51, 52, 53, 54, 55, 56, 57, 58, 59, 60, 61, 62, 63, 64, 65, 66, 67, 68, 69, 70, 71, 72, 73, 74, 75, 76, 77, 78, 79, 80, 81, 82, 83, 84] (by decide +kernel) (by decide +kernel)) (goodIn_sub (fun _ h => List.mem_cons_of_mem _ (List.mem_append_left _ (List.mem_append_left _ (List.mem_append_right _ h)))) (by decide +kernel))) (goodIn_sub (fun _ h => List.mem_cons_of_mem _ (List.mem_append_left _ (List.mem_append_right _ h))) (by decide +kernel))) (goodIn_sub (fun _ h => List.mem_cons_of_mem _ (List.mem_append_right _ h)) (by decide +kernel))
set_option maxRecDepth 20000 in
theorem gL_holds_X6_hold : GoodIn wsL_holds (wsV RL 66 RX6 yX6_hold wsX6_hold) := goodIn_app (goodIn_of _ (by decide +kernel)) ggL_holds_X6_hold
theorem dL_holds_0 : decode cL_holds 0 = .ok (.aload_n 0, 1) := by decide +kernel
theorem dL_holds_1 : decode cL_holds 1 = .ok (.iload_n 1, 1) := by decide +kernel
theorem dL_holds_2 : decode cL_holds 2 = .ok (.iload_n 2, 1) := by decide +kernel
theorem dL_holds_3 : decode cL_holds 3 = .ok (.iload_n 3, 1) := by decide +kernel
theorem dL_holds_4 : decode cL_holds 4 = .ok (.iload 4, 2) := by decide +kernel
theorem dL_holds_6 : decode cL_holds 6 = .ok (.invokevirtual 66, 3) := by decide +kernel
theorem dL_holds_9 : decode cL_holds 9 = .ok (.ireturn, 1) := by decide +kernel
theorem dL_holds_10 : decode cL_holds 10 = .ok (.astore 5, 2) := by decide +kernel
theorem dL_holds_12 : decode cL_holds 12 = .ok (.ldc 15, 2) := by decide +kernel
theorem dL_holds_14 : decode cL_holds 14 = .ok (.ireturn, 1) := by decide +kernel
theorem dL_holds_15 : decode cL_holds 15 = .ok (.astore 5, 2) := by decide +kernel
theorem dL_holds_17 : decode cL_holds 17 = .ok (.ldc 18, 2) := by decide +kernel
theorem dL_holds_19 : decode cL_holds 19 = .ok (.ireturn, 1) := by decide +kernel
theorem dL_holds_20 : decode cL_holds 20 = .ok (.astore 5, 2) := by decide +kernel
theorem dL_holds_22 : decode cL_holds 22 = .ok (.ldc 21, 2) := by decide +kernel
theorem dL_holds_24 : decode cL_holds 24 = .ok (.ireturn, 1) := by decide +kernel
set_option maxRecDepth 20000 in
theorem ggL_strikes_X6_strike : GoodIn wsL_strikes wsX6_strike := goodIn_ca (goodIn_ca (goodIn_r _ [9, 10, 11, 12, 13, 14, 15, 16, 17, 8, 18, 19, 20, 21, 22, 23, 24, 25, 26, 27, 28, 29, 30, 31, 32, 33, 34, 35, 36, 37, 38, 39, 40, 41, 42, 43, 44, 45, 46, 47, 48, 49, 50, 51, 52, 53, 54, 55, 56, 57, 58, 59, 60, 61, 62, 63, 64, 65, 66, 67, 68, 69, 70, 71, 72, 73, 74, 75, 76, 77, 78, 79, 80, 81, 82, 83, 84, 85, 86, 87, 88, 89, 90, 91, 92, 93, 94, 95, 96, 97, 98, 99, 100, 101, 102, 103, 104, 105, 106, 107, 108, 109, 110, 111, 112, 113, 114, 115, 116, 117, 118, 119, 120, 121, 122, 123, 124, 125, 126, 127] (by decide +kernel) (by decide +kernel)) (goodIn_sub (fun _ h => List.mem_cons_of_mem _ (List.mem_append_left _ (List.mem_append_right _ h))) (by decide +kernel))) (goodIn_sub (fun _ h => List.mem_cons_of_mem _ (List.mem_append_right _ h)) (by decide +kernel))
set_option maxRecDepth 20000 in
theorem gL_strikes_X6_strike : GoodIn wsL_strikes (wsV RL 70 RX6 yX6_strike wsX6_strike) := goodIn_app (goodIn_of _ (by decide +kernel)) ggL_strikes_X6_strike
theorem dL_strikes_0 : decode cL_strikes 0 = .ok (.aload_n 0, 1) := by decide +kernel
theorem dL_strikes_1 : decode cL_strikes 1 = .ok (.iload_n 1, 1) := by decide +kernel
theorem dL_strikes_2 : decode cL_strikes 2 = .ok (.iload_n 2, 1) := by decide +kernel
theorem dL_strikes_3 : decode cL_strikes 3 = .ok (.invokevirtual 70, 3) := by decide +kernel
theorem dL_strikes_6 : decode cL_strikes 6 = .ok (.ireturn, 1) := by decide +kernel
theorem dL_strikes_7 : decode cL_strikes 7 = .ok (.astore_n 3, 1) := by decide +kernel
theorem dL_strikes_8 : decode cL_strikes 8 = .ok (.ldc 15, 2) := by decide +kernel
theorem dL_strikes_10 : decode cL_strikes 10 = .ok (.ireturn, 1) := by decide +kernel
theorem dL_strikes_11 : decode cL_strikes 11 = .ok (.astore_n 3, 1) := by decide +kernel
theorem dL_strikes_12 : decode cL_strikes 12 = .ok (.ldc 21, 2) := by decide +kernel
theorem dL_strikes_14 : decode cL_strikes 14 = .ok (.ireturn, 1) := by decide +kernel
set_option maxRecDepth 20000 in
theorem ggL_state_X6_state : GoodIn wsL_state wsX6_state := goodIn_ca (goodIn_r _ [7, 8, 9, 10, 11, 6, 12, 13, 14, 15, 16, 17, 18, 19, 20, 21, 22, 23, 24, 25, 26, 27, 28, 29, 30, 31, 32, 33, 34, 35, 36, 37, 38, 39, 40, 41, 42, 43, 44, 45, 46, 47] (by decide +kernel) (by decide +kernel)) (goodIn_sub (fun _ h => List.mem_cons_of_mem _ (List.mem_append_right _ h)) (by decide +kernel))
set_option maxRecDepth 20000 in
theorem gL_state_X6_state : GoodIn wsL_state (wsV RL 73 RX6 yX6_state wsX6_state) := goodIn_app (goodIn_of _ (by decide +kernel)) ggL_state_X6_state
theorem dL_state_0 : decode cL_state 0 = .ok (.aload_n 0, 1) := by decide +kernel
theorem dL_state_1 : decode cL_state 1 = .ok (.iload_n 1, 1) := by decide +kernel
theorem dL_state_2 : decode cL_state 2 = .ok (.invokevirtual 73, 3) := by decide +kernel
theorem dL_state_5 : decode cL_state 5 = .ok (.ireturn, 1) := by decide +kernel
theorem dL_state_6 : decode cL_state 6 = .ok (.astore_n 2, 1) := by decide +kernel
theorem dL_state_7 : decode cL_state 7 = .ok (.ldc 15, 2) := by decide +kernel
theorem dL_state_9 : decode cL_state 9 = .ok (.ireturn, 1) := by decide +kernel
set_option maxRecDepth 20000 in
theorem ggL_isTrue_X6_isTrue : GoodIn wsL_isTrue wsX6_isTrue := goodIn_ca (goodIn_r _ [7, 8, 9, 10, 11, 12, 6, 13, 14, 15, 16, 17, 18, 19, 20, 21, 22, 23, 24, 25, 26, 27, 28, 29, 30, 31, 32, 33, 34, 35, 36, 37, 38, 39, 40, 41, 42, 43, 44, 45, 46, 47, 48, 49, 50, 51, 52] (by decide +kernel) (by decide +kernel)) (goodIn_sub (fun _ h => List.mem_cons_of_mem _ (List.mem_append_right _ h)) (by decide +kernel))
set_option maxRecDepth 20000 in
theorem gL_isTrue_X6_isTrue : GoodIn wsL_isTrue (wsV RL 76 RX6 yX6_isTrue wsX6_isTrue) := goodIn_app (goodIn_of _ (by decide +kernel)) ggL_isTrue_X6_isTrue
theorem dL_isTrue_0 : decode cL_isTrue 0 = .ok (.aload_n 0, 1) := by decide +kernel
theorem dL_isTrue_1 : decode cL_isTrue 1 = .ok (.iload_n 1, 1) := by decide +kernel
theorem dL_isTrue_2 : decode cL_isTrue 2 = .ok (.invokevirtual 76, 3) := by decide +kernel
theorem dL_isTrue_5 : decode cL_isTrue 5 = .ok (.ifCond .eq 7, 3) := by decide +kernel
theorem dL_isTrue_8 : decode cL_isTrue 8 = .ok (.iconst 1, 1) := by decide +kernel
theorem dL_isTrue_9 : decode cL_isTrue 9 = .ok (.goto 4, 3) := by decide +kernel
theorem dL_isTrue_12 : decode cL_isTrue 12 = .ok (.iconst 0, 1) := by decide +kernel
theorem dL_isTrue_13 : decode cL_isTrue 13 = .ok (.ireturn, 1) := by decide +kernel
theorem dL_isTrue_14 : decode cL_isTrue 14 = .ok (.astore_n 2, 1) := by decide +kernel
theorem dL_isTrue_15 : decode cL_isTrue 15 = .ok (.ldc 15, 2) := by decide +kernel
theorem dL_isTrue_17 : decode cL_isTrue 17 = .ok (.ireturn, 1) := by decide +kernel
set_option maxRecDepth 20000 in
theorem ggL_text_X6_text : GoodIn wsL_text wsX6_text := goodIn_ca (goodIn_r _ [7, 8, 9, 10, 11, 12, 13, 6, 14, 15, 16, 17, 18, 19, 20, 21, 22, 23, 24, 25, 26, 27, 28, 29, 30, 31, 32, 33, 34, 35, 36, 37, 38, 39, 40, 41, 42] (by decide +kernel) (by decide +kernel)) (goodIn_sub (fun _ h => List.mem_cons_of_mem _ (List.mem_append_right _ h)) (by decide +kernel))
set_option maxRecDepth 20000 in
theorem gL_text_X6_text : GoodIn wsL_text (wsV RL 80 RX6 yX6_text wsX6_text) := goodIn_app (goodIn_of _ (by decide +kernel)) ggL_text_X6_text
theorem dL_text_0 : decode cL_text 0 = .ok (.aload_n 0, 1) := by decide +kernel
theorem dL_text_1 : decode cL_text 1 = .ok (.iload_n 1, 1) := by decide +kernel
theorem dL_text_2 : decode cL_text 2 = .ok (.invokevirtual 80, 3) := by decide +kernel
theorem dL_text_5 : decode cL_text 5 = .ok (.ireturn, 1) := by decide +kernel
theorem dL_text_6 : decode cL_text 6 = .ok (.astore_n 2, 1) := by decide +kernel
theorem dL_text_7 : decode cL_text 7 = .ok (.ldc 15, 2) := by decide +kernel
theorem dL_text_9 : decode cL_text 9 = .ok (.ireturn, 1) := by decide +kernel
set_option maxRecDepth 20000 in
theorem ggL_mark_X6_mark : GoodIn wsL_mark wsX6_mark := goodIn_ca (goodIn_r _ [7, 8, 9, 10, 11, 12, 6, 13, 14, 15, 16, 17, 18, 19, 20, 21, 22, 23, 24, 25, 26, 27, 28, 29, 30, 31, 32, 33] (by decide +kernel) (by decide +kernel)) (goodIn_sub (fun _ h => List.mem_cons_of_mem _ (List.mem_append_right _ h)) (by decide +kernel))
set_option maxRecDepth 20000 in
theorem gL_mark_X6_mark : GoodIn wsL_mark (wsV RL 83 RX6 yX6_mark wsX6_mark) := goodIn_app (goodIn_of _ (by decide +kernel)) ggL_mark_X6_mark
theorem dL_mark_0 : decode cL_mark 0 = .ok (.aload_n 0, 1) := by decide +kernel
theorem dL_mark_1 : decode cL_mark 1 = .ok (.iload_n 1, 1) := by decide +kernel
theorem dL_mark_2 : decode cL_mark 2 = .ok (.invokevirtual 83, 3) := by decide +kernel
theorem dL_mark_5 : decode cL_mark 5 = .ok (.ireturn, 1) := by decide +kernel
theorem dL_mark_6 : decode cL_mark 6 = .ok (.astore_n 2, 1) := by decide +kernel
theorem dL_mark_7 : decode cL_mark 7 = .ok (.ldc 15, 2) := by decide +kernel
theorem dL_mark_9 : decode cL_mark 9 = .ok (.ireturn, 1) := by decide +kernel
set_option maxRecDepth 20000 in
theorem ggL_reversal_X6_reversal : GoodIn wsL_reversal wsX6_reversal := goodIn_ca (goodIn_r _ [7, 8, 9, 10, 11, 12, 6, 13, 14, 15, 16, 17, 18, 19, 20, 21, 22, 23, 24, 25, 26, 27, 28, 29, 30, 31, 32, 33] (by decide +kernel) (by decide +kernel)) (goodIn_sub (fun _ h => List.mem_cons_of_mem _ (List.mem_append_right _ h)) (by decide +kernel))
set_option maxRecDepth 20000 in
theorem gL_reversal_X6_reversal : GoodIn wsL_reversal (wsV RL 86 RX6 yX6_reversal wsX6_reversal) := goodIn_app (goodIn_of _ (by decide +kernel)) ggL_reversal_X6_reversal
theorem dL_reversal_0 : decode cL_reversal 0 = .ok (.aload_n 0, 1) := by decide +kernel
theorem dL_reversal_1 : decode cL_reversal 1 = .ok (.iload_n 1, 1) := by decide +kernel
theorem dL_reversal_2 : decode cL_reversal 2 = .ok (.invokevirtual 86, 3) := by decide +kernel
theorem dL_reversal_5 : decode cL_reversal 5 = .ok (.ireturn, 1) := by decide +kernel
theorem dL_reversal_6 : decode cL_reversal 6 = .ok (.astore_n 2, 1) := by decide +kernel
theorem dL_reversal_7 : decode cL_reversal 7 = .ok (.ldc 15, 2) := by decide +kernel
theorem dL_reversal_9 : decode cL_reversal 9 = .ok (.ireturn, 1) := by decide +kernel
set_option maxRecDepth 20000 in
theorem ggL_proves_X6_proves : GoodIn wsL_proves wsX6_proves := goodIn_ca (goodIn_ca (goodIn_r _ [9, 10, 11, 12, 13, 14, 15, 16, 8, 17, 18, 19, 20, 21, 22, 23, 24, 25, 26, 27, 28, 29, 30, 31, 32, 33, 34, 35, 36, 37, 38, 39, 40, 41, 42, 43, 44, 45, 46, 47, 48, 49, 50, 51, 52, 53, 54, 55, 56, 57] (by decide +kernel) (by decide +kernel)) (goodIn_sub (fun _ h => List.mem_cons_of_mem _ (List.mem_append_left _ (List.mem_append_right _ h))) (by decide +kernel))) (goodIn_sub (fun _ h => List.mem_cons_of_mem _ (List.mem_append_right _ h)) (by decide +kernel))
set_option maxRecDepth 20000 in
theorem gL_proves_X6_proves : GoodIn wsL_proves (wsV RL 89 RX6 yX6_proves wsX6_proves) := goodIn_app (goodIn_of _ (by decide +kernel)) ggL_proves_X6_proves
theorem dL_proves_0 : decode cL_proves 0 = .ok (.aload_n 0, 1) := by decide +kernel
theorem dL_proves_1 : decode cL_proves 1 = .ok (.iload_n 1, 1) := by decide +kernel
theorem dL_proves_2 : decode cL_proves 2 = .ok (.iload_n 2, 1) := by decide +kernel
theorem dL_proves_3 : decode cL_proves 3 = .ok (.invokevirtual 89, 3) := by decide +kernel
theorem dL_proves_6 : decode cL_proves 6 = .ok (.ifCond .eq 7, 3) := by decide +kernel
theorem dL_proves_9 : decode cL_proves 9 = .ok (.iconst 1, 1) := by decide +kernel
theorem dL_proves_10 : decode cL_proves 10 = .ok (.goto 4, 3) := by decide +kernel
theorem dL_proves_13 : decode cL_proves 13 = .ok (.iconst 0, 1) := by decide +kernel
theorem dL_proves_14 : decode cL_proves 14 = .ok (.ireturn, 1) := by decide +kernel
theorem dL_proves_15 : decode cL_proves 15 = .ok (.astore_n 3, 1) := by decide +kernel
theorem dL_proves_16 : decode cL_proves 16 = .ok (.ldc 15, 2) := by decide +kernel
theorem dL_proves_18 : decode cL_proves 18 = .ok (.ireturn, 1) := by decide +kernel
theorem dL_proves_19 : decode cL_proves 19 = .ok (.astore_n 3, 1) := by decide +kernel
theorem dL_proves_20 : decode cL_proves 20 = .ok (.ldc 18, 2) := by decide +kernel
theorem dL_proves_22 : decode cL_proves 22 = .ok (.ireturn, 1) := by decide +kernel
set_option maxRecDepth 20000 in
theorem ggL_proven_X6_proven : GoodIn wsL_proven wsX6_proven := goodIn_ca (goodIn_r _ [7, 8, 9, 10, 11, 12, 13, 6, 14, 15, 16, 17, 18, 19, 20, 21, 22, 23, 24, 25, 26, 27, 28, 29, 30, 31, 32, 33, 34, 35, 36, 37, 38, 39, 40, 41, 42, 43, 44, 45, 46, 47, 48, 49, 50, 51, 52] (by decide +kernel) (by decide +kernel)) (goodIn_sub (fun _ h => List.mem_cons_of_mem _ (List.mem_append_right _ h)) (by decide +kernel))
set_option maxRecDepth 20000 in
theorem gL_proven_X6_proven : GoodIn wsL_proven (wsV RL 92 RX6 yX6_proven wsX6_proven) := goodIn_app (goodIn_of _ (by decide +kernel)) ggL_proven_X6_proven
theorem dL_proven_0 : decode cL_proven 0 = .ok (.aload_n 0, 1) := by decide +kernel
theorem dL_proven_1 : decode cL_proven 1 = .ok (.iload_n 1, 1) := by decide +kernel
theorem dL_proven_2 : decode cL_proven 2 = .ok (.iload_n 2, 1) := by decide +kernel
theorem dL_proven_3 : decode cL_proven 3 = .ok (.invokevirtual 92, 3) := by decide +kernel
theorem dL_proven_6 : decode cL_proven 6 = .ok (.ireturn, 1) := by decide +kernel
theorem dL_proven_7 : decode cL_proven 7 = .ok (.astore_n 3, 1) := by decide +kernel
theorem dL_proven_8 : decode cL_proven 8 = .ok (.ldc 15, 2) := by decide +kernel
theorem dL_proven_10 : decode cL_proven 10 = .ok (.ireturn, 1) := by decide +kernel
set_option maxRecDepth 20000 in
theorem ggL_balance_X6_balance : GoodIn wsL_balance wsX6_balance := goodIn_ca (goodIn_ca (goodIn_r _ [9, 10, 11, 12, 13, 8, 14, 15, 16, 17, 18, 19, 20, 21, 22, 23, 24, 25, 26, 27, 28, 29, 30, 31, 32, 33, 34, 35, 36, 37, 38, 39, 40, 41, 42, 43, 44, 45, 46, 47, 48, 49, 50, 51, 52, 53, 54, 55, 56, 57, 58, 59, 60, 61] (by decide +kernel) (by decide +kernel)) (goodIn_sub (fun _ h => List.mem_cons_of_mem _ (List.mem_append_left _ (List.mem_append_right _ h))) (by decide +kernel))) (goodIn_sub (fun _ h => List.mem_cons_of_mem _ (List.mem_append_right _ h)) (by decide +kernel))
set_option maxRecDepth 20000 in
theorem gL_balance_X6_balance : GoodIn wsL_balance (wsV RL 95 RX6 yX6_balance wsX6_balance) := goodIn_app (goodIn_of _ (by decide +kernel)) ggL_balance_X6_balance
theorem dL_balance_0 : decode cL_balance 0 = .ok (.aload_n 0, 1) := by decide +kernel
theorem dL_balance_1 : decode cL_balance 1 = .ok (.iload_n 1, 1) := by decide +kernel
theorem dL_balance_2 : decode cL_balance 2 = .ok (.iload_n 2, 1) := by decide +kernel
theorem dL_balance_3 : decode cL_balance 3 = .ok (.invokevirtual 95, 3) := by decide +kernel
theorem dL_balance_6 : decode cL_balance 6 = .ok (.ireturn, 1) := by decide +kernel
theorem dL_balance_7 : decode cL_balance 7 = .ok (.astore_n 3, 1) := by decide +kernel
theorem dL_balance_8 : decode cL_balance 8 = .ok (.ldc 15, 2) := by decide +kernel
theorem dL_balance_10 : decode cL_balance 10 = .ok (.ireturn, 1) := by decide +kernel
theorem dL_balance_11 : decode cL_balance 11 = .ok (.astore_n 3, 1) := by decide +kernel
theorem dL_balance_12 : decode cL_balance 12 = .ok (.ldc 18, 2) := by decide +kernel
theorem dL_balance_14 : decode cL_balance 14 = .ok (.ireturn, 1) := by decide +kernel
set_option maxRecDepth 20000 in
theorem ggL_byPages_X6_balanceByPages : GoodIn wsL_byPages wsX6_balanceByPages := goodIn_ca (goodIn_ca (goodIn_ca (goodIn_r _ [11, 12, 13, 14, 15, 16, 17, 18, 10, 19, 20, 21, 22, 23, 24, 25, 26, 27, 28, 29, 30, 31, 32, 33, 34, 35, 36, 37, 38, 39, 40, 41, 42, 43, 44, 45, 46, 47, 48, 49, 50, 51, 52, 53, 54, 55, 56, 57, 58, 59, 60, 61, 62, 63, 64, 65, 66, 67, 68, 69, 70, 71, 72, 73, 74, 75, 76, 77] (by decide +kernel) (by decide +kernel)) (goodIn_sub (fun _ h => List.mem_cons_of_mem _ (List.mem_append_left _ (List.mem_append_left _ (List.mem_append_right _ h)))) (by decide +kernel))) (goodIn_sub (fun _ h => List.mem_cons_of_mem _ (List.mem_append_left _ (List.mem_append_right _ h))) (by decide +kernel))) (goodIn_sub (fun _ h => List.mem_cons_of_mem _ (List.mem_append_right _ h)) (by decide +kernel))
set_option maxRecDepth 20000 in
theorem gL_byPages_X6_balanceByPages : GoodIn wsL_byPages (wsV RL 98 RX6 yX6_balanceByPages wsX6_balanceByPages) := goodIn_app (goodIn_of _ (by decide +kernel)) ggL_byPages_X6_balanceByPages
theorem dL_byPages_0 : decode cL_byPages 0 = .ok (.aload_n 0, 1) := by decide +kernel
theorem dL_byPages_1 : decode cL_byPages 1 = .ok (.iload_n 1, 1) := by decide +kernel
theorem dL_byPages_2 : decode cL_byPages 2 = .ok (.iload_n 2, 1) := by decide +kernel
theorem dL_byPages_3 : decode cL_byPages 3 = .ok (.invokevirtual 98, 3) := by decide +kernel
theorem dL_byPages_6 : decode cL_byPages 6 = .ok (.ireturn, 1) := by decide +kernel
theorem dL_byPages_7 : decode cL_byPages 7 = .ok (.astore_n 3, 1) := by decide +kernel
theorem dL_byPages_8 : decode cL_byPages 8 = .ok (.ldc 15, 2) := by decide +kernel
theorem dL_byPages_10 : decode cL_byPages 10 = .ok (.ireturn, 1) := by decide +kernel
theorem dL_byPages_11 : decode cL_byPages 11 = .ok (.astore_n 3, 1) := by decide +kernel
theorem dL_byPages_12 : decode cL_byPages 12 = .ok (.ldc 18, 2) := by decide +kernel
theorem dL_byPages_14 : decode cL_byPages 14 = .ok (.ireturn, 1) := by decide +kernel
theorem dL_byPages_15 : decode cL_byPages 15 = .ok (.astore_n 3, 1) := by decide +kernel
theorem dL_byPages_16 : decode cL_byPages 16 = .ok (.ldc 21, 2) := by decide +kernel
theorem dL_byPages_18 : decode cL_byPages 18 = .ok (.ireturn, 1) := by decide +kernel
set_option maxRecDepth 20000 in
theorem ggL_byCopies_X6_balanceByCopies : GoodIn wsL_byCopies wsX6_balanceByCopies := goodIn_ca (goodIn_ca (goodIn_ca (goodIn_r _ [11, 12, 13, 14, 15, 16, 17, 10, 18, 19, 20, 21, 22, 23, 24, 25, 26, 27, 28, 29, 30, 31, 32, 33, 34, 35, 36, 37, 38, 39, 40, 41, 42, 43, 44, 45, 46, 47, 48, 49, 50, 51, 52, 53, 54, 55, 56, 57, 58, 59, 60, 61, 62, 63, 64, 65, 66, 67, 68, 69, 70, 71, 72, 73, 74, 75, 76, 77, 78, 79, 80, 81, 82, 83, 84, 85, 86, 87, 88, 89, 90, 91, 92, 93, 94, 95, 96, 97, 98, 99, 100] (by decide +kernel) (by decide +kernel)) (goodIn_sub (fun _ h => List.mem_cons_of_mem _ (List.mem_append_left _ (List.mem_append_left _ (List.mem_append_right _ h)))) (by decide +kernel))) (goodIn_sub (fun _ h => List.mem_cons_of_mem _ (List.mem_append_left _ (List.mem_append_right _ h))) (by decide +kernel))) (goodIn_sub (fun _ h => List.mem_cons_of_mem _ (List.mem_append_right _ h)) (by decide +kernel))
set_option maxRecDepth 20000 in
theorem gL_byCopies_X6_balanceByCopies : GoodIn wsL_byCopies (wsV RL 101 RX6 yX6_balanceByCopies wsX6_balanceByCopies) := goodIn_app (goodIn_of _ (by decide +kernel)) ggL_byCopies_X6_balanceByCopies
theorem dL_byCopies_0 : decode cL_byCopies 0 = .ok (.aload_n 0, 1) := by decide +kernel
theorem dL_byCopies_1 : decode cL_byCopies 1 = .ok (.iload_n 1, 1) := by decide +kernel
theorem dL_byCopies_2 : decode cL_byCopies 2 = .ok (.iload_n 2, 1) := by decide +kernel
theorem dL_byCopies_3 : decode cL_byCopies 3 = .ok (.invokevirtual 101, 3) := by decide +kernel
theorem dL_byCopies_6 : decode cL_byCopies 6 = .ok (.ireturn, 1) := by decide +kernel
theorem dL_byCopies_7 : decode cL_byCopies 7 = .ok (.astore_n 3, 1) := by decide +kernel
theorem dL_byCopies_8 : decode cL_byCopies 8 = .ok (.ldc 15, 2) := by decide +kernel
theorem dL_byCopies_10 : decode cL_byCopies 10 = .ok (.ireturn, 1) := by decide +kernel
theorem dL_byCopies_11 : decode cL_byCopies 11 = .ok (.astore_n 3, 1) := by decide +kernel
theorem dL_byCopies_12 : decode cL_byCopies 12 = .ok (.ldc 18, 2) := by decide +kernel
theorem dL_byCopies_14 : decode cL_byCopies 14 = .ok (.ireturn, 1) := by decide +kernel
theorem dL_byCopies_15 : decode cL_byCopies 15 = .ok (.astore_n 3, 1) := by decide +kernel
theorem dL_byCopies_16 : decode cL_byCopies 16 = .ok (.ldc 21, 2) := by decide +kernel
theorem dL_byCopies_18 : decode cL_byCopies 18 = .ok (.ireturn, 1) := by decide +kernel
set_option maxRecDepth 20000 in
theorem ggL_size_X6_size : GoodIn wsL_size wsX6_size := goodIn_ca (goodIn_r _ [7, 8, 9, 10, 11, 12, 6, 13, 14, 15, 16, 17, 18, 19, 20, 21, 22, 23, 24, 25, 26, 27, 28, 29, 30, 31, 32, 33, 34, 35, 36] (by decide +kernel) (by decide +kernel)) (goodIn_sub (fun _ h => List.mem_cons_of_mem _ (List.mem_append_right _ h)) (by decide +kernel))
set_option maxRecDepth 20000 in
theorem gL_size_X6_size : GoodIn wsL_size (wsV RL 104 RX6 yX6_size wsX6_size) := goodIn_app (goodIn_of _ (by decide +kernel)) ggL_size_X6_size
theorem dL_size_0 : decode cL_size 0 = .ok (.aload_n 0, 1) := by decide +kernel
theorem dL_size_1 : decode cL_size 1 = .ok (.iload_n 1, 1) := by decide +kernel
theorem dL_size_2 : decode cL_size 2 = .ok (.invokevirtual 104, 3) := by decide +kernel
theorem dL_size_5 : decode cL_size 5 = .ok (.ireturn, 1) := by decide +kernel
theorem dL_size_6 : decode cL_size 6 = .ok (.astore_n 2, 1) := by decide +kernel
theorem dL_size_7 : decode cL_size 7 = .ok (.ldc 15, 2) := by decide +kernel
theorem dL_size_9 : decode cL_size 9 = .ok (.ireturn, 1) := by decide +kernel
set_option maxRecDepth 20000 in
theorem ggL_inVault_X6_isInVault : GoodIn wsL_inVault wsX6_isInVault := goodIn_ca (goodIn_r _ [7, 8, 9, 10, 11, 6, 12, 13, 14, 15, 16, 17, 18, 19, 20, 21, 22, 23, 24, 25, 26, 27, 28, 29, 30, 31, 32, 33, 34, 35] (by decide +kernel) (by decide +kernel)) (goodIn_sub (fun _ h => List.mem_cons_of_mem _ (List.mem_append_right _ h)) (by decide +kernel))
set_option maxRecDepth 20000 in
theorem gL_inVault_X6_isInVault : GoodIn wsL_inVault (wsV RL 107 RX6 yX6_isInVault wsX6_isInVault) := goodIn_app (goodIn_of _ (by decide +kernel)) ggL_inVault_X6_isInVault
theorem dL_inVault_0 : decode cL_inVault 0 = .ok (.aload_n 0, 1) := by decide +kernel
theorem dL_inVault_1 : decode cL_inVault 1 = .ok (.iload_n 1, 1) := by decide +kernel
theorem dL_inVault_2 : decode cL_inVault 2 = .ok (.invokevirtual 107, 3) := by decide +kernel
theorem dL_inVault_5 : decode cL_inVault 5 = .ok (.ifCond .eq 7, 3) := by decide +kernel
theorem dL_inVault_8 : decode cL_inVault 8 = .ok (.iconst 1, 1) := by decide +kernel
theorem dL_inVault_9 : decode cL_inVault 9 = .ok (.goto 4, 3) := by decide +kernel
theorem dL_inVault_12 : decode cL_inVault 12 = .ok (.iconst 0, 1) := by decide +kernel
theorem dL_inVault_13 : decode cL_inVault 13 = .ok (.ireturn, 1) := by decide +kernel
theorem dL_inVault_14 : decode cL_inVault 14 = .ok (.astore_n 2, 1) := by decide +kernel
theorem dL_inVault_15 : decode cL_inVault 15 = .ok (.ldc 15, 2) := by decide +kernel
theorem dL_inVault_17 : decode cL_inVault 17 = .ok (.ireturn, 1) := by decide +kernel
set_option maxRecDepth 20000 in
theorem ggL_stands_X6_stands : GoodIn wsL_stands wsX6_stands := goodIn_ca (goodIn_r _ [7, 8, 9, 10, 11, 6, 12, 13, 14, 15, 16, 17, 18, 19, 20, 21, 22, 23, 24, 25, 26, 27, 28, 29, 30, 31, 32, 33, 34, 35, 36, 37, 38, 39, 40, 41, 42, 43, 44, 45, 46, 47, 48] (by decide +kernel) (by decide +kernel)) (goodIn_sub (fun _ h => List.mem_cons_of_mem _ (List.mem_append_right _ h)) (by decide +kernel))
set_option maxRecDepth 20000 in
theorem gL_stands_X6_stands : GoodIn wsL_stands (wsV RL 110 RX6 yX6_stands wsX6_stands) := goodIn_app (goodIn_of _ (by decide +kernel)) ggL_stands_X6_stands
theorem dL_stands_0 : decode cL_stands 0 = .ok (.aload_n 0, 1) := by decide +kernel
theorem dL_stands_1 : decode cL_stands 1 = .ok (.iload_n 1, 1) := by decide +kernel
theorem dL_stands_2 : decode cL_stands 2 = .ok (.iload_n 2, 1) := by decide +kernel
theorem dL_stands_3 : decode cL_stands 3 = .ok (.invokevirtual 110, 3) := by decide +kernel
theorem dL_stands_6 : decode cL_stands 6 = .ok (.ifCond .eq 7, 3) := by decide +kernel
theorem dL_stands_9 : decode cL_stands 9 = .ok (.iconst 1, 1) := by decide +kernel
theorem dL_stands_10 : decode cL_stands 10 = .ok (.goto 4, 3) := by decide +kernel
theorem dL_stands_13 : decode cL_stands 13 = .ok (.iconst 0, 1) := by decide +kernel
theorem dL_stands_14 : decode cL_stands 14 = .ok (.ireturn, 1) := by decide +kernel
theorem dL_stands_15 : decode cL_stands 15 = .ok (.astore_n 3, 1) := by decide +kernel
theorem dL_stands_16 : decode cL_stands 16 = .ok (.ldc 15, 2) := by decide +kernel
theorem dL_stands_18 : decode cL_stands 18 = .ok (.ireturn, 1) := by decide +kernel
set_option maxRecDepth 20000 in
theorem ggL_copiesOf_X6_copiesOf : GoodIn wsL_copiesOf wsX6_copiesOf := goodIn_ca (goodIn_r _ [7, 8, 9, 10, 11, 6, 12, 13, 14, 15, 16, 17, 18, 19, 20, 21, 22, 23, 24, 25, 26, 27, 28, 29, 30, 31, 32, 33, 34, 35, 36, 37, 38, 39, 40, 41, 42, 43, 44, 45, 46, 47, 48, 49, 50, 51, 52, 53, 54, 55, 56] (by decide +kernel) (by decide +kernel)) (goodIn_sub (fun _ h => List.mem_cons_of_mem _ (List.mem_append_right _ h)) (by decide +kernel))
set_option maxRecDepth 20000 in
theorem gL_copiesOf_X6_copiesOf : GoodIn wsL_copiesOf (wsV RL 113 RX6 yX6_copiesOf wsX6_copiesOf) := goodIn_app (goodIn_of _ (by decide +kernel)) ggL_copiesOf_X6_copiesOf
theorem dL_copiesOf_0 : decode cL_copiesOf 0 = .ok (.aload_n 0, 1) := by decide +kernel
theorem dL_copiesOf_1 : decode cL_copiesOf 1 = .ok (.iload_n 1, 1) := by decide +kernel
theorem dL_copiesOf_2 : decode cL_copiesOf 2 = .ok (.invokevirtual 113, 3) := by decide +kernel
theorem dL_copiesOf_5 : decode cL_copiesOf 5 = .ok (.ireturn, 1) := by decide +kernel
theorem dL_copiesOf_6 : decode cL_copiesOf 6 = .ok (.astore_n 2, 1) := by decide +kernel
theorem dL_copiesOf_7 : decode cL_copiesOf 7 = .ok (.ldc 15, 2) := by decide +kernel
theorem dL_copiesOf_9 : decode cL_copiesOf 9 = .ok (.ireturn, 1) := by decide +kernel
set_option maxRecDepth 20000 in
theorem ggL_canRestore_X6_canRestore : GoodIn wsL_canRestore wsX6_canRestore := goodIn_ca (goodIn_r _ [7, 8, 9, 10, 6, 11, 12, 13, 14, 15, 16, 17, 18, 19, 20, 21, 22, 23, 24, 25, 26, 27, 28, 29, 30, 31, 32, 33, 34, 35, 36, 37, 38, 39, 40, 41] (by decide +kernel) (by decide +kernel)) (goodIn_sub (fun _ h => List.mem_cons_of_mem _ (List.mem_append_right _ h)) (by decide +kernel))
set_option maxRecDepth 20000 in
theorem gL_canRestore_X6_canRestore : GoodIn wsL_canRestore (wsV RL 116 RX6 yX6_canRestore wsX6_canRestore) := goodIn_app (goodIn_of _ (by decide +kernel)) ggL_canRestore_X6_canRestore
theorem dL_canRestore_0 : decode cL_canRestore 0 = .ok (.aload_n 0, 1) := by decide +kernel
theorem dL_canRestore_1 : decode cL_canRestore 1 = .ok (.iload_n 1, 1) := by decide +kernel
theorem dL_canRestore_2 : decode cL_canRestore 2 = .ok (.invokevirtual 116, 3) := by decide +kernel
theorem dL_canRestore_5 : decode cL_canRestore 5 = .ok (.ifCond .eq 7, 3) := by decide +kernel
theorem dL_canRestore_8 : decode cL_canRestore 8 = .ok (.iconst 1, 1) := by decide +kernel
theorem dL_canRestore_9 : decode cL_canRestore 9 = .ok (.goto 4, 3) := by decide +kernel
theorem dL_canRestore_12 : decode cL_canRestore 12 = .ok (.iconst 0, 1) := by decide +kernel
theorem dL_canRestore_13 : decode cL_canRestore 13 = .ok (.ireturn, 1) := by decide +kernel
theorem dL_canRestore_14 : decode cL_canRestore 14 = .ok (.astore_n 2, 1) := by decide +kernel
theorem dL_canRestore_15 : decode cL_canRestore 15 = .ok (.ldc 15, 2) := by decide +kernel
theorem dL_canRestore_17 : decode cL_canRestore 17 = .ok (.ireturn, 1) := by decide +kernel
set_option maxRecDepth 20000 in
theorem ggL_audit_X6_audit : GoodIn wsL_audit wsX6_audit := goodIn_ca (goodIn_r _ [7, 8, 9, 10, 11, 12, 13, 14, 15, 6, 16, 17, 18, 19, 20, 21, 22, 23, 24, 25, 26, 27, 28, 29, 30, 31, 32, 33, 34, 35, 36, 37, 38, 39, 40, 41, 42, 43, 44, 45, 46, 47, 48, 49, 50, 51, 52, 53, 54, 55, 56, 57, 58, 59, 60, 61, 62, 63] (by decide +kernel) (by decide +kernel)) (goodIn_sub (fun _ h => List.mem_cons_of_mem _ (List.mem_append_right _ h)) (by decide +kernel))
set_option maxRecDepth 20000 in
theorem gL_audit_X6_audit : GoodIn wsL_audit (wsV RL 119 RX6 yX6_audit wsX6_audit) := goodIn_app (goodIn_of _ (by decide +kernel)) ggL_audit_X6_audit
theorem dL_audit_0 : decode cL_audit 0 = .ok (.aload_n 0, 1) := by decide +kernel
theorem dL_audit_1 : decode cL_audit 1 = .ok (.iload_n 1, 1) := by decide +kernel
theorem dL_audit_2 : decode cL_audit 2 = .ok (.invokevirtual 119, 3) := by decide +kernel
theorem dL_audit_5 : decode cL_audit 5 = .ok (.ireturn, 1) := by decide +kernel
theorem dL_audit_6 : decode cL_audit 6 = .ok (.astore_n 2, 1) := by decide +kernel
theorem dL_audit_7 : decode cL_audit 7 = .ok (.ldc 15, 2) := by decide +kernel
theorem dL_audit_9 : decode cL_audit 9 = .ok (.ireturn, 1) := by decide +kernel
set_option maxRecDepth 20000 in
theorem ggL_isOpen_X6_isOpen : GoodIn wsL_isOpen wsX6_isOpen := goodIn_ca (goodIn_r _ [7, 8, 9, 10, 11, 12, 6, 13, 14, 15, 16, 17, 18, 19, 20, 21, 22, 23, 24, 25, 26, 27, 28, 29] (by decide +kernel) (by decide +kernel)) (goodIn_sub (fun _ h => List.mem_cons_of_mem _ (List.mem_append_right _ h)) (by decide +kernel))
set_option maxRecDepth 20000 in
theorem gL_isOpen_X6_isOpen : GoodIn wsL_isOpen (wsV RL 122 RX6 yX6_isOpen wsX6_isOpen) := goodIn_app (goodIn_of _ (by decide +kernel)) ggL_isOpen_X6_isOpen
theorem dL_isOpen_0 : decode cL_isOpen 0 = .ok (.aload_n 0, 1) := by decide +kernel
theorem dL_isOpen_1 : decode cL_isOpen 1 = .ok (.iload_n 1, 1) := by decide +kernel
theorem dL_isOpen_2 : decode cL_isOpen 2 = .ok (.invokevirtual 122, 3) := by decide +kernel
theorem dL_isOpen_5 : decode cL_isOpen 5 = .ok (.ifCond .eq 7, 3) := by decide +kernel
theorem dL_isOpen_8 : decode cL_isOpen 8 = .ok (.iconst 1, 1) := by decide +kernel
theorem dL_isOpen_9 : decode cL_isOpen 9 = .ok (.goto 4, 3) := by decide +kernel
theorem dL_isOpen_12 : decode cL_isOpen 12 = .ok (.iconst 0, 1) := by decide +kernel
theorem dL_isOpen_13 : decode cL_isOpen 13 = .ok (.ireturn, 1) := by decide +kernel
theorem dL_isOpen_14 : decode cL_isOpen 14 = .ok (.astore_n 2, 1) := by decide +kernel
theorem dL_isOpen_15 : decode cL_isOpen 15 = .ok (.ldc 15, 2) := by decide +kernel
theorem dL_isOpen_17 : decode cL_isOpen 17 = .ok (.ireturn, 1) := by decide +kernel
set_option maxRecDepth 20000 in
theorem ggL_holders_X6_holders : GoodIn wsL_holders wsX6_holders := goodIn_ca (goodIn_r _ [7, 8, 9, 10, 11, 12, 6, 13, 14, 15, 16, 17, 18, 19, 20, 21, 22, 23, 24, 25, 26, 27, 28, 29, 30, 31, 32, 33, 34, 35, 36, 37, 38, 39, 40, 41, 42, 43, 44, 45, 46, 47, 48, 49, 50, 51, 52, 53, 54, 55, 56, 57, 58, 59] (by decide +kernel) (by decide +kernel)) (goodIn_sub (fun _ h => List.mem_cons_of_mem _ (List.mem_append_right _ h)) (by decide +kernel))
set_option maxRecDepth 20000 in
theorem gL_holders_X6_holders : GoodIn wsL_holders (wsV RL 125 RX6 yX6_holders wsX6_holders) := goodIn_app (goodIn_of _ (by decide +kernel)) ggL_holders_X6_holders
theorem dL_holders_0 : decode cL_holders 0 = .ok (.aload_n 0, 1) := by decide +kernel
theorem dL_holders_1 : decode cL_holders 1 = .ok (.iload_n 1, 1) := by decide +kernel
theorem dL_holders_2 : decode cL_holders 2 = .ok (.invokevirtual 125, 3) := by decide +kernel
theorem dL_holders_5 : decode cL_holders 5 = .ok (.ireturn, 1) := by decide +kernel
theorem dL_holders_6 : decode cL_holders 6 = .ok (.astore_n 2, 1) := by decide +kernel
theorem dL_holders_7 : decode cL_holders 7 = .ok (.ldc 15, 2) := by decide +kernel
theorem dL_holders_9 : decode cL_holders 9 = .ok (.ireturn, 1) := by decide +kernel
set_option maxRecDepth 20000 in
theorem ggL_canStrike_X6_canStrike : GoodIn wsL_canStrike wsX6_canStrike := goodIn_ca (goodIn_r _ [7, 8, 9, 10, 11, 12, 6, 13, 14, 15, 16, 17, 18, 19, 20, 21, 22, 23, 24, 25, 26, 27, 28, 29, 30, 31, 32, 33, 34, 35, 36, 37, 38, 39, 40, 41, 42, 43, 44, 45, 46, 47, 48, 49, 50, 51, 52, 53, 54, 55, 56, 57, 58, 59, 60, 61, 62, 63, 64, 65, 66, 67, 68, 69, 70, 71, 72, 73, 74, 75, 76, 77, 78, 79, 80, 81, 82, 83, 84, 85, 86, 87] (by decide +kernel) (by decide +kernel)) (goodIn_sub (fun _ h => List.mem_cons_of_mem _ (List.mem_append_right _ h)) (by decide +kernel))
set_option maxRecDepth 20000 in
theorem gL_canStrike_X6_canStrike : GoodIn wsL_canStrike (wsV RL 128 RX6 yX6_canStrike wsX6_canStrike) := goodIn_app (goodIn_of _ (by decide +kernel)) ggL_canStrike_X6_canStrike
theorem dL_canStrike_0 : decode cL_canStrike 0 = .ok (.aload_n 0, 1) := by decide +kernel
theorem dL_canStrike_1 : decode cL_canStrike 1 = .ok (.iload_n 1, 1) := by decide +kernel
theorem dL_canStrike_2 : decode cL_canStrike 2 = .ok (.iload_n 2, 1) := by decide +kernel
theorem dL_canStrike_3 : decode cL_canStrike 3 = .ok (.invokevirtual 128, 3) := by decide +kernel
theorem dL_canStrike_6 : decode cL_canStrike 6 = .ok (.ifCond .eq 7, 3) := by decide +kernel
theorem dL_canStrike_9 : decode cL_canStrike 9 = .ok (.iconst 1, 1) := by decide +kernel
theorem dL_canStrike_10 : decode cL_canStrike 10 = .ok (.goto 4, 3) := by decide +kernel
theorem dL_canStrike_13 : decode cL_canStrike 13 = .ok (.iconst 0, 1) := by decide +kernel
theorem dL_canStrike_14 : decode cL_canStrike 14 = .ok (.ireturn, 1) := by decide +kernel
theorem dL_canStrike_15 : decode cL_canStrike 15 = .ok (.astore_n 3, 1) := by decide +kernel
theorem dL_canStrike_16 : decode cL_canStrike 16 = .ok (.ldc 15, 2) := by decide +kernel
theorem dL_canStrike_18 : decode cL_canStrike 18 = .ok (.ireturn, 1) := by decide +kernel
theorem dL_drawn_0 : decode cL_drawn 0 = .ok (.iload_n 1, 1) := by decide +kernel
theorem dL_drawn_1 : decode cL_drawn 1 = .ok (.aload_n 0, 1) := by decide +kernel
theorem dL_drawn_2 : decode cL_drawn 2 = .ok (.arraylength, 1) := by decide +kernel
theorem dL_drawn_3 : decode cL_drawn 3 = .ok (.if_icmp .ge 9, 3) := by decide +kernel
theorem dL_drawn_6 : decode cL_drawn 6 = .ok (.aload_n 0, 1) := by decide +kernel
theorem dL_drawn_7 : decode cL_drawn 7 = .ok (.iload_n 1, 1) := by decide +kernel
theorem dL_drawn_8 : decode cL_drawn 8 = .ok (.iaload, 1) := by decide +kernel
theorem dL_drawn_9 : decode cL_drawn 9 = .ok (.goto 13, 3) := by decide +kernel
theorem dL_drawn_12 : decode cL_drawn 12 = .ok (.ldc 131, 2) := by decide +kernel
theorem dL_drawn_14 : decode cL_drawn 14 = .ok (.iload_n 1, 1) := by decide +kernel
theorem dL_drawn_15 : decode cL_drawn 15 = .ok (.iconst 3, 1) := by decide +kernel
theorem dL_drawn_16 : decode cL_drawn 16 = .ok (.iadd, 1) := by decide +kernel
theorem dL_drawn_17 : decode cL_drawn 17 = .ok (.imul, 1) := by decide +kernel
theorem dL_drawn_18 : decode cL_drawn 18 = .ok (.sipush 14081, 3) := by decide +kernel
theorem dL_drawn_21 : decode cL_drawn 21 = .ok (.iadd, 1) := by decide +kernel
theorem dL_drawn_22 : decode cL_drawn 22 = .ok (.ldc 132, 2) := by decide +kernel
theorem dL_drawn_24 : decode cL_drawn 24 = .ok (.iand, 1) := by decide +kernel
theorem dL_drawn_25 : decode cL_drawn 25 = .ok (.ireturn, 1) := by decide +kernel
