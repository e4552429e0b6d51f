theorem dL_addExpression_0 : decode cL_addExpression 0 = .ok (.aload_n 2, 1) := by decide +kernel
theorem dL_addExpression_1 : decode cL_addExpression 1 = .ok (.iconst 0, 1) := by decide +kernel
theorem dL_addExpression_2 : decode cL_addExpression 2 = .ok (.aload_n 0, 1) := by decide +kernel
theorem dL_addExpression_3 : decode cL_addExpression 3 = .ok (.iload_n 1, 1) := by decide +kernel
theorem dL_addExpression_4 : decode cL_addExpression 4 = .ok (.invokevirtual 7, 3) := by decide +kernel
theorem dL_addExpression_7 : decode cL_addExpression 7 = .ok (.i2l, 1) := by decide +kernel
theorem dL_addExpression_8 : decode cL_addExpression 8 = .ok (.lastore, 1) := by decide +kernel
theorem dL_addExpression_9 : decode cL_addExpression 9 = .ok (.goto 9, 3) := by decide +kernel
theorem dL_addExpression_12 : decode cL_addExpression 12 = .ok (.astore_n 3, 1) := by decide +kernel
theorem dL_addExpression_13 : decode cL_addExpression 13 = .ok (.iconst 1, 1) := by decide +kernel
theorem dL_addExpression_14 : decode cL_addExpression 14 = .ok (.ireturn, 1) := by decide +kernel
theorem dL_addExpression_15 : decode cL_addExpression 15 = .ok (.astore_n 3, 1) := by decide +kernel
theorem dL_addExpression_16 : decode cL_addExpression 16 = .ok (.iconst 2, 1) := by decide +kernel
theorem dL_addExpression_17 : decode cL_addExpression 17 = .ok (.ireturn, 1) := by decide +kernel
theorem dL_addExpression_18 : decode cL_addExpression 18 = .ok (.iconst 0, 1) := by decide +kernel
theorem dL_addExpression_19 : decode cL_addExpression 19 = .ok (.ireturn, 1) := by decide +kernel
set_option maxRecDepth 20000 in
theorem ggL_addBlock_X3_addBlock : GoodIn wsL_addBlock wsX3_addBlock := goodIn_ca (goodIn_r _ [6, 7, 8, 9, 10, 11, 12, 13, 14, 15, 16, 17, 18, 19, 20, 21, 22, 23, 24, 25, 26, 27, 28, 29, 30, 31, 32] (by decide +kernel) (by decide +kernel)) (goodIn_sub (fun _ h => List.mem_cons_of_mem _ (List.mem_append_right _ h)) (by decide +kernel))
set_option maxRecDepth 20000 in
theorem gL_addBlock_X3_addBlock : GoodIn wsL_addBlock (wsV RL 17 RX3 yX3_addBlock wsX3_addBlock) := goodIn_app (goodIn_of _ (by decide +kernel)) ggL_addBlock_X3_addBlock
theorem dL_addBlock_0 : decode cL_addBlock 0 = .ok (.aload_n 1, 1) := by decide +kernel
theorem dL_addBlock_1 : decode cL_addBlock 1 = .ok (.iconst 0, 1) := by decide +kernel
theorem dL_addBlock_2 : decode cL_addBlock 2 = .ok (.aload_n 0, 1) := by decide +kernel
theorem dL_addBlock_3 : decode cL_addBlock 3 = .ok (.invokevirtual 17, 3) := by decide +kernel
theorem dL_addBlock_6 : decode cL_addBlock 6 = .ok (.i2l, 1) := by decide +kernel
theorem dL_addBlock_7 : decode cL_addBlock 7 = .ok (.lastore, 1) := by decide +kernel
theorem dL_addBlock_8 : decode cL_addBlock 8 = .ok (.goto 6, 3) := by decide +kernel
theorem dL_addBlock_11 : decode cL_addBlock 11 = .ok (.astore_n 2, 1) := by decide +kernel
theorem dL_addBlock_12 : decode cL_addBlock 12 = .ok (.iconst 1, 1) := by decide +kernel
theorem dL_addBlock_13 : decode cL_addBlock 13 = .ok (.ireturn, 1) := by decide +kernel
theorem dL_addBlock_14 : decode cL_addBlock 14 = .ok (.iconst 0, 1) := by decide +kernel
theorem dL_addBlock_15 : decode cL_addBlock 15 = .ok (.ireturn, 1) := by decide +kernel
set_option maxRecDepth 20000 in
theorem ggL_addEdge_X3_addEdge : GoodIn wsL_addEdge wsX3_addEdge := goodIn_ca (goodIn_ca (goodIn_ca (goodIn_r _ [8, 9, 10, 11, 12, 13, 14, 15, 16, 17, 18, 7, 19, 20, 21, 22, 23, 24, 25, 26, 27, 28, 29, 30, 31, 32, 33, 34, 35, 36, 37, 38, 39, 40, 41, 42, 43, 44, 45, 46, 47, 48, 49, 50, 51, 52] (by decide +kernel) (by decide +kernel)) (goodIn_sub (fun _ h => List.mem_cons_of_mem _ (List.mem_append_left _ (List.mem_append_left _ (List.mem_append_right _ h)))) (by decide +kernel))) (goodIn_sub (fun _ h => List.mem_cons_of_mem _ (List.mem_append_left _ (List.mem_append_right _ h))) (by decide +kernel))) (goodIn_sub (fun _ h => List.mem_cons_of_mem _ (List.mem_append_right _ h)) (by decide +kernel))
set_option maxRecDepth 20000 in
theorem gL_addEdge_X3_addEdge : GoodIn wsL_addEdge (wsV RL 21 RX3 yX3_addEdge wsX3_addEdge) := goodIn_app (goodIn_of _ (by decide +kernel)) ggL_addEdge_X3_addEdge
theorem dL_addEdge_0 : decode cL_addEdge 0 = .ok (.aload_n 3, 1) := by decide +kernel
theorem dL_addEdge_1 : decode cL_addEdge 1 = .ok (.iconst 0, 1) := by decide +kernel
theorem dL_addEdge_2 : decode cL_addEdge 2 = .ok (.aload_n 0, 1) := by decide +kernel
theorem dL_addEdge_3 : decode cL_addEdge 3 = .ok (.iload_n 1, 1) := by decide +kernel
theorem dL_addEdge_4 : decode cL_addEdge 4 = .ok (.iload_n 2, 1) := by decide +kernel
theorem dL_addEdge_5 : decode cL_addEdge 5 = .ok (.invokevirtual 21, 3) := by decide +kernel
theorem dL_addEdge_8 : decode cL_addEdge 8 = .ok (.i2l, 1) := by decide +kernel
theorem dL_addEdge_9 : decode cL_addEdge 9 = .ok (.lastore, 1) := by decide +kernel
theorem dL_addEdge_10 : decode cL_addEdge 10 = .ok (.goto 15, 3) := by decide +kernel
theorem dL_addEdge_13 : decode cL_addEdge 13 = .ok (.astore 4, 2) := by decide +kernel
theorem dL_addEdge_15 : decode cL_addEdge 15 = .ok (.iconst 1, 1) := by decide +kernel
theorem dL_addEdge_16 : decode cL_addEdge 16 = .ok (.ireturn, 1) := by decide +kernel
theorem dL_addEdge_17 : decode cL_addEdge 17 = .ok (.astore 4, 2) := by decide +kernel
theorem dL_addEdge_19 : decode cL_addEdge 19 = .ok (.iconst 2, 1) := by decide +kernel
theorem dL_addEdge_20 : decode cL_addEdge 20 = .ok (.ireturn, 1) := by decide +kernel
theorem dL_addEdge_21 : decode cL_addEdge 21 = .ok (.astore 4, 2) := by decide +kernel
theorem dL_addEdge_23 : decode cL_addEdge 23 = .ok (.iconst 3, 1) := by decide +kernel
theorem dL_addEdge_24 : decode cL_addEdge 24 = .ok (.ireturn, 1) := by decide +kernel
theorem dL_addEdge_25 : decode cL_addEdge 25 = .ok (.iconst 0, 1) := by decide +kernel
theorem dL_addEdge_26 : decode cL_addEdge 26 = .ok (.ireturn, 1) := by decide +kernel
set_option maxRecDepth 20000 in
theorem ggL_compute_X3_compute : GoodIn wsL_compute wsX3_compute := goodIn_ca (goodIn_ca (goodIn_r _ [7, 8, 9, 10, 11, 6, 12, 13, 14, 15, 16, 17, 18, 19, 20, 21, 22, 23, 24, 25, 26, 27, 28, 29, 30, 31, 32, 33, 34, 35, 36, 37, 38, 39, 40, 41, 42, 43, 44, 45, 46, 47, 48, 49, 50] (by decide +kernel) (by decide +kernel)) (goodIn_sub (fun _ h => List.mem_cons_of_mem _ (List.mem_append_left _ (List.mem_append_right _ h))) (by decide +kernel))) (goodIn_sub (fun _ h => List.mem_cons_of_mem _ (List.mem_append_right _ h)) (by decide +kernel))
set_option maxRecDepth 20000 in
theorem gL_compute_X3_compute : GoodIn wsL_compute (wsV RL 27 RX3 yX3_compute wsX3_compute) := goodIn_app (goodIn_of _ (by decide +kernel)) ggL_compute_X3_compute
theorem dL_compute_0 : decode cL_compute 0 = .ok (.aload_n 3, 1) := by decide +kernel
theorem dL_compute_1 : decode cL_compute 1 = .ok (.iconst 0, 1) := by decide +kernel
theorem dL_compute_2 : decode cL_compute 2 = .ok (.aload_n 0, 1) := by decide +kernel
theorem dL_compute_3 : decode cL_compute 3 = .ok (.iload_n 1, 1) := by decide +kernel
theorem dL_compute_4 : decode cL_compute 4 = .ok (.iload_n 2, 1) := by decide +kernel
theorem dL_compute_5 : decode cL_compute 5 = .ok (.invokevirtual 27, 3) := by decide +kernel
theorem dL_compute_8 : decode cL_compute 8 = .ok (.i2l, 1) := by decide +kernel
theorem dL_compute_9 : decode cL_compute 9 = .ok (.lastore, 1) := by decide +kernel
theorem dL_compute_10 : decode cL_compute 10 = .ok (.goto 11, 3) := by decide +kernel
theorem dL_compute_13 : decode cL_compute 13 = .ok (.astore 4, 2) := by decide +kernel
theorem dL_compute_15 : decode cL_compute 15 = .ok (.iconst 1, 1) := by decide +kernel
theorem dL_compute_16 : decode cL_compute 16 = .ok (.ireturn, 1) := by decide +kernel
theorem dL_compute_17 : decode cL_compute 17 = .ok (.astore 4, 2) := by decide +kernel
theorem dL_compute_19 : decode cL_compute 19 = .ok (.iconst 2, 1) := by decide +kernel
theorem dL_compute_20 : decode cL_compute 20 = .ok (.ireturn, 1) := by decide +kernel
theorem dL_compute_21 : decode cL_compute 21 = .ok (.iconst 0, 1) := by decide +kernel
theorem dL_compute_22 : decode cL_compute 22 = .ok (.ireturn, 1) := by decide +kernel
set_option maxRecDepth 20000 in
theorem ggL_use_X3_use : GoodIn wsL_use wsX3_use := goodIn_ca (goodIn_ca (goodIn_r _ [7, 8, 9, 10, 11, 6, 12, 13, 14, 15, 16, 17, 18, 19, 20, 21, 22, 23, 24, 25, 26, 27, 28, 29, 30, 31, 32, 33, 34, 35, 36, 37, 38, 39, 40, 41, 42, 43, 44, 45, 46, 47, 48, 49, 50] (by decide +kernel) (by decide +kernel)) (goodIn_sub (fun _ h => List.mem_cons_of_mem _ (List.mem_append_left _ (List.mem_append_right _ h))) (by decide +kernel))) (goodIn_sub (fun _ h => List.mem_cons_of_mem _ (List.mem_append_right _ h)) (by decide +kernel))
set_option maxRecDepth 20000 in
theorem gL_use_X3_use : GoodIn wsL_use (wsV RL 30 RX3 yX3_use wsX3_use) := goodIn_app (goodIn_of _ (by decide +kernel)) ggL_use_X3_use
theorem dL_use_0 : decode cL_use 0 = .ok (.aload_n 3, 1) := by decide +kernel
theorem dL_use_1 : decode cL_use 1 = .ok (.iconst 0, 1) := by decide +kernel
theorem dL_use_2 : decode cL_use 2 = .ok (.aload_n 0, 1) := by decide +kernel
theorem dL_use_3 : decode cL_use 3 = .ok (.iload_n 1, 1) := by decide +kernel
theorem dL_use_4 : decode cL_use 4 = .ok (.iload_n 2, 1) := by decide +kernel
theorem dL_use_5 : decode cL_use 5 = .ok (.invokevirtual 30, 3) := by decide +kernel
theorem dL_use_8 : decode cL_use 8 = .ok (.i2l, 1) := by decide +kernel
theorem dL_use_9 : decode cL_use 9 = .ok (.lastore, 1) := by decide +kernel
theorem dL_use_10 : decode cL_use 10 = .ok (.goto 11, 3) := by decide +kernel
theorem dL_use_13 : decode cL_use 13 = .ok (.astore 4, 2) := by decide +kernel
theorem dL_use_15 : decode cL_use 15 = .ok (.iconst 1, 1) := by decide +kernel
theorem dL_use_16 : decode cL_use 16 = .ok (.ireturn, 1) := by decide +kernel
theorem dL_use_17 : decode cL_use 17 = .ok (.astore 4, 2) := by decide +kernel
theorem dL_use_19 : decode cL_use 19 = .ok (.iconst 2, 1) := by decide +kernel
theorem dL_use_20 : decode cL_use 20 = .ok (.ireturn, 1) := by decide +kernel
theorem dL_use_21 : decode cL_use 21 = .ok (.iconst 0, 1) := by decide +kernel
theorem dL_use_22 : decode cL_use 22 = .ok (.ireturn, 1) := by decide +kernel
set_option maxRecDepth 20000 in
theorem ggL_assign_X3_assign : GoodIn wsL_assign wsX3_assign := goodIn_ca (goodIn_ca (goodIn_r _ [7, 8, 9, 10, 11, 12, 13, 6, 14, 15, 16, 17, 18, 19, 20, 21, 22, 23, 24, 25, 26, 27, 28, 29, 30, 31, 32, 33, 34, 35, 36, 37, 38, 39, 40, 41, 42, 43, 44, 45] (by decide +kernel) (by decide +kernel)) (goodIn_sub (fun _ h => List.mem_cons_of_mem _ (List.mem_append_left _ (List.mem_append_right _ h))) (by decide +kernel))) (goodIn_sub (fun _ h => List.mem_cons_of_mem _ (List.mem_append_right _ h)) (by decide +kernel))
set_option maxRecDepth 20000 in
theorem gL_assign_X3_assign : GoodIn wsL_assign (wsV RL 33 RX3 yX3_assign wsX3_assign) := goodIn_app (goodIn_of _ (by decide +kernel)) ggL_assign_X3_assign
theorem dL_assign_0 : decode cL_assign 0 = .ok (.aload_n 3, 1) := by decide +kernel
theorem dL_assign_1 : decode cL_assign 1 = .ok (.iconst 0, 1) := by decide +kernel
theorem dL_assign_2 : decode cL_assign 2 = .ok (.aload_n 0, 1) := by decide +kernel
theorem dL_assign_3 : decode cL_assign 3 = .ok (.iload_n 1, 1) := by decide +kernel
theorem dL_assign_4 : decode cL_assign 4 = .ok (.iload_n 2, 1) := by decide +kernel
theorem dL_assign_5 : decode cL_assign 5 = .ok (.invokevirtual 33, 3) := by decide +kernel
theorem dL_assign_8 : decode cL_assign 8 = .ok (.i2l, 1) := by decide +kernel
theorem dL_assign_9 : decode cL_assign 9 = .ok (.lastore, 1) := by decide +kernel
theorem dL_assign_10 : decode cL_assign 10 = .ok (.goto 11, 3) := by decide +kernel
theorem dL_assign_13 : decode cL_assign 13 = .ok (.astore 4, 2) := by decide +kernel
theorem dL_assign_15 : decode cL_assign 15 = .ok (.iconst 1, 1) := by decide +kernel
theorem dL_assign_16 : decode cL_assign 16 = .ok (.ireturn, 1) := by decide +kernel
theorem dL_assign_17 : decode cL_assign 17 = .ok (.astore 4, 2) := by decide +kernel
theorem dL_assign_19 : decode cL_assign 19 = .ok (.iconst 2, 1) := by decide +kernel
theorem dL_assign_20 : decode cL_assign 20 = .ok (.ireturn, 1) := by decide +kernel
theorem dL_assign_21 : decode cL_assign 21 = .ok (.iconst 0, 1) := by decide +kernel
theorem dL_assign_22 : decode cL_assign 22 = .ok (.ireturn, 1) := by decide +kernel
set_option maxRecDepth 20000 in
theorem ggL_drop_X3_drop : GoodIn wsL_drop wsX3_drop := goodIn_ca (goodIn_ca (goodIn_r _ [7, 8, 9, 10, 11, 12, 13, 14, 6, 15, 16, 17, 18, 19, 20, 21, 22, 23, 24, 25, 26, 27, 28, 29, 30, 31, 32, 33, 34, 35, 36, 37, 38, 39, 40] (by decide +kernel) (by decide +kernel)) (goodIn_sub (fun _ h => List.mem_cons_of_mem _ (List.mem_append_left _ (List.mem_append_right _ h))) (by decide +kernel))) (goodIn_sub (fun _ h => List.mem_cons_of_mem _ (List.mem_append_right _ h)) (by decide +kernel))
set_option maxRecDepth 20000 in
theorem gL_drop_X3_drop : GoodIn wsL_drop (wsV RL 36 RX3 yX3_drop wsX3_drop) := goodIn_app (goodIn_of _ (by decide +kernel)) ggL_drop_X3_drop
theorem dL_drop_0 : decode cL_drop 0 = .ok (.aload_n 2, 1) := by decide +kernel
theorem dL_drop_1 : decode cL_drop 1 = .ok (.iconst 0, 1) := by decide +kernel
theorem dL_drop_2 : decode cL_drop 2 = .ok (.aload_n 0, 1) := by decide +kernel
theorem dL_drop_3 : decode cL_drop 3 = .ok (.iload_n 1, 1) := by decide +kernel
theorem dL_drop_4 : decode cL_drop 4 = .ok (.invokevirtual 36, 3) := by decide +kernel
theorem dL_drop_7 : decode cL_drop 7 = .ok (.i2l, 1) := by decide +kernel
theorem dL_drop_8 : decode cL_drop 8 = .ok (.lastore, 1) := by decide +kernel
theorem dL_drop_9 : decode cL_drop 9 = .ok (.goto 9, 3) := by decide +kernel
theorem dL_drop_12 : decode cL_drop 12 = .ok (.astore_n 3, 1) := by decide +kernel
theorem dL_drop_13 : decode cL_drop 13 = .ok (.iconst 1, 1) := by decide +kernel
theorem dL_drop_14 : decode cL_drop 14 = .ok (.ireturn, 1) := by decide +kernel
theorem dL_drop_15 : decode cL_drop 15 = .ok (.astore_n 3, 1) := by decide +kernel
theorem dL_drop_16 : decode cL_drop 16 = .ok (.iconst 2, 1) := by decide +kernel
theorem dL_drop_17 : decode cL_drop 17 = .ok (.ireturn, 1) := by decide +kernel
theorem dL_drop_18 : decode cL_drop 18 = .ok (.iconst 0, 1) := by decide +kernel
theorem dL_drop_19 : decode cL_drop 19 = .ok (.ireturn, 1) := by decide +kernel
set_option maxRecDepth 20000 in
theorem ggL_size_X3_size : GoodIn wsL_size wsX3_size := goodIn_ca (goodIn_r _ [6, 7, 8, 9, 10, 11, 5, 12, 13, 14, 15, 16, 17, 18, 19, 20, 21, 22, 23, 24, 25, 26, 27, 28, 29, 30] (by decide +kernel) (by decide +kernel)) (goodIn_sub (fun _ h => List.mem_cons_of_mem _ (List.mem_append_right _ h)) (by decide +kernel))
set_option maxRecDepth 20000 in
theorem gL_size_X3_size : GoodIn wsL_size (wsV RL 39 RX3 yX3_size wsX3_size) := goodIn_app (goodIn_of _ (by decide +kernel)) ggL_size_X3_size
theorem dL_size_0 : decode cL_size 0 = .ok (.aload_n 2, 1) := by decide +kernel
theorem dL_size_1 : decode cL_size 1 = .ok (.iconst 0, 1) := by decide +kernel
theorem dL_size_2 : decode cL_size 2 = .ok (.aload_n 0, 1) := by decide +kernel
theorem dL_size_3 : decode cL_size 3 = .ok (.iload_n 1, 1) := by decide +kernel
theorem dL_size_4 : decode cL_size 4 = .ok (.invokevirtual 39, 3) := by decide +kernel
theorem dL_size_7 : decode cL_size 7 = .ok (.i2l, 1) := by decide +kernel
theorem dL_size_8 : decode cL_size 8 = .ok (.lastore, 1) := by decide +kernel
theorem dL_size_9 : decode cL_size 9 = .ok (.goto 6, 3) := by decide +kernel
theorem dL_size_12 : decode cL_size 12 = .ok (.astore_n 3, 1) := by decide +kernel
theorem dL_size_13 : decode cL_size 13 = .ok (.iconst 1, 1) := by decide +kernel
theorem dL_size_14 : decode cL_size 14 = .ok (.ireturn, 1) := by decide +kernel
theorem dL_size_15 : decode cL_size 15 = .ok (.iconst 0, 1) := by decide +kernel
theorem dL_size_16 : decode cL_size 16 = .ok (.ireturn, 1) := by decide +kernel
set_option maxRecDepth 20000 in
theorem ggL_instruction_X3_instruction : GoodIn wsL_instruction wsX3_instruction := goodIn_ca (goodIn_r _ [6, 7, 8, 9, 10, 11, 12, 13, 5, 14, 15, 16, 17, 18, 19, 20, 21, 22, 23, 24, 25, 26, 27, 28, 29, 30, 31, 32, 33, 34, 35, 36] (by decide +kernel) (by decide +kernel)) (goodIn_sub (fun _ h => List.mem_cons_of_mem _ (List.mem_append_right _ h)) (by decide +kernel))
set_option maxRecDepth 20000 in
theorem gL_instruction_X3_instruction : GoodIn wsL_instruction (wsV RL 42 RX3 yX3_instruction wsX3_instruction) := goodIn_app (goodIn_of _ (by decide +kernel)) ggL_instruction_X3_instruction
theorem dL_instruction_0 : decode cL_instruction 0 = .ok (.aload_n 3, 1) := by decide +kernel
theorem dL_instruction_1 : decode cL_instruction 1 = .ok (.iconst 0, 1) := by decide +kernel
theorem dL_instruction_2 : decode cL_instruction 2 = .ok (.aload_n 0, 1) := by decide +kernel
theorem dL_instruction_3 : decode cL_instruction 3 = .ok (.iload_n 1, 1) := by decide +kernel
theorem dL_instruction_4 : decode cL_instruction 4 = .ok (.iload_n 2, 1) := by decide +kernel
theorem dL_instruction_5 : decode cL_instruction 5 = .ok (.invokevirtual 42, 3) := by decide +kernel
theorem dL_instruction_8 : decode cL_instruction 8 = .ok (.i2l, 1) := by decide +kernel
theorem dL_instruction_9 : decode cL_instruction 9 = .ok (.lastore, 1) := by decide +kernel
theorem dL_instruction_10 : decode cL_instruction 10 = .ok (.goto 7, 3) := by decide +kernel
theorem dL_instruction_13 : decode cL_instruction 13 = .ok (.astore 4, 2) := by decide +kernel
theorem dL_instruction_15 : decode cL_instruction 15 = .ok (.iconst 1, 1) := by decide +kernel
theorem dL_instruction_16 : decode cL_instruction 16 = .ok (.ireturn, 1) := by decide +kernel
theorem dL_instruction_17 : decode cL_instruction 17 = .ok (.iconst 0, 1) := by decide +kernel
theorem dL_instruction_18 : decode cL_instruction 18 = .ok (.ireturn, 1) := by decide +kernel
set_option maxRecDepth 20000 in
theorem ggL_ends_X3_ends : GoodIn wsL_ends wsX3_ends := goodIn_ca (goodIn_r _ [6, 7, 8, 9, 10, 5, 11, 12, 13, 14, 15, 16, 17, 18, 19, 20, 21, 22, 23, 24, 25, 26, 27, 28, 29, 30, 31, 32, 33, 34, 35, 36] (by decide +kernel) (by decide +kernel)) (goodIn_sub (fun _ h => List.mem_cons_of_mem _ (List.mem_append_right _ h)) (by decide +kernel))
set_option maxRecDepth 20000 in
theorem gL_ends_X3_ends : GoodIn wsL_ends (wsV RL 45 RX3 yX3_ends wsX3_ends) := goodIn_app (goodIn_of _ (by decide +kernel)) ggL_ends_X3_ends
theorem dL_ends_0 : decode cL_ends 0 = .ok (.aload_n 2, 1) := by decide +kernel
theorem dL_ends_1 : decode cL_ends 1 = .ok (.iconst 0, 1) := by decide +kernel
theorem dL_ends_2 : decode cL_ends 2 = .ok (.aload_n 0, 1) := by decide +kernel
theorem dL_ends_3 : decode cL_ends 3 = .ok (.iload_n 1, 1) := by decide +kernel
theorem dL_ends_4 : decode cL_ends 4 = .ok (.invokevirtual 45, 3) := by decide +kernel
theorem dL_ends_7 : decode cL_ends 7 = .ok (.i2l, 1) := by decide +kernel
theorem dL_ends_8 : decode cL_ends 8 = .ok (.lastore, 1) := by decide +kernel
theorem dL_ends_9 : decode cL_ends 9 = .ok (.goto 6, 3) := by decide +kernel
theorem dL_ends_12 : decode cL_ends 12 = .ok (.astore_n 3, 1) := by decide +kernel
theorem dL_ends_13 : decode cL_ends 13 = .ok (.iconst 1, 1) := by decide +kernel
theorem dL_ends_14 : decode cL_ends 14 = .ok (.ireturn, 1) := by decide +kernel
theorem dL_ends_15 : decode cL_ends 15 = .ok (.iconst 0, 1) := by decide +kernel
theorem dL_ends_16 : decode cL_ends 16 = .ok (.ireturn, 1) := by decide +kernel
set_option maxRecDepth 20000 in
theorem ggL_kept_X3_kept : GoodIn wsL_kept wsX3_kept := goodIn_ca (goodIn_r _ [6, 7, 8, 9, 10, 11, 5, 12, 13, 14, 15, 16, 17, 18, 19, 20, 21, 22, 23, 24, 25, 26, 27, 28, 29, 30, 31, 32, 33, 34, 35, 36, 37, 38, 39, 40, 41, 42, 43, 44, 45, 46, 47, 48, 49, 50, 51, 52, 53, 54, 55, 56, 57, 58, 59, 60, 61, 62, 63, 64, 65, 66, 67, 68, 69, 70, 71, 72, 73, 74, 75, 76, 77, 78, 79, 80, 81, 82, 83, 84, 85, 86, 87, 88, 89, 90, 91, 92, 93, 94, 95, 96, 97, 98, 99, 100, 101, 102, 103, 104, 105, 106, 107, 108, 109, 110, 111, 112, 113, 114, 115, 116, 117, 118, 119, 120, 121, 122, 123, 124, 125, 126, 127, 128, 129, 130, 131, 132, 133] (by decide +kernel) (by decide +kernel)) (goodIn_sub (fun _ h => List.mem_cons_of_mem _ (List.mem_append_right _ h)) (by decide +kernel))
set_option maxRecDepth 20000 in
theorem gL_kept_X3_kept : GoodIn wsL_kept (wsV RL 48 RX3 yX3_kept wsX3_kept) := goodIn_app (goodIn_of _ (by decide +kernel)) ggL_kept_X3_kept
theorem dL_kept_0 : decode cL_kept 0 = .ok (.aload_n 2, 1) := by decide +kernel
theorem dL_kept_1 : decode cL_kept 1 = .ok (.iconst 0, 1) := by decide +kernel
theorem dL_kept_2 : decode cL_kept 2 = .ok (.aload_n 0, 1) := by decide +kernel
theorem dL_kept_3 : decode cL_kept 3 = .ok (.iload_n 1, 1) := by decide +kernel
theorem dL_kept_4 : decode cL_kept 4 = .ok (.invokevirtual 48, 3) := by decide +kernel
theorem dL_kept_7 : decode cL_kept 7 = .ok (.i2l, 1) := by decide +kernel
theorem dL_kept_8 : decode cL_kept 8 = .ok (.lastore, 1) := by decide +kernel
theorem dL_kept_9 : decode cL_kept 9 = .ok (.goto 6, 3) := by decide +kernel
theorem dL_kept_12 : decode cL_kept 12 = .ok (.astore_n 3, 1) := by decide +kernel
theorem dL_kept_13 : decode cL_kept 13 = .ok (.iconst 1, 1) := by decide +kernel
theorem dL_kept_14 : decode cL_kept 14 = .ok (.ireturn, 1) := by decide +kernel
theorem dL_kept_15 : decode cL_kept 15 = .ok (.iconst 0, 1) := by decide +kernel
theorem dL_kept_16 : decode cL_kept 16 = .ok (.ireturn, 1) := by decide +kernel
set_option maxRecDepth 20000 in
theorem ggL_early_X3_early : GoodIn wsL_early wsX3_early := goodIn_ca (goodIn_r _ [6, 7, 8, 9, 10, 11, 5, 12, 13, 14, 15, 16, 17, 18, 19, 20, 21, 22, 23, 24, 25, 26, 27, 28, 29, 30, 31, 32, 33, 34, 35, 36, 37, 38, 39, 40, 41, 42, 43, 44, 45, 46, 47, 48, 49, 50, 51, 52, 53, 54, 55, 56, 57, 58, 59, 60, 61, 62, 63, 64, 65, 66, 67, 68, 69, 70, 71, 72, 73, 74, 75, 76, 77, 78, 79, 80, 81, 82, 83, 84, 85, 86, 87, 88, 89, 90, 91, 92, 93, 94, 95, 96, 97, 98, 99, 100, 101, 102, 103, 104, 105, 106, 107, 108, 109, 110, 111, 112, 113, 114, 115, 116, 117, 118, 119, 120, 121, 122, 123, 124, 125, 126, 127, 128, 129, 130, 131, 132, 133] (by decide +kernel) (by decide +kernel)) (goodIn_sub (fun _ h => List.mem_cons_of_mem _ (List.mem_append_right _ h)) (by decide +kernel))
set_option maxRecDepth 20000 in
theorem gL_early_X3_early : GoodIn wsL_early (wsV RL 51 RX3 yX3_early wsX3_early) := goodIn_app (goodIn_of _ (by decide +kernel)) ggL_early_X3_early
theorem dL_early_0 : decode cL_early 0 = .ok (.aload_n 2, 1) := by decide +kernel
theorem dL_early_1 : decode cL_early 1 = .ok (.iconst 0, 1) := by decide +kernel
theorem dL_early_2 : decode cL_early 2 = .ok (.aload_n 0, 1) := by decide +kernel
theorem dL_early_3 : decode cL_early 3 = .ok (.iload_n 1, 1) := by decide +kernel
theorem dL_early_4 : decode cL_early 4 = .ok (.invokevirtual 51, 3) := by decide +kernel
theorem dL_early_7 : decode cL_early 7 = .ok (.i2l, 1) := by decide +kernel
theorem dL_early_8 : decode cL_early 8 = .ok (.lastore, 1) := by decide +kernel
theorem dL_early_9 : decode cL_early 9 = .ok (.goto 6, 3) := by decide +kernel
theorem dL_early_12 : decode cL_early 12 = .ok (.astore_n 3, 1) := by decide +kernel
theorem dL_early_13 : decode cL_early 13 = .ok (.iconst 1, 1) := by decide +kernel
theorem dL_early_14 : decode cL_early 14 = .ok (.ireturn, 1) := by decide +kernel
theorem dL_early_15 : decode cL_early 15 = .ok (.iconst 0, 1) := by decide +kernel
theorem dL_early_16 : decode cL_early 16 = .ok (.ireturn, 1) := by decide +kernel
set_option maxRecDepth 20000 in
theorem ggL_late_X3_late : GoodIn wsL_late wsX3_late := goodIn_ca (goodIn_r _ [6, 7, 8, 9, 10, 11, 5, 12, 13, 14, 15, 16, 17, 18, 19, 20, 21, 22, 23, 24, 25, 26, 27, 28, 29, 30, 31, 32, 33, 34, 35, 36, 37, 38, 39, 40, 41, 42, 43, 44, 45, 46, 47, 48, 49, 50, 51, 52, 53, 54, 55, 56, 57, 58, 59, 60, 61, 62, 63, 64, 65, 66, 67, 68, 69, 70, 71, 72, 73, 74, 75, 76, 77, 78, 79, 80, 81, 82, 83, 84, 85, 86, 87, 88, 89, 90, 91, 92, 93, 94, 95, 96, 97, 98, 99, 100, 101, 102, 103, 104, 105, 106, 107, 108, 109, 110, 111, 112, 113, 114, 115, 116, 117, 118, 119, 120, 121, 122, 123, 124, 125, 126, 127, 128, 129, 130, 131, 132, 133] (by decide +kernel) (by decide +kernel)) (goodIn_sub (fun _ h => List.mem_cons_of_mem _ (List.mem_append_right _ h)) (by decide +kernel))
set_option maxRecDepth 20000 in
theorem gL_late_X3_late : GoodIn wsL_late (wsV RL 54 RX3 yX3_late wsX3_late) := goodIn_app (goodIn_of _ (by decide +kernel)) ggL_late_X3_late
theorem dL_late_0 : decode cL_late 0 = .ok (.aload_n 2, 1) := by decide +kernel
theorem dL_late_1 : decode cL_late 1 = .ok (.iconst 0, 1) := by decide +kernel
theorem dL_late_2 : decode cL_late 2 = .ok (.aload_n 0, 1) := by decide +kernel
theorem dL_late_3 : decode cL_late 3 = .ok (.iload_n 1, 1) := by decide +kernel
theorem dL_late_4 : decode cL_late 4 = .ok (.invokevirtual 54, 3) := by decide +kernel
theorem dL_late_7 : decode cL_late 7 = .ok (.i2l, 1) := by decide +kernel
theorem dL_late_8 : decode cL_late 8 = .ok (.lastore, 1) := by decide +kernel
theorem dL_late_9 : decode cL_late 9 = .ok (.goto 6, 3) := by decide +kernel
theorem dL_late_12 : decode cL_late 12 = .ok (.astore_n 3, 1) := by decide +kernel
theorem dL_late_13 : decode cL_late 13 = .ok (.iconst 1, 1) := by decide +kernel
theorem dL_late_14 : decode cL_late 14 = .ok (.ireturn, 1) := by decide +kernel
theorem dL_late_15 : decode cL_late 15 = .ok (.iconst 0, 1) := by decide +kernel
theorem dL_late_16 : decode cL_late 16 = .ok (.ireturn, 1) := by decide +kernel
set_option maxRecDepth 20000 in
theorem ggL_needed_X3_needed : GoodIn wsL_needed wsX3_needed := goodIn_ca (goodIn_r _ [6, 7, 8, 9, 10, 11, 12, 5, 13, 14, 15, 16, 17, 18, 19, 20, 21, 22, 23, 24, 25, 26, 27, 28, 29, 30, 31, 32, 33, 34, 35, 36, 37, 38, 39, 40, 41, 42, 43, 44, 45, 46, 47, 48, 49, 50, 51, 52, 53, 54, 55, 56, 57, 58, 59, 60, 61, 62, 63, 64, 65, 66, 67, 68, 69, 70, 71, 72, 73, 74, 75, 76, 77, 78, 79, 80, 81, 82, 83, 84, 85, 86, 87, 88, 89, 90, 91, 92, 93, 94, 95, 96, 97, 98, 99, 100, 101, 102, 103, 104, 105, 106, 107, 108, 109, 110, 111, 112, 113, 114, 115, 116, 117, 118, 119, 120, 121, 122, 123, 124, 125, 126, 127, 128, 129, 130, 131, 132, 133, 134] (by decide +kernel) (by decide +kernel)) (goodIn_sub (fun _ h => List.mem_cons_of_mem _ (List.mem_append_right _ h)) (by decide +kernel))
set_option maxRecDepth 20000 in
theorem gL_needed_X3_needed : GoodIn wsL_needed (wsV RL 57 RX3 yX3_needed wsX3_needed) := goodIn_app (goodIn_of _ (by decide +kernel)) ggL_needed_X3_needed
theorem dL_needed_0 : decode cL_needed 0 = .ok (.aload_n 3, 1) := by decide +kernel
theorem dL_needed_1 : decode cL_needed 1 = .ok (.iconst 0, 1) := by decide +kernel
theorem dL_needed_2 : decode cL_needed 2 = .ok (.aload_n 0, 1) := by decide +kernel
theorem dL_needed_3 : decode cL_needed 3 = .ok (.iload_n 1, 1) := by decide +kernel
theorem dL_needed_4 : decode cL_needed 4 = .ok (.iload_n 2, 1) := by decide +kernel
theorem dL_needed_5 : decode cL_needed 5 = .ok (.invokevirtual 57, 3) := by decide +kernel
theorem dL_needed_8 : decode cL_needed 8 = .ok (.i2l, 1) := by decide +kernel
theorem dL_needed_9 : decode cL_needed 9 = .ok (.lastore, 1) := by decide +kernel
theorem dL_needed_10 : decode cL_needed 10 = .ok (.goto 7, 3) := by decide +kernel
theorem dL_needed_13 : decode cL_needed 13 = .ok (.astore 4, 2) := by decide +kernel
theorem dL_needed_15 : decode cL_needed 15 = .ok (.iconst 1, 1) := by decide +kernel
theorem dL_needed_16 : decode cL_needed 16 = .ok (.ireturn, 1) := by decide +kernel
theorem dL_needed_17 : decode cL_needed 17 = .ok (.iconst 0, 1) := by decide +kernel
theorem dL_needed_18 : decode cL_needed 18 = .ok (.ireturn, 1) := by decide +kernel
set_option maxRecDepth 20000 in
theorem ggL_there_X3_there : GoodIn wsL_there wsX3_there := goodIn_ca (goodIn_r _ [6, 7, 8, 9, 10, 11, 12, 5, 13, 14, 15, 16, 17, 18, 19, 20, 21, 22, 23, 24, 25, 26, 27, 28, 29, 30, 31, 32, 33, 34, 35, 36, 37, 38, 39, 40, 41, 42, 43, 44, 45, 46, 47, 48, 49, 50, 51, 52, 53, 54, 55, 56, 57, 58, 59, 60, 61, 62, 63, 64, 65, 66, 67, 68, 69, 70, 71, 72, 73, 74, 75, 76, 77, 78, 79, 80, 81, 82, 83, 84, 85, 86, 87, 88, 89, 90, 91, 92, 93, 94, 95, 96, 97, 98, 99, 100, 101, 102, 103, 104, 105, 106, 107, 108, 109, 110, 111, 112, 113, 114, 115, 116, 117, 118, 119, 120, 121, 122, 123, 124, 125, 126, 127, 128, 129, 130, 131, 132, 133, 134] (by decide +kernel) (by decide +kernel)) (goodIn_sub (fun _ h => List.mem_cons_of_mem _ (List.mem_append_right _ h)) (by decide +kernel))
set_option maxRecDepth 20000 in
theorem gL_there_X3_there : GoodIn wsL_there (wsV RL 61 RX3 yX3_there wsX3_there) := goodIn_app (goodIn_of _ (by decide +kernel)) ggL_there_X3_there
theorem dL_there_0 : decode cL_there 0 = .ok (.aload_n 3, 1) := by decide +kernel
theorem dL_there_1 : decode cL_there 1 = .ok (.iconst 0, 1) := by decide +kernel
theorem dL_there_2 : decode cL_there 2 = .ok (.aload_n 0, 1) := by decide +kernel
theorem dL_there_3 : decode cL_there 3 = .ok (.iload_n 1, 1) := by decide +kernel
theorem dL_there_4 : decode cL_there 4 = .ok (.iload_n 2, 1) := by decide +kernel
theorem dL_there_5 : decode cL_there 5 = .ok (.invokevirtual 61, 3) := by decide +kernel
theorem dL_there_8 : decode cL_there 8 = .ok (.i2l, 1) := by decide +kernel
theorem dL_there_9 : decode cL_there 9 = .ok (.lastore, 1) := by decide +kernel
theorem dL_there_10 : decode cL_there 10 = .ok (.goto 7, 3) := by decide +kernel
theorem dL_there_13 : decode cL_there 13 = .ok (.astore 4, 2) := by decide +kernel
theorem dL_there_15 : decode cL_there 15 = .ok (.iconst 1, 1) := by decide +kernel
theorem dL_there_16 : decode cL_there 16 = .ok (.ireturn, 1) := by decide +kernel
theorem dL_there_17 : decode cL_there 17 = .ok (.iconst 0, 1) := by decide +kernel
theorem dL_there_18 : decode cL_there 18 = .ok (.ireturn, 1) := by decide +kernel
set_option maxRecDepth 20000 in
theorem ggL_earliest_X3_earliest : GoodIn wsL_earliest wsX3_earliest := goodIn_ca (goodIn_r _ [6, 7, 8, 9, 10, 11, 5, 12, 13, 14, 15, 16, 17, 18, 19, 20, 21, 22, 23, 24, 25, 26, 27, 28, 29, 30, 31, 32, 33, 34, 35, 36, 37, 38, 39, 40, 41, 42, 43, 44, 45, 46, 47, 48, 49, 50, 51, 52, 53, 54, 55, 56, 57, 58, 59, 60, 61, 62, 63, 64, 65, 66, 67, 68, 69, 70, 71, 72, 73, 74, 75, 76, 77, 78, 79, 80, 81, 82, 83, 84, 85, 86, 87, 88, 89, 90, 91, 92, 93, 94, 95, 96, 97, 98, 99, 100, 101, 102, 103, 104, 105, 106, 107, 108, 109, 110, 111, 112, 113, 114, 115, 116, 117, 118, 119, 120, 121, 122, 123, 124, 125, 126, 127, 128, 129, 130, 131, 132, 133] (by decide +kernel) (by decide +kernel)) (goodIn_sub (fun _ h => List.mem_cons_of_mem _ (List.mem_append_right _ h)) (by decide +kernel))
set_option maxRecDepth 20000 in
theorem gL_earliest_X3_earliest : GoodIn wsL_earliest (wsV RL 64 RX3 yX3_earliest wsX3_earliest) := goodIn_app (goodIn_of _ (by decide +kernel)) ggL_earliest_X3_earliest
theorem dL_earliest_0 : decode cL_earliest 0 = .ok (.aload_n 2, 1) := by decide +kernel
theorem dL_earliest_1 : decode cL_earliest 1 = .ok (.iconst 0, 1) := by decide +kernel
theorem dL_earliest_2 : decode cL_earliest 2 = .ok (.aload_n 0, 1) := by decide +kernel
theorem dL_earliest_3 : decode cL_earliest 3 = .ok (.iload_n 1, 1) := by decide +kernel
theorem dL_earliest_4 : decode cL_earliest 4 = .ok (.invokevirtual 64, 3) := by decide +kernel
theorem dL_earliest_7 : decode cL_earliest 7 = .ok (.i2l, 1) := by decide +kernel
theorem dL_earliest_8 : decode cL_earliest 8 = .ok (.lastore, 1) := by decide +kernel
theorem dL_earliest_9 : decode cL_earliest 9 = .ok (.goto 6, 3) := by decide +kernel
theorem dL_earliest_12 : decode cL_earliest 12 = .ok (.astore_n 3, 1) := by decide +kernel
theorem dL_earliest_13 : decode cL_earliest 13 = .ok (.iconst 1, 1) := by decide +kernel
theorem dL_earliest_14 : decode cL_earliest 14 = .ok (.ireturn, 1) := by decide +kernel
theorem dL_earliest_15 : decode cL_earliest 15 = .ok (.iconst 0, 1) := by decide +kernel
theorem dL_earliest_16 : decode cL_earliest 16 = .ok (.ireturn, 1) := by decide +kernel
set_option maxRecDepth 20000 in
theorem ggL_delayedOn_X3_delayedOn : GoodIn wsL_delayedOn wsX3_delayedOn := goodIn_ca (goodIn_r _ [6, 7, 8, 9, 10, 11, 5, 12, 13, 14, 15, 16, 17, 18, 19, 20, 21, 22, 23, 24, 25, 26, 27, 28, 29, 30, 31, 32, 33, 34, 35, 36, 37, 38, 39, 40, 41, 42, 43, 44, 45, 46, 47, 48, 49, 50, 51, 52, 53, 54, 55, 56, 57, 58, 59, 60, 61, 62, 63, 64, 65, 66, 67, 68, 69, 70, 71, 72, 73, 74, 75, 76, 77, 78, 79, 80, 81, 82, 83, 84, 85, 86, 87, 88, 89, 90, 91, 92, 93, 94, 95, 96, 97, 98, 99, 100, 101, 102, 103, 104, 105, 106, 107, 108, 109, 110, 111, 112, 113, 114, 115, 116, 117, 118, 119, 120, 121, 122, 123, 124, 125, 126, 127, 128, 129, 130, 131, 132, 133] (by decide +kernel) (by decide +kernel)) (goodIn_sub (fun _ h => List.mem_cons_of_mem _ (List.mem_append_right _ h)) (by decide +kernel))
set_option maxRecDepth 20000 in
theorem gL_delayedOn_X3_delayedOn : GoodIn wsL_delayedOn (wsV RL 67 RX3 yX3_delayedOn wsX3_delayedOn) := goodIn_app (goodIn_of _ (by decide +kernel)) ggL_delayedOn_X3_delayedOn
theorem dL_delayedOn_0 : decode cL_delayedOn 0 = .ok (.aload_n 2, 1) := by decide +kernel
theorem dL_delayedOn_1 : decode cL_delayedOn 1 = .ok (.iconst 0, 1) := by decide +kernel
theorem dL_delayedOn_2 : decode cL_delayedOn 2 = .ok (.aload_n 0, 1) := by decide +kernel
theorem dL_delayedOn_3 : decode cL_delayedOn 3 = .ok (.iload_n 1, 1) := by decide +kernel
theorem dL_delayedOn_4 : decode cL_delayedOn 4 = .ok (.invokevirtual 67, 3) := by decide +kernel
theorem dL_delayedOn_7 : decode cL_delayedOn 7 = .ok (.i2l, 1) := by decide +kernel
theorem dL_delayedOn_8 : decode cL_delayedOn 8 = .ok (.lastore, 1) := by decide +kernel
theorem dL_delayedOn_9 : decode cL_delayedOn 9 = .ok (.goto 6, 3) := by decide +kernel
theorem dL_delayedOn_12 : decode cL_delayedOn 12 = .ok (.astore_n 3, 1) := by decide +kernel
theorem dL_delayedOn_13 : decode cL_delayedOn 13 = .ok (.iconst 1, 1) := by decide +kernel
theorem dL_delayedOn_14 : decode cL_delayedOn 14 = .ok (.ireturn, 1) := by decide +kernel
theorem dL_delayedOn_15 : decode cL_delayedOn 15 = .ok (.iconst 0, 1) := by decide +kernel
theorem dL_delayedOn_16 : decode cL_delayedOn 16 = .ok (.ireturn, 1) := by decide +kernel
set_option maxRecDepth 20000 in
theorem ggL_delayedAt_X3_delayedAt : GoodIn wsL_delayedAt wsX3_delayedAt := goodIn_ca (goodIn_r _ [6, 7, 8, 9, 10, 11, 5, 12, 13, 14, 15, 16, 17, 18, 19, 20, 21, 22, 23, 24, 25, 26, 27, 28, 29, 30, 31, 32, 33, 34, 35, 36, 37, 38, 39, 40, 41, 42, 43, 44, 45, 46, 47, 48, 49, 50, 51, 52, 53, 54, 55, 56, 57, 58, 59, 60, 61, 62, 63, 64, 65, 66, 67, 68, 69, 70, 71, 72, 73, 74, 75, 76, 77, 78, 79, 80, 81, 82, 83, 84, 85, 86, 87, 88, 89, 90, 91, 92, 93, 94, 95, 96, 97, 98, 99, 100, 101, 102, 103, 104, 105, 106, 107, 108, 109, 110, 111, 112, 113, 114, 115, 116, 117, 118, 119, 120, 121, 122, 123, 124, 125, 126, 127, 128, 129, 130, 131, 132, 133] (by decide +kernel) (by decide +kernel)) (goodIn_sub (fun _ h => List.mem_cons_of_mem _ (List.mem_append_right _ h)) (by decide +kernel))
set_option maxRecDepth 20000 in
theorem gL_delayedAt_X3_delayedAt : GoodIn wsL_delayedAt (wsV RL 70 RX3 yX3_delayedAt wsX3_delayedAt) := goodIn_app (goodIn_of _ (by decide +kernel)) ggL_delayedAt_X3_delayedAt
theorem dL_delayedAt_0 : decode cL_delayedAt 0 = .ok (.aload_n 2, 1) := by decide +kernel
theorem dL_delayedAt_1 : decode cL_delayedAt 1 = .ok (.iconst 0, 1) := by decide +kernel
theorem dL_delayedAt_2 : decode cL_delayedAt 2 = .ok (.aload_n 0, 1) := by decide +kernel
theorem dL_delayedAt_3 : decode cL_delayedAt 3 = .ok (.iload_n 1, 1) := by decide +kernel
theorem dL_delayedAt_4 : decode cL_delayedAt 4 = .ok (.invokevirtual 70, 3) := by decide +kernel
theorem dL_delayedAt_7 : decode cL_delayedAt 7 = .ok (.i2l, 1) := by decide +kernel
theorem dL_delayedAt_8 : decode cL_delayedAt 8 = .ok (.lastore, 1) := by decide +kernel
theorem dL_delayedAt_9 : decode cL_delayedAt 9 = .ok (.goto 6, 3) := by decide +kernel
theorem dL_delayedAt_12 : decode cL_delayedAt 12 = .ok (.astore_n 3, 1) := by decide +kernel
theorem dL_delayedAt_13 : decode cL_delayedAt 13 = .ok (.iconst 1, 1) := by decide +kernel
theorem dL_delayedAt_14 : decode cL_delayedAt 14 = .ok (.ireturn, 1) := by decide +kernel
theorem dL_delayedAt_15 : decode cL_delayedAt 15 = .ok (.iconst 0, 1) := by decide +kernel
theorem dL_delayedAt_16 : decode cL_delayedAt 16 = .ok (.ireturn, 1) := by decide +kernel
set_option maxRecDepth 20000 in
theorem ggL_insertions_X3_insertions : GoodIn wsL_insertions wsX3_insertions := goodIn_ca (goodIn_r _ [6, 7, 8, 9, 10, 11, 5, 12, 13, 14, 15, 16, 17, 18, 19, 20, 21, 22, 23, 24, 25, 26, 27, 28, 29, 30, 31, 32, 33, 34, 35, 36, 37, 38, 39, 40, 41, 42, 43, 44, 45, 46, 47, 48, 49, 50, 51, 52, 53, 54, 55, 56, 57, 58, 59, 60, 61, 62, 63, 64, 65, 66, 67, 68, 69, 70, 71, 72, 73, 74, 75, 76, 77, 78, 79, 80, 81, 82, 83, 84, 85, 86, 87, 88, 89, 90, 91, 92, 93, 94, 95, 96, 97, 98, 99, 100, 101, 102, 103, 104, 105, 106, 107, 108, 109, 110, 111, 112, 113, 114, 115, 116, 117, 118, 119, 120, 121, 122, 123, 124, 125, 126, 127, 128, 129, 130, 131, 132, 133] (by decide +kernel) (by decide +kernel)) (goodIn_sub (fun _ h => List.mem_cons_of_mem _ (List.mem_append_right _ h)) (by decide +kernel))
set_option maxRecDepth 20000 in
theorem gL_insertions_X3_insertions : GoodIn wsL_insertions (wsV RL 73 RX3 yX3_insertions wsX3_insertions) := goodIn_app (goodIn_of _ (by decide +kernel)) ggL_insertions_X3_insertions
theorem dL_insertions_0 : decode cL_insertions 0 = .ok (.aload_n 2, 1) := by decide +kernel
theorem dL_insertions_1 : decode cL_insertions 1 = .ok (.iconst 0, 1) := by decide +kernel
theorem dL_insertions_2 : decode cL_insertions 2 = .ok (.aload_n 0, 1) := by decide +kernel
theorem dL_insertions_3 : decode cL_insertions 3 = .ok (.iload_n 1, 1) := by decide +kernel
theorem dL_insertions_4 : decode cL_insertions 4 = .ok (.invokevirtual 73, 3) := by decide +kernel
theorem dL_insertions_7 : decode cL_insertions 7 = .ok (.i2l, 1) := by decide +kernel
theorem dL_insertions_8 : decode cL_insertions 8 = .ok (.lastore, 1) := by decide +kernel
theorem dL_insertions_9 : decode cL_insertions 9 = .ok (.goto 6, 3) := by decide +kernel
theorem dL_insertions_12 : decode cL_insertions 12 = .ok (.astore_n 3, 1) := by decide +kernel
theorem dL_insertions_13 : decode cL_insertions 13 = .ok (.iconst 1, 1) := by decide +kernel
theorem dL_insertions_14 : decode cL_insertions 14 = .ok (.ireturn, 1) := by decide +kernel
theorem dL_insertions_15 : decode cL_insertions 15 = .ok (.iconst 0, 1) := by decide +kernel
theorem dL_insertions_16 : decode cL_insertions 16 = .ok (.ireturn, 1) := by decide +kernel
set_option maxRecDepth 20000 in
theorem ggL_deletions_X3_deletions : GoodIn wsL_deletions wsX3_deletions := goodIn_ca (goodIn_r _ [6, 7, 8, 9, 10, 11, 5, 12, 13, 14, 15, 16, 17, 18, 19, 20, 21, 22, 23, 24, 25, 26, 27, 28, 29, 30, 31, 32, 33, 34, 35, 36, 37, 38, 39, 40, 41, 42, 43, 44, 45, 46, 47, 48, 49, 50, 51, 52, 53, 54, 55, 56, 57, 58, 59, 60, 61, 62, 63, 64, 65, 66, 67, 68, 69, 70, 71, 72, 73, 74, 75, 76, 77, 78, 79, 80, 81, 82, 83, 84, 85, 86, 87, 88, 89, 90, 91, 92, 93, 94, 95, 96, 97, 98, 99, 100, 101, 102, 103, 104, 105, 106, 107, 108, 109, 110, 111, 112, 113, 114, 115, 116, 117, 118, 119, 120, 121, 122, 123, 124, 125, 126, 127, 128, 129, 130, 131, 132, 133] (by decide +kernel) (by decide +kernel)) (goodIn_sub (fun _ h => List.mem_cons_of_mem _ (List.mem_append_right _ h)) (by decide +kernel))
set_option maxRecDepth 20000 in
theorem gL_deletions_X3_deletions : GoodIn wsL_deletions (wsV RL 76 RX3 yX3_deletions wsX3_deletions) := goodIn_app (goodIn_of _ (by decide +kernel)) ggL_deletions_X3_deletions
theorem dL_deletions_0 : decode cL_deletions 0 = .ok (.aload_n 2, 1) := by decide +kernel
theorem dL_deletions_1 : decode cL_deletions 1 = .ok (.iconst 0, 1) := by decide +kernel
theorem dL_deletions_2 : decode cL_deletions 2 = .ok (.aload_n 0, 1) := by decide +kernel
theorem dL_deletions_3 : decode cL_deletions 3 = .ok (.iload_n 1, 1) := by decide +kernel
theorem dL_deletions_4 : decode cL_deletions 4 = .ok (.invokevirtual 76, 3) := by decide +kernel
theorem dL_deletions_7 : decode cL_deletions 7 = .ok (.i2l, 1) := by decide +kernel
theorem dL_deletions_8 : decode cL_deletions 8 = .ok (.lastore, 1) := by decide +kernel
theorem dL_deletions_9 : decode cL_deletions 9 = .ok (.goto 6, 3) := by decide +kernel
theorem dL_deletions_12 : decode cL_deletions 12 = .ok (.astore_n 3, 1) := by decide +kernel
theorem dL_deletions_13 : decode cL_deletions 13 = .ok (.iconst 1, 1) := by decide +kernel
theorem dL_deletions_14 : decode cL_deletions 14 = .ok (.ireturn, 1) := by decide +kernel
theorem dL_deletions_15 : decode cL_deletions 15 = .ok (.iconst 0, 1) := by decide +kernel
theorem dL_deletions_16 : decode cL_deletions 16 = .ok (.ireturn, 1) := by decide +kernel
set_option maxRecDepth 20000 in
theorem ggL_move_X3_move : GoodIn wsL_move wsX3_move := goodIn_ca (goodIn_r _ [6, 7, 8, 9, 10, 11, 12, 13, 14, 15, 16, 17, 18, 19, 20, 21, 22, 23, 24, 25, 26, 27, 28, 29, 30, 31, 32, 33, 34, 35, 36, 37, 38, 39, 40, 41, 42, 43, 44, 45, 46, 47, 48, 49, 50, 51, 52, 53, 54, 55, 56, 57, 58, 59, 60, 61, 62, 63, 64, 65, 66, 67, 68, 69, 70, 71, 72, 73, 74, 75, 76, 77, 78, 79, 80, 81, 82, 83, 84, 85, 86, 87, 88, 89, 90, 91, 92, 93, 94, 95, 96, 97, 98, 99, 100, 101, 102, 103, 104, 105, 106, 107, 108, 5, 109, 110, 111, 112, 113, 114, 115, 116, 117, 118, 119, 120, 121, 122, 123, 124, 125, 126, 127, 128, 129, 130, 131, 132, 133, 134, 135, 136, 137, 138, 139, 140, 141, 142, 143, 144, 145, 146, 147, 148, 149, 150, 151, 152, 153, 154, 155, 156, 157, 158, 159, 160, 161, 162, 163, 164, 165, 166, 167, 168, 169, 170, 171, 172] (by decide +kernel) (by decide +kernel)) (goodIn_sub (fun _ h => List.mem_cons_of_mem _ (List.mem_append_right _ h)) (by decide +kernel))
set_option maxRecDepth 20000 in
theorem gL_move_X3_move : GoodIn wsL_move (wsV RL 79 RX3 yX3_move wsX3_move) := goodIn_app (goodIn_of _ (by decide +kernel)) ggL_move_X3_move
theorem dL_move_0 : decode cL_move 0 = .ok (.aload_n 1, 1) := by decide +kernel
theorem dL_move_1 : decode cL_move 1 = .ok (.iconst 0, 1) := by decide +kernel
theorem dL_move_2 : decode cL_move 2 = .ok (.aload_n 0, 1) := by decide +kernel
theorem dL_move_3 : decode cL_move 3 = .ok (.invokevirtual 79, 3) := by decide +kernel
theorem dL_move_6 : decode cL_move 6 = .ok (.i2l, 1) := by decide +kernel
theorem dL_move_7 : decode cL_move 7 = .ok (.lastore, 1) := by decide +kernel
theorem dL_move_8 : decode cL_move 8 = .ok (.goto 6, 3) := by decide +kernel
theorem dL_move_11 : decode cL_move 11 = .ok (.astore_n 2, 1) := by decide +kernel
theorem dL_move_12 : decode cL_move 12 = .ok (.iconst 1, 1) := by decide +kernel
theorem dL_move_13 : decode cL_move 13 = .ok (.ireturn, 1) := by decide +kernel
theorem dL_move_14 : decode cL_move 14 = .ok (.iconst 0, 1) := by decide +kernel
theorem dL_move_15 : decode cL_move 15 = .ok (.ireturn, 1) := by decide +kernel
set_option maxRecDepth 20000 in
theorem ggL_walk_X3_walk : GoodIn wsL_walk wsX3_walk := goodIn_ca (goodIn_r _ [6, 7, 8, 9, 10, 11, 12, 13, 14, 15, 16, 17, 18, 19, 20, 21, 22, 23, 24, 25, 26, 27, 28, 29, 30, 31, 32, 33, 34, 35, 36, 37, 38, 39, 40, 41, 42, 43, 44, 45, 46, 47, 48, 49, 50, 51, 52, 53, 54, 55, 56, 57, 58, 59, 60, 61, 62, 63, 64, 65, 66, 67, 68, 69, 70, 71, 72, 73, 74, 75, 76, 77, 78, 79] (by decide +kernel) (by decide +kernel)) (goodIn_sub (fun _ h => List.mem_cons_of_mem _ (List.mem_append_right _ h)) (by decide +kernel))
set_option maxRecDepth 20000 in
theorem gL_walk_X3_walk : GoodIn wsL_walk (wsV RL 82 RX3 yX3_walk wsX3_walk) := goodIn_app (goodIn_of _ (by decide +kernel)) ggL_walk_X3_walk
theorem dL_walk_0 : decode cL_walk 0 = .ok (.aload 4, 2) := by decide +kernel
theorem dL_walk_2 : decode cL_walk 2 = .ok (.iconst 0, 1) := by decide +kernel
theorem dL_walk_3 : decode cL_walk 3 = .ok (.aload_n 0, 1) := by decide +kernel
theorem dL_walk_4 : decode cL_walk 4 = .ok (.lload_n 1, 1) := by decide +kernel
theorem dL_walk_5 : decode cL_walk 5 = .ok (.iload_n 3, 1) := by decide +kernel
theorem dL_walk_6 : decode cL_walk 6 = .ok (.invokevirtual 82, 3) := by decide +kernel
theorem dL_walk_9 : decode cL_walk 9 = .ok (.i2l, 1) := by decide +kernel
theorem dL_walk_10 : decode cL_walk 10 = .ok (.lastore, 1) := by decide +kernel
theorem dL_walk_11 : decode cL_walk 11 = .ok (.goto 7, 3) := by decide +kernel
theorem dL_walk_14 : decode cL_walk 14 = .ok (.astore 5, 2) := by decide +kernel
theorem dL_walk_16 : decode cL_walk 16 = .ok (.iconst 1, 1) := by decide +kernel
theorem dL_walk_17 : decode cL_walk 17 = .ok (.ireturn, 1) := by decide +kernel
theorem dL_walk_18 : decode cL_walk 18 = .ok (.iconst 0, 1) := by decide +kernel
theorem dL_walk_19 : decode cL_walk 19 = .ok (.ireturn, 1) := by decide +kernel
set_option maxRecDepth 20000 in
theorem ggL_computed_X3_computed : GoodIn wsL_computed wsX3_computed := goodIn_ca (goodIn_r _ [6, 7, 8, 9, 10, 11, 5, 12, 13, 14, 15, 16, 17, 18, 19, 20, 21, 22, 23, 24, 25, 26, 27, 28, 29, 30, 31, 32, 33, 34, 35, 36, 37, 38, 39, 40] (by decide +kernel) (by decide +kernel)) (goodIn_sub (fun _ h => List.mem_cons_of_mem _ (List.mem_append_right _ h)) (by decide +kernel))
set_option maxRecDepth 20000 in
theorem gL_computed_X3_computed : GoodIn wsL_computed (wsV RL 86 RX3 yX3_computed wsX3_computed) := goodIn_app (goodIn_of _ (by decide +kernel)) ggL_computed_X3_computed
theorem dL_computed_0 : decode cL_computed 0 = .ok (.aload_n 2, 1) := by decide +kernel
theorem dL_computed_1 : decode cL_computed 1 = .ok (.iconst 0, 1) := by decide +kernel
theorem dL_computed_2 : decode cL_computed 2 = .ok (.aload_n 0, 1) := by decide +kernel
theorem dL_computed_3 : decode cL_computed 3 = .ok (.iload_n 1, 1) := by decide +kernel
theorem dL_computed_4 : decode cL_computed 4 = .ok (.invokevirtual 86, 3) := by decide +kernel
theorem dL_computed_7 : decode cL_computed 7 = .ok (.i2l, 1) := by decide +kernel
theorem dL_computed_8 : decode cL_computed 8 = .ok (.lastore, 1) := by decide +kernel
theorem dL_computed_9 : decode cL_computed 9 = .ok (.goto 6, 3) := by decide +kernel
theorem dL_computed_12 : decode cL_computed 12 = .ok (.astore_n 3, 1) := by decide +kernel
theorem dL_computed_13 : decode cL_computed 13 = .ok (.iconst 1, 1) := by decide +kernel
theorem dL_computed_14 : decode cL_computed 14 = .ok (.ireturn, 1) := by decide +kernel
theorem dL_computed_15 : decode cL_computed 15 = .ok (.iconst 0, 1) := by decide +kernel
theorem dL_computed_16 : decode cL_computed 16 = .ok (.ireturn, 1) := by decide +kernel
set_option maxRecDepth 20000 in
theorem ggL_heldFor_X3_heldFor : GoodIn wsL_heldFor wsX3_heldFor := goodIn_ca (goodIn_r _ [6, 7, 8, 9, 10, 11, 5, 12, 13, 14, 15, 16, 17, 18, 19, 20, 21, 22, 23, 24, 25, 26, 27, 28, 29, 30, 31, 32, 33, 34, 35, 36, 37, 38, 39, 40] (by decide +kernel) (by decide +kernel)) (goodIn_sub (fun _ h => List.mem_cons_of_mem _ (List.mem_append_right _ h)) (by decide +kernel))
set_option maxRecDepth 20000 in
theorem gL_heldFor_X3_heldFor : GoodIn wsL_heldFor (wsV RL 89 RX3 yX3_heldFor wsX3_heldFor) := goodIn_app (goodIn_of _ (by decide +kernel)) ggL_heldFor_X3_heldFor
theorem dL_heldFor_0 : decode cL_heldFor 0 = .ok (.aload_n 2, 1) := by decide +kernel
theorem dL_heldFor_1 : decode cL_heldFor 1 = .ok (.iconst 0, 1) := by decide +kernel
theorem dL_heldFor_2 : decode cL_heldFor 2 = .ok (.aload_n 0, 1) := by decide +kernel
theorem dL_heldFor_3 : decode cL_heldFor 3 = .ok (.iload_n 1, 1) := by decide +kernel
theorem dL_heldFor_4 : decode cL_heldFor 4 = .ok (.invokevirtual 89, 3) := by decide +kernel
theorem dL_heldFor_7 : decode cL_heldFor 7 = .ok (.i2l, 1) := by decide +kernel
theorem dL_heldFor_8 : decode cL_heldFor 8 = .ok (.lastore, 1) := by decide +kernel
theorem dL_heldFor_9 : decode cL_heldFor 9 = .ok (.goto 6, 3) := by decide +kernel
theorem dL_heldFor_12 : decode cL_heldFor 12 = .ok (.astore_n 3, 1) := by decide +kernel
theorem dL_heldFor_13 : decode cL_heldFor 13 = .ok (.iconst 1, 1) := by decide +kernel
theorem dL_heldFor_14 : decode cL_heldFor 14 = .ok (.ireturn, 1) := by decide +kernel
theorem dL_heldFor_15 : decode cL_heldFor 15 = .ok (.iconst 0, 1) := by decide +kernel
theorem dL_heldFor_16 : decode cL_heldFor 16 = .ok (.ireturn, 1) := by decide +kernel
