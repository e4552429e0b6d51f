theorem dX3_init_0 : decode cX3_init 0 = .ok (.aload_n 0, 1) := by decide +kernel
theorem dX3_init_1 : decode cX3_init 1 = .ok (.invokespecial 1, 3) := by decide +kernel
theorem dX3_init_4 : decode cX3_init 4 = .ok (.aload_n 0, 1) := by decide +kernel
theorem dX3_init_5 : decode cX3_init 5 = .ok (.new 7, 3) := by decide +kernel
theorem dX3_init_8 : decode cX3_init 8 = .ok (.dup, 1) := by decide +kernel
theorem dX3_init_9 : decode cX3_init 9 = .ok (.invokespecial 9, 3) := by decide +kernel
theorem dX3_init_12 : decode cX3_init 12 = .ok (.putfield 10, 3) := by decide +kernel
theorem dX3_init_15 : decode cX3_init 15 = .ok (.aload_n 0, 1) := by decide +kernel
theorem dX3_init_16 : decode cX3_init 16 = .ok (.new 16, 3) := by decide +kernel
theorem dX3_init_19 : decode cX3_init 19 = .ok (.dup, 1) := by decide +kernel
theorem dX3_init_20 : decode cX3_init 20 = .ok (.aload_n 0, 1) := by decide +kernel
theorem dX3_init_21 : decode cX3_init 21 = .ok (.getfield 10, 3) := by decide +kernel
theorem dX3_init_24 : decode cX3_init 24 = .ok (.invokespecial 18, 3) := by decide +kernel
theorem dX3_init_27 : decode cX3_init 27 = .ok (.putfield 21, 3) := by decide +kernel
theorem dX3_init_30 : decode cX3_init 30 = .ok (.aload_n 0, 1) := by decide +kernel
theorem dX3_init_31 : decode cX3_init 31 = .ok (.new 25, 3) := by decide +kernel
theorem dX3_init_34 : decode cX3_init 34 = .ok (.dup, 1) := by decide +kernel
theorem dX3_init_35 : decode cX3_init 35 = .ok (.aload_n 0, 1) := by decide +kernel
theorem dX3_init_36 : decode cX3_init 36 = .ok (.getfield 10, 3) := by decide +kernel
theorem dX3_init_39 : decode cX3_init 39 = .ok (.invokespecial 27, 3) := by decide +kernel
theorem dX3_init_42 : decode cX3_init 42 = .ok (.putfield 28, 3) := by decide +kernel
theorem dX3_init_45 : decode cX3_init 45 = .ok (.return_, 1) := by decide +kernel
set_option maxRecDepth 20000 in
theorem ggX3_addExpression_X1_newExpression : GoodIn wsX3_addExpression wsX1_newExpression := goodIn_r _ [11, 12, 13, 14, 15, 19, 20, 21, 22, 23, 24, 25, 26, 27, 28, 29, 30] (by decide +kernel) (by decide +kernel)
set_option maxRecDepth 20000 in
theorem gX3_addExpression_X1_newExpression : GoodIn wsX3_addExpression (wsV RX3 48 RX1 yX1_newExpression wsX1_newExpression) := goodIn_app (goodIn_of _ (by decide +kernel)) ggX3_addExpression_X1_newExpression
theorem dX3_addExpression_0 : decode cX3_addExpression 0 = .ok (.iload_n 1, 1) := by decide +kernel
theorem dX3_addExpression_1 : decode cX3_addExpression 1 = .ok (.ifCond .lt 9, 3) := by decide +kernel
theorem dX3_addExpression_4 : decode cX3_addExpression 4 = .ok (.iload_n 1, 1) := by decide +kernel
theorem dX3_addExpression_5 : decode cX3_addExpression 5 = .ok (.bipush 64, 2) := by decide +kernel
theorem dX3_addExpression_7 : decode cX3_addExpression 7 = .ok (.if_icmp .lt 13, 3) := by decide +kernel
theorem dX3_addExpression_10 : decode cX3_addExpression 10 = .ok (.new 32, 3) := by decide +kernel
theorem dX3_addExpression_13 : decode cX3_addExpression 13 = .ok (.dup, 1) := by decide +kernel
theorem dX3_addExpression_14 : decode cX3_addExpression 14 = .ok (.ldc 34, 2) := by decide +kernel
theorem dX3_addExpression_16 : decode cX3_addExpression 16 = .ok (.invokespecial 36, 3) := by decide +kernel
theorem dX3_addExpression_19 : decode cX3_addExpression 19 = .ok (.athrow, 1) := by decide +kernel
theorem dX3_addExpression_20 : decode cX3_addExpression 20 = .ok (.aload_n 0, 1) := by decide +kernel
theorem dX3_addExpression_21 : decode cX3_addExpression 21 = .ok (.getfield 10, 3) := by decide +kernel
theorem dX3_addExpression_24 : decode cX3_addExpression 24 = .ok (.getfield 39, 3) := by decide +kernel
theorem dX3_addExpression_27 : decode cX3_addExpression 27 = .ok (.bipush 8, 2) := by decide +kernel
theorem dX3_addExpression_29 : decode cX3_addExpression 29 = .ok (.if_icmp .lt 13, 3) := by decide +kernel
theorem dX3_addExpression_32 : decode cX3_addExpression 32 = .ok (.new 43, 3) := by decide +kernel
theorem dX3_addExpression_35 : decode cX3_addExpression 35 = .ok (.dup, 1) := by decide +kernel
theorem dX3_addExpression_36 : decode cX3_addExpression 36 = .ok (.ldc 45, 2) := by decide +kernel
theorem dX3_addExpression_38 : decode cX3_addExpression 38 = .ok (.invokespecial 47, 3) := by decide +kernel
theorem dX3_addExpression_41 : decode cX3_addExpression 41 = .ok (.athrow, 1) := by decide +kernel
theorem dX3_addExpression_42 : decode cX3_addExpression 42 = .ok (.aload_n 0, 1) := by decide +kernel
theorem dX3_addExpression_43 : decode cX3_addExpression 43 = .ok (.getfield 10, 3) := by decide +kernel
theorem dX3_addExpression_46 : decode cX3_addExpression 46 = .ok (.iload_n 1, 1) := by decide +kernel
theorem dX3_addExpression_47 : decode cX3_addExpression 47 = .ok (.invokevirtual 48, 3) := by decide +kernel
theorem dX3_addExpression_50 : decode cX3_addExpression 50 = .ok (.ireturn, 1) := by decide +kernel
set_option maxRecDepth 20000 in
theorem ggX3_addBlock_X1_newBlock : GoodIn wsX3_addBlock wsX1_newBlock := goodIn_r _ [9, 10, 11, 15, 16, 17, 18, 19, 20, 21, 22, 23, 24, 25, 26] (by decide +kernel) (by decide +kernel)
set_option maxRecDepth 20000 in
theorem gX3_addBlock_X1_newBlock : GoodIn wsX3_addBlock (wsV RX3 57 RX1 yX1_newBlock wsX1_newBlock) := goodIn_app (goodIn_of _ (by decide +kernel)) ggX3_addBlock_X1_newBlock
theorem dX3_addBlock_0 : decode cX3_addBlock 0 = .ok (.aload_n 0, 1) := by decide +kernel
theorem dX3_addBlock_1 : decode cX3_addBlock 1 = .ok (.getfield 10, 3) := by decide +kernel
theorem dX3_addBlock_4 : decode cX3_addBlock 4 = .ok (.getfield 52, 3) := by decide +kernel
theorem dX3_addBlock_7 : decode cX3_addBlock 7 = .ok (.bipush 40, 2) := by decide +kernel
theorem dX3_addBlock_9 : decode cX3_addBlock 9 = .ok (.if_icmp .lt 13, 3) := by decide +kernel
theorem dX3_addBlock_12 : decode cX3_addBlock 12 = .ok (.new 43, 3) := by decide +kernel
theorem dX3_addBlock_15 : decode cX3_addBlock 15 = .ok (.dup, 1) := by decide +kernel
theorem dX3_addBlock_16 : decode cX3_addBlock 16 = .ok (.ldc 55, 2) := by decide +kernel
theorem dX3_addBlock_18 : decode cX3_addBlock 18 = .ok (.invokespecial 47, 3) := by decide +kernel
theorem dX3_addBlock_21 : decode cX3_addBlock 21 = .ok (.athrow, 1) := by decide +kernel
theorem dX3_addBlock_22 : decode cX3_addBlock 22 = .ok (.aload_n 0, 1) := by decide +kernel
theorem dX3_addBlock_23 : decode cX3_addBlock 23 = .ok (.getfield 10, 3) := by decide +kernel
theorem dX3_addBlock_26 : decode cX3_addBlock 26 = .ok (.invokevirtual 57, 3) := by decide +kernel
theorem dX3_addBlock_29 : decode cX3_addBlock 29 = .ok (.ireturn, 1) := by decide +kernel
set_option maxRecDepth 20000 in
theorem ggX3_addEdge_X3_requireBlock : GoodIn wsX3_addEdge wsX3_requireBlock := goodIn_ca (goodIn_r _ [12, 13, 14, 5, 15, 31, 32, 33, 34, 35, 36, 37, 38, 39, 40, 41, 42, 43, 44, 45] (by decide +kernel) (by decide +kernel)) (goodIn_sub (fun _ h => List.mem_cons_of_mem _ (List.mem_append_right _ h)) (by decide +kernel))
set_option maxRecDepth 20000 in
theorem gX3_addEdge_X3_requireBlock : GoodIn wsX3_addEdge (wsV RX3 61 RX3 yX3_requireBlock wsX3_requireBlock) := goodIn_app (goodIn_of _ (by decide +kernel)) ggX3_addEdge_X3_requireBlock
set_option maxRecDepth 20000 in
theorem ggX3_addEdge_X1_hasEdge : GoodIn wsX3_addEdge wsX1_hasEdge := goodIn_r _ [20, 21, 22, 23, 34, 35, 36, 37, 38, 39, 40, 41, 42, 43, 44, 45] (by decide +kernel) (by decide +kernel)
set_option maxRecDepth 20000 in
theorem gX3_addEdge_X1_hasEdge : GoodIn wsX3_addEdge (wsV RX3 67 RX1 yX1_hasEdge wsX1_hasEdge) := goodIn_app (goodIn_of _ (by decide +kernel)) ggX3_addEdge_X1_hasEdge
set_option maxRecDepth 20000 in
theorem ggX3_addEdge_X1_newEdge : GoodIn wsX3_addEdge wsX1_newEdge := goodIn_r _ [27, 28, 29, 23, 21, 22, 30, 34, 35, 36, 37, 38, 39, 40, 41, 42, 43, 44, 45] (by decide +kernel) (by decide +kernel)
set_option maxRecDepth 20000 in
theorem gX3_addEdge_X1_newEdge : GoodIn wsX3_addEdge (wsV RX3 84 RX1 yX1_newEdge wsX1_newEdge) := goodIn_app (goodIn_of _ (by decide +kernel)) ggX3_addEdge_X1_newEdge
theorem dX3_addEdge_0 : decode cX3_addEdge 0 = .ok (.aload_n 0, 1) := by decide +kernel
theorem dX3_addEdge_1 : decode cX3_addEdge 1 = .ok (.iload_n 1, 1) := by decide +kernel
theorem dX3_addEdge_2 : decode cX3_addEdge 2 = .ok (.invokevirtual 61, 3) := by decide +kernel
theorem dX3_addEdge_5 : decode cX3_addEdge 5 = .ok (.aload_n 0, 1) := by decide +kernel
theorem dX3_addEdge_6 : decode cX3_addEdge 6 = .ok (.iload_n 2, 1) := by decide +kernel
theorem dX3_addEdge_7 : decode cX3_addEdge 7 = .ok (.invokevirtual 61, 3) := by decide +kernel
theorem dX3_addEdge_10 : decode cX3_addEdge 10 = .ok (.iload_n 2, 1) := by decide +kernel
theorem dX3_addEdge_11 : decode cX3_addEdge 11 = .ok (.ifCond .ne 13, 3) := by decide +kernel
theorem dX3_addEdge_14 : decode cX3_addEdge 14 = .ok (.new 32, 3) := by decide +kernel
theorem dX3_addEdge_17 : decode cX3_addEdge 17 = .ok (.dup, 1) := by decide +kernel
theorem dX3_addEdge_18 : decode cX3_addEdge 18 = .ok (.ldc 65, 2) := by decide +kernel
theorem dX3_addEdge_20 : decode cX3_addEdge 20 = .ok (.invokespecial 36, 3) := by decide +kernel
theorem dX3_addEdge_23 : decode cX3_addEdge 23 = .ok (.athrow, 1) := by decide +kernel
theorem dX3_addEdge_24 : decode cX3_addEdge 24 = .ok (.aload_n 0, 1) := by decide +kernel
theorem dX3_addEdge_25 : decode cX3_addEdge 25 = .ok (.getfield 10, 3) := by decide +kernel
theorem dX3_addEdge_28 : decode cX3_addEdge 28 = .ok (.iload_n 1, 1) := by decide +kernel
theorem dX3_addEdge_29 : decode cX3_addEdge 29 = .ok (.iload_n 2, 1) := by decide +kernel
theorem dX3_addEdge_30 : decode cX3_addEdge 30 = .ok (.invokevirtual 67, 3) := by decide +kernel
theorem dX3_addEdge_33 : decode cX3_addEdge 33 = .ok (.ifCond .eq 13, 3) := by decide +kernel
theorem dX3_addEdge_36 : decode cX3_addEdge 36 = .ok (.new 32, 3) := by decide +kernel
theorem dX3_addEdge_39 : decode cX3_addEdge 39 = .ok (.dup, 1) := by decide +kernel
theorem dX3_addEdge_40 : decode cX3_addEdge 40 = .ok (.ldc 71, 2) := by decide +kernel
theorem dX3_addEdge_42 : decode cX3_addEdge 42 = .ok (.invokespecial 36, 3) := by decide +kernel
theorem dX3_addEdge_45 : decode cX3_addEdge 45 = .ok (.athrow, 1) := by decide +kernel
theorem dX3_addEdge_46 : decode cX3_addEdge 46 = .ok (.aload_n 0, 1) := by decide +kernel
theorem dX3_addEdge_47 : decode cX3_addEdge 47 = .ok (.getfield 10, 3) := by decide +kernel
theorem dX3_addEdge_50 : decode cX3_addEdge 50 = .ok (.getfield 73, 3) := by decide +kernel
theorem dX3_addEdge_53 : decode cX3_addEdge 53 = .ok (.iload_n 1, 1) := by decide +kernel
theorem dX3_addEdge_54 : decode cX3_addEdge 54 = .ok (.iaload, 1) := by decide +kernel
theorem dX3_addEdge_55 : decode cX3_addEdge 55 = .ok (.iconst (-1), 1) := by decide +kernel
theorem dX3_addEdge_56 : decode cX3_addEdge 56 = .ok (.if_icmp .eq 13, 3) := by decide +kernel
theorem dX3_addEdge_59 : decode cX3_addEdge 59 = .ok (.new 43, 3) := by decide +kernel
theorem dX3_addEdge_62 : decode cX3_addEdge 62 = .ok (.dup, 1) := by decide +kernel
theorem dX3_addEdge_63 : decode cX3_addEdge 63 = .ok (.ldc 77, 2) := by decide +kernel
theorem dX3_addEdge_65 : decode cX3_addEdge 65 = .ok (.invokespecial 47, 3) := by decide +kernel
theorem dX3_addEdge_68 : decode cX3_addEdge 68 = .ok (.athrow, 1) := by decide +kernel
theorem dX3_addEdge_69 : decode cX3_addEdge 69 = .ok (.aload_n 0, 1) := by decide +kernel
theorem dX3_addEdge_70 : decode cX3_addEdge 70 = .ok (.getfield 10, 3) := by decide +kernel
theorem dX3_addEdge_73 : decode cX3_addEdge 73 = .ok (.getfield 79, 3) := by decide +kernel
theorem dX3_addEdge_76 : decode cX3_addEdge 76 = .ok (.bipush 80, 2) := by decide +kernel
theorem dX3_addEdge_78 : decode cX3_addEdge 78 = .ok (.if_icmp .lt 13, 3) := by decide +kernel
theorem dX3_addEdge_81 : decode cX3_addEdge 81 = .ok (.new 43, 3) := by decide +kernel
theorem dX3_addEdge_84 : decode cX3_addEdge 84 = .ok (.dup, 1) := by decide +kernel
theorem dX3_addEdge_85 : decode cX3_addEdge 85 = .ok (.ldc 82, 2) := by decide +kernel
theorem dX3_addEdge_87 : decode cX3_addEdge 87 = .ok (.invokespecial 47, 3) := by decide +kernel
theorem dX3_addEdge_90 : decode cX3_addEdge 90 = .ok (.athrow, 1) := by decide +kernel
theorem dX3_addEdge_91 : decode cX3_addEdge 91 = .ok (.aload_n 0, 1) := by decide +kernel
theorem dX3_addEdge_92 : decode cX3_addEdge 92 = .ok (.getfield 10, 3) := by decide +kernel
theorem dX3_addEdge_95 : decode cX3_addEdge 95 = .ok (.iload_n 1, 1) := by decide +kernel
theorem dX3_addEdge_96 : decode cX3_addEdge 96 = .ok (.iload_n 2, 1) := by decide +kernel
theorem dX3_addEdge_97 : decode cX3_addEdge 97 = .ok (.invokevirtual 84, 3) := by decide +kernel
theorem dX3_addEdge_100 : decode cX3_addEdge 100 = .ok (.ireturn, 1) := by decide +kernel
set_option maxRecDepth 20000 in
theorem ggX3_compute_X3_requireBlock : GoodIn wsX3_compute wsX3_requireBlock := goodIn_ca (goodIn_r _ [6, 7, 8, 1, 9, 30, 31, 32, 33, 34, 35, 36, 37, 38, 39, 40, 41, 42, 43, 44] (by decide +kernel) (by decide +kernel)) (goodIn_sub (fun _ h => List.mem_cons_of_mem _ (List.mem_append_left _ (List.mem_append_right _ h))) (by decide +kernel))
set_option maxRecDepth 20000 in
theorem gX3_compute_X3_requireBlock : GoodIn wsX3_compute (wsV RX3 61 RX3 yX3_requireBlock wsX3_requireBlock) := goodIn_app (goodIn_of _ (by decide +kernel)) ggX3_compute_X3_requireBlock
set_option maxRecDepth 20000 in
theorem ggX3_compute_X3_requireExpression : GoodIn wsX3_compute wsX3_requireExpression := goodIn_ca (goodIn_r _ [13, 7, 8, 1, 14, 30, 31, 32, 33, 34, 35, 36, 37, 38, 39, 40, 41, 42, 43, 44] (by decide +kernel) (by decide +kernel)) (goodIn_sub (fun _ h => List.mem_cons_of_mem _ (List.mem_append_left _ (List.mem_append_right _ h))) (by decide +kernel))
set_option maxRecDepth 20000 in
theorem gX3_compute_X3_requireExpression : GoodIn wsX3_compute (wsV RX3 88 RX3 yX3_requireExpression wsX3_requireExpression) := goodIn_app (goodIn_of _ (by decide +kernel)) ggX3_compute_X3_requireExpression
set_option maxRecDepth 20000 in
theorem ggX3_compute_X3_requireRoom : GoodIn wsX3_compute wsX3_requireRoom := goodIn_ca (goodIn_r _ [18, 19, 20, 1, 21, 30, 31, 32, 33, 34, 35, 36, 37, 38, 39, 40, 41, 42, 43, 44] (by decide +kernel) (by decide +kernel)) (goodIn_sub (fun _ h => List.mem_cons_of_mem _ (List.mem_append_right _ h)) (by decide +kernel))
set_option maxRecDepth 20000 in
theorem gX3_compute_X3_requireRoom : GoodIn wsX3_compute (wsV RX3 91 RX3 yX3_requireRoom wsX3_requireRoom) := goodIn_app (goodIn_of _ (by decide +kernel)) ggX3_compute_X3_requireRoom
set_option maxRecDepth 20000 in
theorem ggX3_compute_X1_append : GoodIn wsX3_compute wsX1_append := goodIn_r _ [26, 27, 28, 29, 33, 34, 35, 36, 37, 38, 39, 40, 41, 42, 43, 44] (by decide +kernel) (by decide +kernel)
set_option maxRecDepth 20000 in
theorem gX3_compute_X1_append : GoodIn wsX3_compute (wsV RX3 94 RX1 yX1_append wsX1_append) := goodIn_app (goodIn_of _ (by decide +kernel)) ggX3_compute_X1_append
theorem dX3_compute_0 : decode cX3_compute 0 = .ok (.aload_n 0, 1) := by decide +kernel
theorem dX3_compute_1 : decode cX3_compute 1 = .ok (.iload_n 1, 1) := by decide +kernel
theorem dX3_compute_2 : decode cX3_compute 2 = .ok (.invokevirtual 61, 3) := by decide +kernel
theorem dX3_compute_5 : decode cX3_compute 5 = .ok (.aload_n 0, 1) := by decide +kernel
theorem dX3_compute_6 : decode cX3_compute 6 = .ok (.iload_n 2, 1) := by decide +kernel
theorem dX3_compute_7 : decode cX3_compute 7 = .ok (.invokevirtual 88, 3) := by decide +kernel
theorem dX3_compute_10 : decode cX3_compute 10 = .ok (.aload_n 0, 1) := by decide +kernel
theorem dX3_compute_11 : decode cX3_compute 11 = .ok (.iload_n 1, 1) := by decide +kernel
theorem dX3_compute_12 : decode cX3_compute 12 = .ok (.invokevirtual 91, 3) := by decide +kernel
theorem dX3_compute_15 : decode cX3_compute 15 = .ok (.aload_n 0, 1) := by decide +kernel
theorem dX3_compute_16 : decode cX3_compute 16 = .ok (.getfield 10, 3) := by decide +kernel
theorem dX3_compute_19 : decode cX3_compute 19 = .ok (.iload_n 1, 1) := by decide +kernel
theorem dX3_compute_20 : decode cX3_compute 20 = .ok (.iconst 0, 1) := by decide +kernel
theorem dX3_compute_21 : decode cX3_compute 21 = .ok (.iload_n 2, 1) := by decide +kernel
theorem dX3_compute_22 : decode cX3_compute 22 = .ok (.invokevirtual 94, 3) := by decide +kernel
theorem dX3_compute_25 : decode cX3_compute 25 = .ok (.ireturn, 1) := by decide +kernel
set_option maxRecDepth 20000 in
theorem ggX3_use_X3_requireBlock : GoodIn wsX3_use wsX3_requireBlock := goodIn_ca (goodIn_r _ [6, 7, 8, 1, 9, 30, 31, 32, 33, 34, 35, 36, 37, 38, 39, 40, 41, 42, 43, 44] (by decide +kernel) (by decide +kernel)) (goodIn_sub (fun _ h => List.mem_cons_of_mem _ (List.mem_append_left _ (List.mem_append_right _ h))) (by decide +kernel))
set_option maxRecDepth 20000 in
theorem gX3_use_X3_requireBlock : GoodIn wsX3_use (wsV RX3 61 RX3 yX3_requireBlock wsX3_requireBlock) := goodIn_app (goodIn_of _ (by decide +kernel)) ggX3_use_X3_requireBlock
set_option maxRecDepth 20000 in
theorem ggX3_use_X3_requireExpression : GoodIn wsX3_use wsX3_requireExpression := goodIn_ca (goodIn_r _ [13, 7, 8, 1, 14, 30, 31, 32, 33, 34, 35, 36, 37, 38, 39, 40, 41, 42, 43, 44] (by decide +kernel) (by decide +kernel)) (goodIn_sub (fun _ h => List.mem_cons_of_mem _ (List.mem_append_left _ (List.mem_append_right _ h))) (by decide +kernel))
set_option maxRecDepth 20000 in
theorem gX3_use_X3_requireExpression : GoodIn wsX3_use (wsV RX3 88 RX3 yX3_requireExpression wsX3_requireExpression) := goodIn_app (goodIn_of _ (by decide +kernel)) ggX3_use_X3_requireExpression
set_option maxRecDepth 20000 in
theorem ggX3_use_X3_requireRoom : GoodIn wsX3_use wsX3_requireRoom := goodIn_ca (goodIn_r _ [18, 19, 20, 1, 21, 30, 31, 32, 33, 34, 35, 36, 37, 38, 39, 40, 41, 42, 43, 44] (by decide +kernel) (by decide +kernel)) (goodIn_sub (fun _ h => List.mem_cons_of_mem _ (List.mem_append_right _ h)) (by decide +kernel))
set_option maxRecDepth 20000 in
theorem gX3_use_X3_requireRoom : GoodIn wsX3_use (wsV RX3 91 RX3 yX3_requireRoom wsX3_requireRoom) := goodIn_app (goodIn_of _ (by decide +kernel)) ggX3_use_X3_requireRoom
set_option maxRecDepth 20000 in
theorem ggX3_use_X1_append : GoodIn wsX3_use wsX1_append := goodIn_r _ [26, 27, 28, 29, 33, 34, 35, 36, 37, 38, 39, 40, 41, 42, 43, 44] (by decide +kernel) (by decide +kernel)
set_option maxRecDepth 20000 in
theorem gX3_use_X1_append : GoodIn wsX3_use (wsV RX3 94 RX1 yX1_append wsX1_append) := goodIn_app (goodIn_of _ (by decide +kernel)) ggX3_use_X1_append
theorem dX3_use_0 : decode cX3_use 0 = .ok (.aload_n 0, 1) := by decide +kernel
theorem dX3_use_1 : decode cX3_use 1 = .ok (.iload_n 1, 1) := by decide +kernel
theorem dX3_use_2 : decode cX3_use 2 = .ok (.invokevirtual 61, 3) := by decide +kernel
theorem dX3_use_5 : decode cX3_use 5 = .ok (.aload_n 0, 1) := by decide +kernel
theorem dX3_use_6 : decode cX3_use 6 = .ok (.iload_n 2, 1) := by decide +kernel
theorem dX3_use_7 : decode cX3_use 7 = .ok (.invokevirtual 88, 3) := by decide +kernel
theorem dX3_use_10 : decode cX3_use 10 = .ok (.aload_n 0, 1) := by decide +kernel
theorem dX3_use_11 : decode cX3_use 11 = .ok (.iload_n 1, 1) := by decide +kernel
theorem dX3_use_12 : decode cX3_use 12 = .ok (.invokevirtual 91, 3) := by decide +kernel
theorem dX3_use_15 : decode cX3_use 15 = .ok (.aload_n 0, 1) := by decide +kernel
theorem dX3_use_16 : decode cX3_use 16 = .ok (.getfield 10, 3) := by decide +kernel
theorem dX3_use_19 : decode cX3_use 19 = .ok (.iload_n 1, 1) := by decide +kernel
theorem dX3_use_20 : decode cX3_use 20 = .ok (.iconst 1, 1) := by decide +kernel
theorem dX3_use_21 : decode cX3_use 21 = .ok (.iload_n 2, 1) := by decide +kernel
theorem dX3_use_22 : decode cX3_use 22 = .ok (.invokevirtual 94, 3) := by decide +kernel
theorem dX3_use_25 : decode cX3_use 25 = .ok (.ireturn, 1) := by decide +kernel
set_option maxRecDepth 20000 in
theorem ggX3_assign_X3_requireBlock : GoodIn wsX3_assign wsX3_requireBlock := goodIn_ca (goodIn_r _ [8, 1, 2, 3, 9, 25, 26, 27, 28, 29, 30, 31, 32, 33, 34, 35, 36, 37, 38, 39] (by decide +kernel) (by decide +kernel)) (goodIn_sub (fun _ h => List.mem_cons_of_mem _ (List.mem_append_left _ (List.mem_append_right _ h))) (by decide +kernel))
set_option maxRecDepth 20000 in
theorem gX3_assign_X3_requireBlock : GoodIn wsX3_assign (wsV RX3 61 RX3 yX3_requireBlock wsX3_requireBlock) := goodIn_app (goodIn_of _ (by decide +kernel)) ggX3_assign_X3_requireBlock
set_option maxRecDepth 20000 in
theorem ggX3_assign_X3_requireRoom : GoodIn wsX3_assign wsX3_requireRoom := goodIn_ca (goodIn_r _ [13, 14, 15, 3, 16, 25, 26, 27, 28, 29, 30, 31, 32, 33, 34, 35, 36, 37, 38, 39] (by decide +kernel) (by decide +kernel)) (goodIn_sub (fun _ h => List.mem_cons_of_mem _ (List.mem_append_right _ h)) (by decide +kernel))
set_option maxRecDepth 20000 in
theorem gX3_assign_X3_requireRoom : GoodIn wsX3_assign (wsV RX3 91 RX3 yX3_requireRoom wsX3_requireRoom) := goodIn_app (goodIn_of _ (by decide +kernel)) ggX3_assign_X3_requireRoom
set_option maxRecDepth 20000 in
theorem ggX3_assign_X1_append : GoodIn wsX3_assign wsX1_append := goodIn_r _ [21, 22, 23, 24, 28, 29, 30, 31, 32, 33, 34, 35, 36, 37, 38, 39] (by decide +kernel) (by decide +kernel)
set_option maxRecDepth 20000 in
theorem gX3_assign_X1_append : GoodIn wsX3_assign (wsV RX3 94 RX1 yX1_append wsX1_append) := goodIn_app (goodIn_of _ (by decide +kernel)) ggX3_assign_X1_append
theorem dX3_assign_0 : decode cX3_assign 0 = .ok (.aload_n 0, 1) := by decide +kernel
theorem dX3_assign_1 : decode cX3_assign 1 = .ok (.iload_n 1, 1) := by decide +kernel
theorem dX3_assign_2 : decode cX3_assign 2 = .ok (.invokevirtual 61, 3) := by decide +kernel
theorem dX3_assign_5 : decode cX3_assign 5 = .ok (.iload_n 2, 1) := by decide +kernel
theorem dX3_assign_6 : decode cX3_assign 6 = .ok (.ifCond .lt 9, 3) := by decide +kernel
theorem dX3_assign_9 : decode cX3_assign 9 = .ok (.iload_n 2, 1) := by decide +kernel
theorem dX3_assign_10 : decode cX3_assign 10 = .ok (.bipush 6, 2) := by decide +kernel
theorem dX3_assign_12 : decode cX3_assign 12 = .ok (.if_icmp .lt 13, 3) := by decide +kernel
theorem dX3_assign_15 : decode cX3_assign 15 = .ok (.new 98, 3) := by decide +kernel
theorem dX3_assign_18 : decode cX3_assign 18 = .ok (.dup, 1) := by decide +kernel
theorem dX3_assign_19 : decode cX3_assign 19 = .ok (.ldc 100, 2) := by decide +kernel
theorem dX3_assign_21 : decode cX3_assign 21 = .ok (.invokespecial 102, 3) := by decide +kernel
theorem dX3_assign_24 : decode cX3_assign 24 = .ok (.athrow, 1) := by decide +kernel
theorem dX3_assign_25 : decode cX3_assign 25 = .ok (.aload_n 0, 1) := by decide +kernel
theorem dX3_assign_26 : decode cX3_assign 26 = .ok (.iload_n 1, 1) := by decide +kernel
theorem dX3_assign_27 : decode cX3_assign 27 = .ok (.invokevirtual 91, 3) := by decide +kernel
theorem dX3_assign_30 : decode cX3_assign 30 = .ok (.aload_n 0, 1) := by decide +kernel
theorem dX3_assign_31 : decode cX3_assign 31 = .ok (.getfield 10, 3) := by decide +kernel
theorem dX3_assign_34 : decode cX3_assign 34 = .ok (.iload_n 1, 1) := by decide +kernel
theorem dX3_assign_35 : decode cX3_assign 35 = .ok (.iconst 2, 1) := by decide +kernel
theorem dX3_assign_36 : decode cX3_assign 36 = .ok (.iload_n 2, 1) := by decide +kernel
theorem dX3_assign_37 : decode cX3_assign 37 = .ok (.invokevirtual 94, 3) := by decide +kernel
theorem dX3_assign_40 : decode cX3_assign 40 = .ok (.ireturn, 1) := by decide +kernel
set_option maxRecDepth 20000 in
theorem ggX3_drop_X3_requireBlock : GoodIn wsX3_drop wsX3_requireBlock := goodIn_ca (goodIn_r _ [9, 10, 11, 3, 12, 20, 21, 22, 23, 24, 25, 26, 27, 28, 29, 30, 31, 32, 33, 34] (by decide +kernel) (by decide +kernel)) (goodIn_sub (fun _ h => List.mem_cons_of_mem _ (List.mem_append_right _ h)) (by decide +kernel))
set_option maxRecDepth 20000 in
theorem gX3_drop_X3_requireBlock : GoodIn wsX3_drop (wsV RX3 61 RX3 yX3_requireBlock wsX3_requireBlock) := goodIn_app (goodIn_of _ (by decide +kernel)) ggX3_drop_X3_requireBlock
set_option maxRecDepth 20000 in
theorem ggX3_drop_X1_removeLast : GoodIn wsX3_drop wsX1_removeLast := goodIn_r _ [17, 18, 19, 23, 24, 25, 26, 27, 28, 29, 30, 31, 32, 33, 34] (by decide +kernel) (by decide +kernel)
set_option maxRecDepth 20000 in
theorem gX3_drop_X1_removeLast : GoodIn wsX3_drop (wsV RX3 108 RX1 yX1_removeLast wsX1_removeLast) := goodIn_app (goodIn_of _ (by decide +kernel)) ggX3_drop_X1_removeLast
theorem dX3_drop_0 : decode cX3_drop 0 = .ok (.aload_n 0, 1) := by decide +kernel
theorem dX3_drop_1 : decode cX3_drop 1 = .ok (.iload_n 1, 1) := by decide +kernel
theorem dX3_drop_2 : decode cX3_drop 2 = .ok (.invokevirtual 61, 3) := by decide +kernel
theorem dX3_drop_5 : decode cX3_drop 5 = .ok (.aload_n 0, 1) := by decide +kernel
theorem dX3_drop_6 : decode cX3_drop 6 = .ok (.getfield 10, 3) := by decide +kernel
theorem dX3_drop_9 : decode cX3_drop 9 = .ok (.getfield 103, 3) := by decide +kernel
theorem dX3_drop_12 : decode cX3_drop 12 = .ok (.iload_n 1, 1) := by decide +kernel
theorem dX3_drop_13 : decode cX3_drop 13 = .ok (.iaload, 1) := by decide +kernel
theorem dX3_drop_14 : decode cX3_drop 14 = .ok (.ifCond .ne 13, 3) := by decide +kernel
theorem dX3_drop_17 : decode cX3_drop 17 = .ok (.new 43, 3) := by decide +kernel
theorem dX3_drop_20 : decode cX3_drop 20 = .ok (.dup, 1) := by decide +kernel
theorem dX3_drop_21 : decode cX3_drop 21 = .ok (.ldc 106, 2) := by decide +kernel
theorem dX3_drop_23 : decode cX3_drop 23 = .ok (.invokespecial 47, 3) := by decide +kernel
theorem dX3_drop_26 : decode cX3_drop 26 = .ok (.athrow, 1) := by decide +kernel
theorem dX3_drop_27 : decode cX3_drop 27 = .ok (.aload_n 0, 1) := by decide +kernel
theorem dX3_drop_28 : decode cX3_drop 28 = .ok (.getfield 10, 3) := by decide +kernel
theorem dX3_drop_31 : decode cX3_drop 31 = .ok (.iload_n 1, 1) := by decide +kernel
theorem dX3_drop_32 : decode cX3_drop 32 = .ok (.invokevirtual 108, 3) := by decide +kernel
theorem dX3_drop_35 : decode cX3_drop 35 = .ok (.ireturn, 1) := by decide +kernel
theorem dX3_blockCount_0 : decode cX3_blockCount 0 = .ok (.aload_n 0, 1) := by decide +kernel
theorem dX3_blockCount_1 : decode cX3_blockCount 1 = .ok (.getfield 10, 3) := by decide +kernel
theorem dX3_blockCount_4 : decode cX3_blockCount 4 = .ok (.getfield 52, 3) := by decide +kernel
theorem dX3_blockCount_7 : decode cX3_blockCount 7 = .ok (.ireturn, 1) := by decide +kernel
theorem dX3_edgeCount_0 : decode cX3_edgeCount 0 = .ok (.aload_n 0, 1) := by decide +kernel
theorem dX3_edgeCount_1 : decode cX3_edgeCount 1 = .ok (.getfield 10, 3) := by decide +kernel
theorem dX3_edgeCount_4 : decode cX3_edgeCount 4 = .ok (.getfield 79, 3) := by decide +kernel
theorem dX3_edgeCount_7 : decode cX3_edgeCount 7 = .ok (.ireturn, 1) := by decide +kernel
set_option maxRecDepth 20000 in
theorem ggX3_size_X3_requireBlock : GoodIn wsX3_size wsX3_requireBlock := goodIn_ca (goodIn_r _ [7, 8, 9, 1, 10, 11, 12, 13, 14, 15, 16, 17, 18, 19, 20, 21, 22, 23, 24, 25] (by decide +kernel) (by decide +kernel)) (goodIn_sub (fun _ h => List.mem_cons_of_mem _ (List.mem_append_right _ h)) (by decide +kernel))
set_option maxRecDepth 20000 in
theorem gX3_size_X3_requireBlock : GoodIn wsX3_size (wsV RX3 61 RX3 yX3_requireBlock wsX3_requireBlock) := goodIn_app (goodIn_of _ (by decide +kernel)) ggX3_size_X3_requireBlock
theorem dX3_size_0 : decode cX3_size 0 = .ok (.aload_n 0, 1) := by decide +kernel
theorem dX3_size_1 : decode cX3_size 1 = .ok (.iload_n 1, 1) := by decide +kernel
theorem dX3_size_2 : decode cX3_size 2 = .ok (.invokevirtual 61, 3) := by decide +kernel
theorem dX3_size_5 : decode cX3_size 5 = .ok (.aload_n 0, 1) := by decide +kernel
theorem dX3_size_6 : decode cX3_size 6 = .ok (.getfield 10, 3) := by decide +kernel
theorem dX3_size_9 : decode cX3_size 9 = .ok (.getfield 103, 3) := by decide +kernel
theorem dX3_size_12 : decode cX3_size 12 = .ok (.iload_n 1, 1) := by decide +kernel
theorem dX3_size_13 : decode cX3_size 13 = .ok (.iaload, 1) := by decide +kernel
theorem dX3_size_14 : decode cX3_size 14 = .ok (.ireturn, 1) := by decide +kernel
set_option maxRecDepth 20000 in
theorem ggX3_instruction_X3_requireBlock : GoodIn wsX3_instruction wsX3_requireBlock := goodIn_ca (goodIn_r _ [9, 1, 2, 3, 10, 17, 18, 19, 20, 21, 22, 23, 24, 25, 26, 27, 28, 29, 30, 31] (by decide +kernel) (by decide +kernel)) (goodIn_sub (fun _ h => List.mem_cons_of_mem _ (List.mem_append_right _ h)) (by decide +kernel))
set_option maxRecDepth 20000 in
theorem gX3_instruction_X3_requireBlock : GoodIn wsX3_instruction (wsV RX3 61 RX3 yX3_requireBlock wsX3_requireBlock) := goodIn_app (goodIn_of _ (by decide +kernel)) ggX3_instruction_X3_requireBlock
set_option maxRecDepth 20000 in
theorem ggX3_instruction_X1_codeAt : GoodIn wsX3_instruction wsX1_codeAt := goodIn_r _ [15, 16, 20, 21, 22, 23, 24, 25, 26, 27, 28, 29, 30, 31] (by decide +kernel) (by decide +kernel)
set_option maxRecDepth 20000 in
theorem gX3_instruction_X1_codeAt : GoodIn wsX3_instruction (wsV RX3 113 RX1 yX1_codeAt wsX1_codeAt) := goodIn_app (goodIn_of _ (by decide +kernel)) ggX3_instruction_X1_codeAt
theorem dX3_instruction_0 : decode cX3_instruction 0 = .ok (.aload_n 0, 1) := by decide +kernel
theorem dX3_instruction_1 : decode cX3_instruction 1 = .ok (.iload_n 1, 1) := by decide +kernel
theorem dX3_instruction_2 : decode cX3_instruction 2 = .ok (.invokevirtual 61, 3) := by decide +kernel
theorem dX3_instruction_5 : decode cX3_instruction 5 = .ok (.iload_n 2, 1) := by decide +kernel
theorem dX3_instruction_6 : decode cX3_instruction 6 = .ok (.ifCond .lt 16, 3) := by decide +kernel
theorem dX3_instruction_9 : decode cX3_instruction 9 = .ok (.iload_n 2, 1) := by decide +kernel
theorem dX3_instruction_10 : decode cX3_instruction 10 = .ok (.aload_n 0, 1) := by decide +kernel
theorem dX3_instruction_11 : decode cX3_instruction 11 = .ok (.getfield 10, 3) := by decide +kernel
theorem dX3_instruction_14 : decode cX3_instruction 14 = .ok (.getfield 103, 3) := by decide +kernel
theorem dX3_instruction_17 : decode cX3_instruction 17 = .ok (.iload_n 1, 1) := by decide +kernel
theorem dX3_instruction_18 : decode cX3_instruction 18 = .ok (.iaload, 1) := by decide +kernel
theorem dX3_instruction_19 : decode cX3_instruction 19 = .ok (.if_icmp .lt 13, 3) := by decide +kernel
theorem dX3_instruction_22 : decode cX3_instruction 22 = .ok (.new 98, 3) := by decide +kernel
theorem dX3_instruction_25 : decode cX3_instruction 25 = .ok (.dup, 1) := by decide +kernel
theorem dX3_instruction_26 : decode cX3_instruction 26 = .ok (.ldc 111, 2) := by decide +kernel
theorem dX3_instruction_28 : decode cX3_instruction 28 = .ok (.invokespecial 102, 3) := by decide +kernel
theorem dX3_instruction_31 : decode cX3_instruction 31 = .ok (.athrow, 1) := by decide +kernel
theorem dX3_instruction_32 : decode cX3_instruction 32 = .ok (.aload_n 0, 1) := by decide +kernel
theorem dX3_instruction_33 : decode cX3_instruction 33 = .ok (.getfield 10, 3) := by decide +kernel
theorem dX3_instruction_36 : decode cX3_instruction 36 = .ok (.iload_n 1, 1) := by decide +kernel
theorem dX3_instruction_37 : decode cX3_instruction 37 = .ok (.iload_n 2, 1) := by decide +kernel
theorem dX3_instruction_38 : decode cX3_instruction 38 = .ok (.invokevirtual 113, 3) := by decide +kernel
theorem dX3_instruction_41 : decode cX3_instruction 41 = .ok (.ireturn, 1) := by decide +kernel
set_option maxRecDepth 20000 in
theorem ggX3_ends_X3_requireEdge : GoodIn wsX3_ends wsX3_requireEdge := goodIn_ca (goodIn_r _ [6, 7, 8, 1, 9, 17, 18, 19, 20, 21, 22, 23, 24, 25, 26, 27, 28, 29, 30, 31] (by decide +kernel) (by decide +kernel)) (goodIn_sub (fun _ h => List.mem_cons_of_mem _ (List.mem_append_right _ h)) (by decide +kernel))
set_option maxRecDepth 20000 in
theorem gX3_ends_X3_requireEdge : GoodIn wsX3_ends (wsV RX3 116 RX3 yX3_requireEdge wsX3_requireEdge) := goodIn_app (goodIn_of _ (by decide +kernel)) ggX3_ends_X3_requireEdge
set_option maxRecDepth 20000 in
theorem ggX3_ends_X1_endsOf : GoodIn wsX3_ends wsX1_endsOf := goodIn_r _ [14, 15, 16, 20, 21, 22, 23, 24, 25, 26, 27, 28, 29, 30, 31] (by decide +kernel) (by decide +kernel)
set_option maxRecDepth 20000 in
theorem gX3_ends_X1_endsOf : GoodIn wsX3_ends (wsV RX3 119 RX1 yX1_endsOf wsX1_endsOf) := goodIn_app (goodIn_of _ (by decide +kernel)) ggX3_ends_X1_endsOf
theorem dX3_ends_0 : decode cX3_ends 0 = .ok (.aload_n 0, 1) := by decide +kernel
theorem dX3_ends_1 : decode cX3_ends 1 = .ok (.iload_n 1, 1) := by decide +kernel
theorem dX3_ends_2 : decode cX3_ends 2 = .ok (.invokevirtual 116, 3) := by decide +kernel
theorem dX3_ends_5 : decode cX3_ends 5 = .ok (.aload_n 0, 1) := by decide +kernel
theorem dX3_ends_6 : decode cX3_ends 6 = .ok (.getfield 10, 3) := by decide +kernel
theorem dX3_ends_9 : decode cX3_ends 9 = .ok (.iload_n 1, 1) := by decide +kernel
theorem dX3_ends_10 : decode cX3_ends 10 = .ok (.invokevirtual 119, 3) := by decide +kernel
theorem dX3_ends_13 : decode cX3_ends 13 = .ok (.ireturn, 1) := by decide +kernel
set_option maxRecDepth 20000 in
theorem ggX3_kept_X3_requireBlock : GoodIn wsX3_kept wsX3_requireBlock := goodIn_ca (goodIn_r _ [7, 8, 9, 10, 11, 101, 102, 103, 117, 118, 119, 120, 121, 122, 123, 124, 125, 126, 127, 128] (by decide +kernel) (by decide +kernel)) (goodIn_sub (fun _ h => List.mem_cons_of_mem _ (List.mem_append_right _ h)) (by decide +kernel))
set_option maxRecDepth 20000 in
theorem gX3_kept_X3_requireBlock : GoodIn wsX3_kept (wsV RX3 61 RX3 yX3_requireBlock wsX3_requireBlock) := goodIn_app (goodIn_of _ (by decide +kernel)) ggX3_kept_X3_requireBlock
set_option maxRecDepth 20000 in
theorem ggX3_kept_X2_bringUpToDate : GoodIn wsX3_kept wsX2_bringUpToDate := goodIn_r _ [16, 17, 18, 19, 20, 21, 22, 15, 23, 24, 25, 26, 27, 28, 29, 30, 31, 32, 33, 34, 35, 36, 37, 38, 39, 40, 41, 42, 43, 44, 45, 46, 47, 48, 49, 50, 51, 52, 53, 54, 55, 56, 57, 58, 59, 60, 61, 62, 63, 64, 65, 66, 67, 68, 69, 70, 71, 72, 73, 74, 75, 76, 77, 78, 79, 80, 81, 82, 83, 84, 85, 86, 87, 88, 89, 90, 91, 92, 93, 94, 95, 96, 97, 98, 99, 100, 104, 105, 106, 107, 108, 109, 110, 111, 112, 113, 114, 115, 116, 117, 118, 119, 120, 121, 122, 123, 124, 125, 126, 127, 128] (by decide +kernel) (by decide +kernel)
set_option maxRecDepth 20000 in
theorem gX3_kept_X2_bringUpToDate : GoodIn wsX3_kept (wsV RX3 122 RX2 yX2_bringUpToDate wsX2_bringUpToDate) := goodIn_app (goodIn_of _ (by decide +kernel)) ggX3_kept_X2_bringUpToDate
theorem dX3_kept_0 : decode cX3_kept 0 = .ok (.aload_n 0, 1) := by decide +kernel
theorem dX3_kept_1 : decode cX3_kept 1 = .ok (.iload_n 1, 1) := by decide +kernel
theorem dX3_kept_2 : decode cX3_kept 2 = .ok (.invokevirtual 61, 3) := by decide +kernel
theorem dX3_kept_5 : decode cX3_kept 5 = .ok (.aload_n 0, 1) := by decide +kernel
theorem dX3_kept_6 : decode cX3_kept 6 = .ok (.getfield 21, 3) := by decide +kernel
theorem dX3_kept_9 : decode cX3_kept 9 = .ok (.invokevirtual 122, 3) := by decide +kernel
theorem dX3_kept_12 : decode cX3_kept 12 = .ok (.aload_n 0, 1) := by decide +kernel
theorem dX3_kept_13 : decode cX3_kept 13 = .ok (.getfield 21, 3) := by decide +kernel
theorem dX3_kept_16 : decode cX3_kept 16 = .ok (.getfield 125, 3) := by decide +kernel
theorem dX3_kept_19 : decode cX3_kept 19 = .ok (.iload_n 1, 1) := by decide +kernel
theorem dX3_kept_20 : decode cX3_kept 20 = .ok (.iaload, 1) := by decide +kernel
theorem dX3_kept_21 : decode cX3_kept 21 = .ok (.ireturn, 1) := by decide +kernel
set_option maxRecDepth 20000 in
theorem ggX3_early_X3_requireBlock : GoodIn wsX3_early wsX3_requireBlock := goodIn_ca (goodIn_r _ [7, 8, 9, 10, 11, 101, 102, 103, 117, 118, 119, 120, 121, 122, 123, 124, 125, 126, 127, 128] (by decide +kernel) (by decide +kernel)) (goodIn_sub (fun _ h => List.mem_cons_of_mem _ (List.mem_append_right _ h)) (by decide +kernel))
set_option maxRecDepth 20000 in
theorem gX3_early_X3_requireBlock : GoodIn wsX3_early (wsV RX3 61 RX3 yX3_requireBlock wsX3_requireBlock) := goodIn_app (goodIn_of _ (by decide +kernel)) ggX3_early_X3_requireBlock
set_option maxRecDepth 20000 in
theorem ggX3_early_X2_bringUpToDate : GoodIn wsX3_early wsX2_bringUpToDate := goodIn_r _ [16, 17, 18, 19, 20, 21, 22, 15, 23, 24, 25, 26, 27, 28, 29, 30, 31, 32, 33, 34, 35, 36, 37, 38, 39, 40, 41, 42, 43, 44, 45, 46, 47, 48, 49, 50, 51, 52, 53, 54, 55, 56, 57, 58, 59, 60, 61, 62, 63, 64, 65, 66, 67, 68, 69, 70, 71, 72, 73, 74, 75, 76, 77, 78, 79, 80, 81, 82, 83, 84, 85, 86, 87, 88, 89, 90, 91, 92, 93, 94, 95, 96, 97, 98, 99, 100, 104, 105, 106, 107, 108, 109, 110, 111, 112, 113, 114, 115, 116, 117, 118, 119, 120, 121, 122, 123, 124, 125, 126, 127, 128] (by decide +kernel) (by decide +kernel)
set_option maxRecDepth 20000 in
theorem gX3_early_X2_bringUpToDate : GoodIn wsX3_early (wsV RX3 122 RX2 yX2_bringUpToDate wsX2_bringUpToDate) := goodIn_app (goodIn_of _ (by decide +kernel)) ggX3_early_X2_bringUpToDate
theorem dX3_early_0 : decode cX3_early 0 = .ok (.aload_n 0, 1) := by decide +kernel
theorem dX3_early_1 : decode cX3_early 1 = .ok (.iload_n 1, 1) := by decide +kernel
theorem dX3_early_2 : decode cX3_early 2 = .ok (.invokevirtual 61, 3) := by decide +kernel
theorem dX3_early_5 : decode cX3_early 5 = .ok (.aload_n 0, 1) := by decide +kernel
theorem dX3_early_6 : decode cX3_early 6 = .ok (.getfield 21, 3) := by decide +kernel
theorem dX3_early_9 : decode cX3_early 9 = .ok (.invokevirtual 122, 3) := by decide +kernel
theorem dX3_early_12 : decode cX3_early 12 = .ok (.aload_n 0, 1) := by decide +kernel
theorem dX3_early_13 : decode cX3_early 13 = .ok (.getfield 21, 3) := by decide +kernel
theorem dX3_early_16 : decode cX3_early 16 = .ok (.getfield 128, 3) := by decide +kernel
theorem dX3_early_19 : decode cX3_early 19 = .ok (.iload_n 1, 1) := by decide +kernel
theorem dX3_early_20 : decode cX3_early 20 = .ok (.iaload, 1) := by decide +kernel
theorem dX3_early_21 : decode cX3_early 21 = .ok (.ireturn, 1) := by decide +kernel
set_option maxRecDepth 20000 in
theorem ggX3_late_X3_requireBlock : GoodIn wsX3_late wsX3_requireBlock := goodIn_ca (goodIn_r _ [7, 8, 9, 10, 11, 101, 102, 103, 117, 118, 119, 120, 121, 122, 123, 124, 125, 126, 127, 128] (by decide +kernel) (by decide +kernel)) (goodIn_sub (fun _ h => List.mem_cons_of_mem _ (List.mem_append_right _ h)) (by decide +kernel))
set_option maxRecDepth 20000 in
theorem gX3_late_X3_requireBlock : GoodIn wsX3_late (wsV RX3 61 RX3 yX3_requireBlock wsX3_requireBlock) := goodIn_app (goodIn_of _ (by decide +kernel)) ggX3_late_X3_requireBlock
set_option maxRecDepth 20000 in
theorem ggX3_late_X2_bringUpToDate : GoodIn wsX3_late wsX2_bringUpToDate := goodIn_r _ [16, 17, 18, 19, 20, 21, 22, 15, 23, 24, 25, 26, 27, 28, 29, 30, 31, 32, 33, 34, 35, 36, 37, 38, 39, 40, 41, 42, 43, 44, 45, 46, 47, 48, 49, 50, 51, 52, 53, 54, 55, 56, 57, 58, 59, 60, 61, 62, 63, 64, 65, 66, 67, 68, 69, 70, 71, 72, 73, 74, 75, 76, 77, 78, 79, 80, 81, 82, 83, 84, 85, 86, 87, 88, 89, 90, 91, 92, 93, 94, 95, 96, 97, 98, 99, 100, 104, 105, 106, 107, 108, 109, 110, 111, 112, 113, 114, 115, 116, 117, 118, 119, 120, 121, 122, 123, 124, 125, 126, 127, 128] (by decide +kernel) (by decide +kernel)
set_option maxRecDepth 20000 in
theorem gX3_late_X2_bringUpToDate : GoodIn wsX3_late (wsV RX3 122 RX2 yX2_bringUpToDate wsX2_bringUpToDate) := goodIn_app (goodIn_of _ (by decide +kernel)) ggX3_late_X2_bringUpToDate
theorem dX3_late_0 : decode cX3_late 0 = .ok (.aload_n 0, 1) := by decide +kernel
theorem dX3_late_1 : decode cX3_late 1 = .ok (.iload_n 1, 1) := by decide +kernel
theorem dX3_late_2 : decode cX3_late 2 = .ok (.invokevirtual 61, 3) := by decide +kernel
theorem dX3_late_5 : decode cX3_late 5 = .ok (.aload_n 0, 1) := by decide +kernel
theorem dX3_late_6 : decode cX3_late 6 = .ok (.getfield 21, 3) := by decide +kernel
theorem dX3_late_9 : decode cX3_late 9 = .ok (.invokevirtual 122, 3) := by decide +kernel
theorem dX3_late_12 : decode cX3_late 12 = .ok (.aload_n 0, 1) := by decide +kernel
theorem dX3_late_13 : decode cX3_late 13 = .ok (.getfield 21, 3) := by decide +kernel
theorem dX3_late_16 : decode cX3_late 16 = .ok (.getfield 131, 3) := by decide +kernel
theorem dX3_late_19 : decode cX3_late 19 = .ok (.iload_n 1, 1) := by decide +kernel
theorem dX3_late_20 : decode cX3_late 20 = .ok (.iaload, 1) := by decide +kernel
theorem dX3_late_21 : decode cX3_late 21 = .ok (.ireturn, 1) := by decide +kernel
set_option maxRecDepth 20000 in
theorem ggX3_needed_X3_requireBlock : GoodIn wsX3_needed wsX3_requireBlock := goodIn_ca (goodIn_r _ [8, 9, 10, 11, 12, 102, 103, 104, 118, 119, 120, 121, 122, 123, 124, 125, 126, 127, 128, 129] (by decide +kernel) (by decide +kernel)) (goodIn_sub (fun _ h => List.mem_cons_of_mem _ (List.mem_append_right _ h)) (by decide +kernel))
set_option maxRecDepth 20000 in
theorem gX3_needed_X3_requireBlock : GoodIn wsX3_needed (wsV RX3 61 RX3 yX3_requireBlock wsX3_requireBlock) := goodIn_app (goodIn_of _ (by decide +kernel)) ggX3_needed_X3_requireBlock
set_option maxRecDepth 20000 in
theorem ggX3_needed_X2_bringUpToDate : GoodIn wsX3_needed wsX2_bringUpToDate := goodIn_r _ [17, 18, 19, 20, 21, 22, 23, 16, 24, 25, 26, 27, 28, 29, 30, 31, 32, 33, 34, 35, 36, 37, 38, 39, 40, 41, 42, 43, 44, 45, 46, 47, 48, 49, 50, 51, 52, 53, 54, 55, 56, 57, 58, 59, 60, 61, 62, 63, 64, 65, 66, 67, 68, 69, 70, 71, 72, 73, 74, 75, 76, 77, 78, 79, 80, 81, 82, 83, 84, 85, 86, 87, 88, 89, 90, 91, 92, 93, 94, 95, 96, 97, 98, 99, 100, 101, 105, 106, 107, 108, 109, 110, 111, 112, 113, 114, 115, 116, 117, 118, 119, 120, 121, 122, 123, 124, 125, 126, 127, 128, 129] (by decide +kernel) (by decide +kernel)
set_option maxRecDepth 20000 in
theorem gX3_needed_X2_bringUpToDate : GoodIn wsX3_needed (wsV RX3 122 RX2 yX2_bringUpToDate wsX2_bringUpToDate) := goodIn_app (goodIn_of _ (by decide +kernel)) ggX3_needed_X2_bringUpToDate
theorem dX3_needed_0 : decode cX3_needed 0 = .ok (.aload_n 0, 1) := by decide +kernel
theorem dX3_needed_1 : decode cX3_needed 1 = .ok (.iload_n 1, 1) := by decide +kernel
theorem dX3_needed_2 : decode cX3_needed 2 = .ok (.invokevirtual 61, 3) := by decide +kernel
theorem dX3_needed_5 : decode cX3_needed 5 = .ok (.aload_n 0, 1) := by decide +kernel
theorem dX3_needed_6 : decode cX3_needed 6 = .ok (.getfield 21, 3) := by decide +kernel
theorem dX3_needed_9 : decode cX3_needed 9 = .ok (.invokevirtual 122, 3) := by decide +kernel
theorem dX3_needed_12 : decode cX3_needed 12 = .ok (.iload_n 2, 1) := by decide +kernel
theorem dX3_needed_13 : decode cX3_needed 13 = .ok (.ifCond .eq 15, 3) := by decide +kernel
theorem dX3_needed_16 : decode cX3_needed 16 = .ok (.aload_n 0, 1) := by decide +kernel
theorem dX3_needed_17 : decode cX3_needed 17 = .ok (.getfield 21, 3) := by decide +kernel
theorem dX3_needed_20 : decode cX3_needed 20 = .ok (.getfield 134, 3) := by decide +kernel
theorem dX3_needed_23 : decode cX3_needed 23 = .ok (.iload_n 1, 1) := by decide +kernel
theorem dX3_needed_24 : decode cX3_needed 24 = .ok (.iaload, 1) := by decide +kernel
theorem dX3_needed_25 : decode cX3_needed 25 = .ok (.goto 12, 3) := by decide +kernel
theorem dX3_needed_28 : decode cX3_needed 28 = .ok (.aload_n 0, 1) := by decide +kernel
theorem dX3_needed_29 : decode cX3_needed 29 = .ok (.getfield 21, 3) := by decide +kernel
theorem dX3_needed_32 : decode cX3_needed 32 = .ok (.getfield 137, 3) := by decide +kernel
theorem dX3_needed_35 : decode cX3_needed 35 = .ok (.iload_n 1, 1) := by decide +kernel
theorem dX3_needed_36 : decode cX3_needed 36 = .ok (.iaload, 1) := by decide +kernel
theorem dX3_needed_37 : decode cX3_needed 37 = .ok (.ireturn, 1) := by decide +kernel
set_option maxRecDepth 20000 in
theorem ggX3_there_X3_requireBlock : GoodIn wsX3_there wsX3_requireBlock := goodIn_ca (goodIn_r _ [8, 9, 10, 11, 12, 102, 103, 104, 118, 119, 120, 121, 122, 123, 124, 125, 126, 127, 128, 129] (by decide +kernel) (by decide +kernel)) (goodIn_sub (fun _ h => List.mem_cons_of_mem _ (List.mem_append_right _ h)) (by decide +kernel))
set_option maxRecDepth 20000 in
theorem gX3_there_X3_requireBlock : GoodIn wsX3_there (wsV RX3 61 RX3 yX3_requireBlock wsX3_requireBlock) := goodIn_app (goodIn_of _ (by decide +kernel)) ggX3_there_X3_requireBlock
set_option maxRecDepth 20000 in
theorem ggX3_there_X2_bringUpToDate : GoodIn wsX3_there wsX2_bringUpToDate := goodIn_r _ [17, 18, 19, 20, 21, 22, 23, 16, 24, 25, 26, 27, 28, 29, 30, 31, 32, 33, 34, 35, 36, 37, 38, 39, 40, 41, 42, 43, 44, 45, 46, 47, 48, 49, 50, 51, 52, 53, 54, 55, 56, 57, 58, 59, 60, 61, 62, 63, 64, 65, 66, 67, 68, 69, 70, 71, 72, 73, 74, 75, 76, 77, 78, 79, 80, 81, 82, 83, 84, 85, 86, 87, 88, 89, 90, 91, 92, 93, 94, 95, 96, 97, 98, 99, 100, 101, 105, 106, 107, 108, 109, 110, 111, 112, 113, 114, 115, 116, 117, 118, 119, 120, 121, 122, 123, 124, 125, 126, 127, 128, 129] (by decide +kernel) (by decide +kernel)
set_option maxRecDepth 20000 in
theorem gX3_there_X2_bringUpToDate : GoodIn wsX3_there (wsV RX3 122 RX2 yX2_bringUpToDate wsX2_bringUpToDate) := goodIn_app (goodIn_of _ (by decide +kernel)) ggX3_there_X2_bringUpToDate
theorem dX3_there_0 : decode cX3_there 0 = .ok (.aload_n 0, 1) := by decide +kernel
theorem dX3_there_1 : decode cX3_there 1 = .ok (.iload_n 1, 1) := by decide +kernel
theorem dX3_there_2 : decode cX3_there 2 = .ok (.invokevirtual 61, 3) := by decide +kernel
theorem dX3_there_5 : decode cX3_there 5 = .ok (.aload_n 0, 1) := by decide +kernel
theorem dX3_there_6 : decode cX3_there 6 = .ok (.getfield 21, 3) := by decide +kernel
theorem dX3_there_9 : decode cX3_there 9 = .ok (.invokevirtual 122, 3) := by decide +kernel
theorem dX3_there_12 : decode cX3_there 12 = .ok (.iload_n 2, 1) := by decide +kernel
theorem dX3_there_13 : decode cX3_there 13 = .ok (.ifCond .eq 15, 3) := by decide +kernel
theorem dX3_there_16 : decode cX3_there 16 = .ok (.aload_n 0, 1) := by decide +kernel
theorem dX3_there_17 : decode cX3_there 17 = .ok (.getfield 21, 3) := by decide +kernel
theorem dX3_there_20 : decode cX3_there 20 = .ok (.getfield 140, 3) := by decide +kernel
theorem dX3_there_23 : decode cX3_there 23 = .ok (.iload_n 1, 1) := by decide +kernel
theorem dX3_there_24 : decode cX3_there 24 = .ok (.iaload, 1) := by decide +kernel
theorem dX3_there_25 : decode cX3_there 25 = .ok (.goto 12, 3) := by decide +kernel
theorem dX3_there_28 : decode cX3_there 28 = .ok (.aload_n 0, 1) := by decide +kernel
theorem dX3_there_29 : decode cX3_there 29 = .ok (.getfield 21, 3) := by decide +kernel
theorem dX3_there_32 : decode cX3_there 32 = .ok (.getfield 143, 3) := by decide +kernel
theorem dX3_there_35 : decode cX3_there 35 = .ok (.iload_n 1, 1) := by decide +kernel
theorem dX3_there_36 : decode cX3_there 36 = .ok (.iaload, 1) := by decide +kernel
theorem dX3_there_37 : decode cX3_there 37 = .ok (.ireturn, 1) := by decide +kernel
set_option maxRecDepth 20000 in
theorem ggX3_earliest_X3_requireEdge : GoodIn wsX3_earliest wsX3_requireEdge := goodIn_ca (goodIn_r _ [7, 8, 9, 10, 11, 101, 102, 103, 117, 118, 119, 120, 121, 122, 123, 124, 125, 126, 127, 128] (by decide +kernel) (by decide +kernel)) (goodIn_sub (fun _ h => List.mem_cons_of_mem _ (List.mem_append_right _ h)) (by decide +kernel))
set_option maxRecDepth 20000 in
theorem gX3_earliest_X3_requireEdge : GoodIn wsX3_earliest (wsV RX3 116 RX3 yX3_requireEdge wsX3_requireEdge) := goodIn_app (goodIn_of _ (by decide +kernel)) ggX3_earliest_X3_requireEdge
set_option maxRecDepth 20000 in
theorem ggX3_earliest_X2_bringUpToDate : GoodIn wsX3_earliest wsX2_bringUpToDate := goodIn_r _ [16, 17, 18, 19, 20, 21, 22, 15, 23, 24, 25, 26, 27, 28, 29, 30, 31, 32, 33, 34, 35, 36, 37, 38, 39, 40, 41, 42, 43, 44, 45, 46, 47, 48, 49, 50, 51, 52, 53, 54, 55, 56, 57, 58, 59, 60, 61, 62, 63, 64, 65, 66, 67, 68, 69, 70, 71, 72, 73, 74, 75, 76, 77, 78, 79, 80, 81, 82, 83, 84, 85, 86, 87, 88, 89, 90, 91, 92, 93, 94, 95, 96, 97, 98, 99, 100, 104, 105, 106, 107, 108, 109, 110, 111, 112, 113, 114, 115, 116, 117, 118, 119, 120, 121, 122, 123, 124, 125, 126, 127, 128] (by decide +kernel) (by decide +kernel)
set_option maxRecDepth 20000 in
theorem gX3_earliest_X2_bringUpToDate : GoodIn wsX3_earliest (wsV RX3 122 RX2 yX2_bringUpToDate wsX2_bringUpToDate) := goodIn_app (goodIn_of _ (by decide +kernel)) ggX3_earliest_X2_bringUpToDate
theorem dX3_earliest_0 : decode cX3_earliest 0 = .ok (.aload_n 0, 1) := by decide +kernel
theorem dX3_earliest_1 : decode cX3_earliest 1 = .ok (.iload_n 1, 1) := by decide +kernel
theorem dX3_earliest_2 : decode cX3_earliest 2 = .ok (.invokevirtual 116, 3) := by decide +kernel
theorem dX3_earliest_5 : decode cX3_earliest 5 = .ok (.aload_n 0, 1) := by decide +kernel
theorem dX3_earliest_6 : decode cX3_earliest 6 = .ok (.getfield 21, 3) := by decide +kernel
theorem dX3_earliest_9 : decode cX3_earliest 9 = .ok (.invokevirtual 122, 3) := by decide +kernel
theorem dX3_earliest_12 : decode cX3_earliest 12 = .ok (.aload_n 0, 1) := by decide +kernel
theorem dX3_earliest_13 : decode cX3_earliest 13 = .ok (.getfield 21, 3) := by decide +kernel
theorem dX3_earliest_16 : decode cX3_earliest 16 = .ok (.getfield 146, 3) := by decide +kernel
theorem dX3_earliest_19 : decode cX3_earliest 19 = .ok (.iload_n 1, 1) := by decide +kernel
theorem dX3_earliest_20 : decode cX3_earliest 20 = .ok (.iaload, 1) := by decide +kernel
theorem dX3_earliest_21 : decode cX3_earliest 21 = .ok (.ireturn, 1) := by decide +kernel
set_option maxRecDepth 20000 in
theorem ggX3_delayedOn_X3_requireEdge : GoodIn wsX3_delayedOn wsX3_requireEdge := goodIn_ca (goodIn_r _ [7, 8, 9, 10, 11, 101, 102, 103, 117, 118, 119, 120, 121, 122, 123, 124, 125, 126, 127, 128] (by decide +kernel) (by decide +kernel)) (goodIn_sub (fun _ h => List.mem_cons_of_mem _ (List.mem_append_right _ h)) (by decide +kernel))
set_option maxRecDepth 20000 in
theorem gX3_delayedOn_X3_requireEdge : GoodIn wsX3_delayedOn (wsV RX3 116 RX3 yX3_requireEdge wsX3_requireEdge) := goodIn_app (goodIn_of _ (by decide +kernel)) ggX3_delayedOn_X3_requireEdge
set_option maxRecDepth 20000 in
theorem ggX3_delayedOn_X2_bringUpToDate : GoodIn wsX3_delayedOn wsX2_bringUpToDate := goodIn_r _ [16, 17, 18, 19, 20, 21, 22, 15, 23, 24, 25, 26, 27, 28, 29, 30, 31, 32, 33, 34, 35, 36, 37, 38, 39, 40, 41, 42, 43, 44, 45, 46, 47, 48, 49, 50, 51, 52, 53, 54, 55, 56, 57, 58, 59, 60, 61, 62, 63, 64, 65, 66, 67, 68, 69, 70, 71, 72, 73, 74, 75, 76, 77, 78, 79, 80, 81, 82, 83, 84, 85, 86, 87, 88, 89, 90, 91, 92, 93, 94, 95, 96, 97, 98, 99, 100, 104, 105, 106, 107, 108, 109, 110, 111, 112, 113, 114, 115, 116, 117, 118, 119, 120, 121, 122, 123, 124, 125, 126, 127, 128] (by decide +kernel) (by decide +kernel)
set_option maxRecDepth 20000 in
theorem gX3_delayedOn_X2_bringUpToDate : GoodIn wsX3_delayedOn (wsV RX3 122 RX2 yX2_bringUpToDate wsX2_bringUpToDate) := goodIn_app (goodIn_of _ (by decide +kernel)) ggX3_delayedOn_X2_bringUpToDate
theorem dX3_delayedOn_0 : decode cX3_delayedOn 0 = .ok (.aload_n 0, 1) := by decide +kernel
theorem dX3_delayedOn_1 : decode cX3_delayedOn 1 = .ok (.iload_n 1, 1) := by decide +kernel
theorem dX3_delayedOn_2 : decode cX3_delayedOn 2 = .ok (.invokevirtual 116, 3) := by decide +kernel
theorem dX3_delayedOn_5 : decode cX3_delayedOn 5 = .ok (.aload_n 0, 1) := by decide +kernel
theorem dX3_delayedOn_6 : decode cX3_delayedOn 6 = .ok (.getfield 21, 3) := by decide +kernel
theorem dX3_delayedOn_9 : decode cX3_delayedOn 9 = .ok (.invokevirtual 122, 3) := by decide +kernel
theorem dX3_delayedOn_12 : decode cX3_delayedOn 12 = .ok (.aload_n 0, 1) := by decide +kernel
theorem dX3_delayedOn_13 : decode cX3_delayedOn 13 = .ok (.getfield 21, 3) := by decide +kernel
theorem dX3_delayedOn_16 : decode cX3_delayedOn 16 = .ok (.getfield 149, 3) := by decide +kernel
theorem dX3_delayedOn_19 : decode cX3_delayedOn 19 = .ok (.iload_n 1, 1) := by decide +kernel
theorem dX3_delayedOn_20 : decode cX3_delayedOn 20 = .ok (.iaload, 1) := by decide +kernel
theorem dX3_delayedOn_21 : decode cX3_delayedOn 21 = .ok (.ireturn, 1) := by decide +kernel
set_option maxRecDepth 20000 in
theorem ggX3_delayedAt_X3_requireBlock : GoodIn wsX3_delayedAt wsX3_requireBlock := goodIn_ca (goodIn_r _ [7, 8, 9, 10, 11, 101, 102, 103, 117, 118, 119, 120, 121, 122, 123, 124, 125, 126, 127, 128] (by decide +kernel) (by decide +kernel)) (goodIn_sub (fun _ h => List.mem_cons_of_mem _ (List.mem_append_right _ h)) (by decide +kernel))
set_option maxRecDepth 20000 in
theorem gX3_delayedAt_X3_requireBlock : GoodIn wsX3_delayedAt (wsV RX3 61 RX3 yX3_requireBlock wsX3_requireBlock) := goodIn_app (goodIn_of _ (by decide +kernel)) ggX3_delayedAt_X3_requireBlock
set_option maxRecDepth 20000 in
theorem ggX3_delayedAt_X2_bringUpToDate : GoodIn wsX3_delayedAt wsX2_bringUpToDate := goodIn_r _ [16, 17, 18, 19, 20, 21, 22, 15, 23, 24, 25, 26, 27, 28, 29, 30, 31, 32, 33, 34, 35, 36, 37, 38, 39, 40, 41, 42, 43, 44, 45, 46, 47, 48, 49, 50, 51, 52, 53, 54, 55, 56, 57, 58, 59, 60, 61, 62, 63, 64, 65, 66, 67, 68, 69, 70, 71, 72, 73, 74, 75, 76, 77, 78, 79, 80, 81, 82, 83, 84, 85, 86, 87, 88, 89, 90, 91, 92, 93, 94, 95, 96, 97, 98, 99, 100, 104, 105, 106, 107, 108, 109, 110, 111, 112, 113, 114, 115, 116, 117, 118, 119, 120, 121, 122, 123, 124, 125, 126, 127, 128] (by decide +kernel) (by decide +kernel)
set_option maxRecDepth 20000 in
theorem gX3_delayedAt_X2_bringUpToDate : GoodIn wsX3_delayedAt (wsV RX3 122 RX2 yX2_bringUpToDate wsX2_bringUpToDate) := goodIn_app (goodIn_of _ (by decide +kernel)) ggX3_delayedAt_X2_bringUpToDate
theorem dX3_delayedAt_0 : decode cX3_delayedAt 0 = .ok (.aload_n 0, 1) := by decide +kernel
theorem dX3_delayedAt_1 : decode cX3_delayedAt 1 = .ok (.iload_n 1, 1) := by decide +kernel
theorem dX3_delayedAt_2 : decode cX3_delayedAt 2 = .ok (.invokevirtual 61, 3) := by decide +kernel
theorem dX3_delayedAt_5 : decode cX3_delayedAt 5 = .ok (.aload_n 0, 1) := by decide +kernel
theorem dX3_delayedAt_6 : decode cX3_delayedAt 6 = .ok (.getfield 21, 3) := by decide +kernel
theorem dX3_delayedAt_9 : decode cX3_delayedAt 9 = .ok (.invokevirtual 122, 3) := by decide +kernel
theorem dX3_delayedAt_12 : decode cX3_delayedAt 12 = .ok (.aload_n 0, 1) := by decide +kernel
theorem dX3_delayedAt_13 : decode cX3_delayedAt 13 = .ok (.getfield 21, 3) := by decide +kernel
theorem dX3_delayedAt_16 : decode cX3_delayedAt 16 = .ok (.getfield 152, 3) := by decide +kernel
theorem dX3_delayedAt_19 : decode cX3_delayedAt 19 = .ok (.iload_n 1, 1) := by decide +kernel
theorem dX3_delayedAt_20 : decode cX3_delayedAt 20 = .ok (.iaload, 1) := by decide +kernel
theorem dX3_delayedAt_21 : decode cX3_delayedAt 21 = .ok (.ireturn, 1) := by decide +kernel
set_option maxRecDepth 20000 in
theorem ggX3_insertions_X3_requireEdge : GoodIn wsX3_insertions wsX3_requireEdge := goodIn_ca (goodIn_r _ [7, 8, 9, 10, 11, 101, 102, 103, 117, 118, 119, 120, 121, 122, 123, 124, 125, 126, 127, 128] (by decide +kernel) (by decide +kernel)) (goodIn_sub (fun _ h => List.mem_cons_of_mem _ (List.mem_append_right _ h)) (by decide +kernel))
set_option maxRecDepth 20000 in
theorem gX3_insertions_X3_requireEdge : GoodIn wsX3_insertions (wsV RX3 116 RX3 yX3_requireEdge wsX3_requireEdge) := goodIn_app (goodIn_of _ (by decide +kernel)) ggX3_insertions_X3_requireEdge
set_option maxRecDepth 20000 in
theorem ggX3_insertions_X2_bringUpToDate : GoodIn wsX3_insertions wsX2_bringUpToDate := goodIn_r _ [16, 17, 18, 19, 20, 21, 22, 15, 23, 24, 25, 26, 27, 28, 29, 30, 31, 32, 33, 34, 35, 36, 37, 38, 39, 40, 41, 42, 43, 44, 45, 46, 47, 48, 49, 50, 51, 52, 53, 54, 55, 56, 57, 58, 59, 60, 61, 62, 63, 64, 65, 66, 67, 68, 69, 70, 71, 72, 73, 74, 75, 76, 77, 78, 79, 80, 81, 82, 83, 84, 85, 86, 87, 88, 89, 90, 91, 92, 93, 94, 95, 96, 97, 98, 99, 100, 104, 105, 106, 107, 108, 109, 110, 111, 112, 113, 114, 115, 116, 117, 118, 119, 120, 121, 122, 123, 124, 125, 126, 127, 128] (by decide +kernel) (by decide +kernel)
set_option maxRecDepth 20000 in
theorem gX3_insertions_X2_bringUpToDate : GoodIn wsX3_insertions (wsV RX3 122 RX2 yX2_bringUpToDate wsX2_bringUpToDate) := goodIn_app (goodIn_of _ (by decide +kernel)) ggX3_insertions_X2_bringUpToDate
theorem dX3_insertions_0 : decode cX3_insertions 0 = .ok (.aload_n 0, 1) := by decide +kernel
theorem dX3_insertions_1 : decode cX3_insertions 1 = .ok (.iload_n 1, 1) := by decide +kernel
theorem dX3_insertions_2 : decode cX3_insertions 2 = .ok (.invokevirtual 116, 3) := by decide +kernel
theorem dX3_insertions_5 : decode cX3_insertions 5 = .ok (.aload_n 0, 1) := by decide +kernel
theorem dX3_insertions_6 : decode cX3_insertions 6 = .ok (.getfield 21, 3) := by decide +kernel
theorem dX3_insertions_9 : decode cX3_insertions 9 = .ok (.invokevirtual 122, 3) := by decide +kernel
theorem dX3_insertions_12 : decode cX3_insertions 12 = .ok (.aload_n 0, 1) := by decide +kernel
theorem dX3_insertions_13 : decode cX3_insertions 13 = .ok (.getfield 21, 3) := by decide +kernel
theorem dX3_insertions_16 : decode cX3_insertions 16 = .ok (.getfield 155, 3) := by decide +kernel
theorem dX3_insertions_19 : decode cX3_insertions 19 = .ok (.iload_n 1, 1) := by decide +kernel
theorem dX3_insertions_20 : decode cX3_insertions 20 = .ok (.iaload, 1) := by decide +kernel
theorem dX3_insertions_21 : decode cX3_insertions 21 = .ok (.ireturn, 1) := by decide +kernel
set_option maxRecDepth 20000 in
theorem ggX3_deletions_X3_requireBlock : GoodIn wsX3_deletions wsX3_requireBlock := goodIn_ca (goodIn_r _ [7, 8, 9, 10, 11, 101, 102, 103, 117, 118, 119, 120, 121, 122, 123, 124, 125, 126, 127, 128] (by decide +kernel) (by decide +kernel)) (goodIn_sub (fun _ h => List.mem_cons_of_mem _ (List.mem_append_right _ h)) (by decide +kernel))
set_option maxRecDepth 20000 in
theorem gX3_deletions_X3_requireBlock : GoodIn wsX3_deletions (wsV RX3 61 RX3 yX3_requireBlock wsX3_requireBlock) := goodIn_app (goodIn_of _ (by decide +kernel)) ggX3_deletions_X3_requireBlock
set_option maxRecDepth 20000 in
theorem ggX3_deletions_X2_bringUpToDate : GoodIn wsX3_deletions wsX2_bringUpToDate := goodIn_r _ [16, 17, 18, 19, 20, 21, 22, 15, 23, 24, 25, 26, 27, 28, 29, 30, 31, 32, 33, 34, 35, 36, 37, 38, 39, 40, 41, 42, 43, 44, 45, 46, 47, 48, 49, 50, 51, 52, 53, 54, 55, 56, 57, 58, 59, 60, 61, 62, 63, 64, 65, 66, 67, 68, 69, 70, 71, 72, 73, 74, 75, 76, 77, 78, 79, 80, 81, 82, 83, 84, 85, 86, 87, 88, 89, 90, 91, 92, 93, 94, 95, 96, 97, 98, 99, 100, 104, 105, 106, 107, 108, 109, 110, 111, 112, 113, 114, 115, 116, 117, 118, 119, 120, 121, 122, 123, 124, 125, 126, 127, 128] (by decide +kernel) (by decide +kernel)
set_option maxRecDepth 20000 in
theorem gX3_deletions_X2_bringUpToDate : GoodIn wsX3_deletions (wsV RX3 122 RX2 yX2_bringUpToDate wsX2_bringUpToDate) := goodIn_app (goodIn_of _ (by decide +kernel)) ggX3_deletions_X2_bringUpToDate
theorem dX3_deletions_0 : decode cX3_deletions 0 = .ok (.aload_n 0, 1) := by decide +kernel
theorem dX3_deletions_1 : decode cX3_deletions 1 = .ok (.iload_n 1, 1) := by decide +kernel
theorem dX3_deletions_2 : decode cX3_deletions 2 = .ok (.invokevirtual 61, 3) := by decide +kernel
theorem dX3_deletions_5 : decode cX3_deletions 5 = .ok (.aload_n 0, 1) := by decide +kernel
theorem dX3_deletions_6 : decode cX3_deletions 6 = .ok (.getfield 21, 3) := by decide +kernel
theorem dX3_deletions_9 : decode cX3_deletions 9 = .ok (.invokevirtual 122, 3) := by decide +kernel
theorem dX3_deletions_12 : decode cX3_deletions 12 = .ok (.aload_n 0, 1) := by decide +kernel
theorem dX3_deletions_13 : decode cX3_deletions 13 = .ok (.getfield 21, 3) := by decide +kernel
theorem dX3_deletions_16 : decode cX3_deletions 16 = .ok (.getfield 158, 3) := by decide +kernel
theorem dX3_deletions_19 : decode cX3_deletions 19 = .ok (.iload_n 1, 1) := by decide +kernel
theorem dX3_deletions_20 : decode cX3_deletions 20 = .ok (.iaload, 1) := by decide +kernel
theorem dX3_deletions_21 : decode cX3_deletions 21 = .ok (.ireturn, 1) := by decide +kernel
set_option maxRecDepth 20000 in
theorem ggX3_move_X2_bringUpToDate : GoodIn wsX3_move wsX2_bringUpToDate := goodIn_r _ [11, 12, 13, 14, 15, 16, 17, 10, 18, 19, 20, 21, 22, 23, 24, 25, 26, 27, 28, 29, 30, 31, 32, 33, 34, 35, 36, 37, 38, 39, 40, 41, 42, 43, 44, 45, 46, 47, 48, 49, 50, 51, 52, 53, 54, 55, 56, 57, 58, 59, 60, 61, 62, 63, 64, 65, 66, 67, 68, 69, 70, 71, 72, 73, 74, 75, 76, 77, 78, 79, 80, 81, 82, 83, 84, 85, 86, 87, 88, 89, 90, 91, 92, 93, 94, 95, 155, 156, 157, 158, 159, 160, 161, 162, 163, 164, 165, 166, 167, 143, 144, 145, 146, 147, 148, 149, 150, 151, 152, 153, 154] (by decide +kernel) (by decide +kernel)
set_option maxRecDepth 20000 in
theorem gX3_move_X2_bringUpToDate : GoodIn wsX3_move (wsV RX3 122 RX2 yX2_bringUpToDate wsX2_bringUpToDate) := goodIn_app (goodIn_of _ (by decide +kernel)) ggX3_move_X2_bringUpToDate
set_option maxRecDepth 20000 in
theorem ggX3_move_X2_countEdgesWithInsertions : GoodIn wsX3_move wsX2_countEdgesWithInsertions := goodIn_r _ [99, 12, 50, 94, 155, 156, 157, 158, 159, 160, 161, 162, 163, 164, 165, 166, 167, 143, 144, 145, 146, 147, 148, 149, 150, 151, 152, 153, 154] (by decide +kernel) (by decide +kernel)
set_option maxRecDepth 20000 in
theorem gX3_move_X2_countEdgesWithInsertions : GoodIn wsX3_move (wsV RX3 161 RX2 yX2_countEdgesWithInsertions wsX2_countEdgesWithInsertions) := goodIn_app (goodIn_of _ (by decide +kernel)) ggX3_move_X2_countEdgesWithInsertions
set_option maxRecDepth 20000 in
theorem ggX3_move_X3_deleteComputations : GoodIn wsX3_move wsX3_deleteComputations := goodIn_r _ [104, 4, 5, 3, 105, 106, 107, 108, 27, 109, 110, 29, 111, 112, 25, 26, 28, 140, 141, 142, 143, 144, 145, 146, 147, 148, 149, 150, 151, 152, 153, 154, 155, 156, 157, 158, 159, 160, 161, 162, 163, 164, 165, 166, 167] (by decide +kernel) (by decide +kernel)
set_option maxRecDepth 20000 in
theorem gX3_move_X3_deleteComputations : GoodIn wsX3_move (wsV RX3 166 RX3 yX3_deleteComputations wsX3_deleteComputations) := goodIn_app (goodIn_of _ (by decide +kernel)) ggX3_move_X3_deleteComputations
set_option maxRecDepth 20000 in
theorem ggX3_move_X3_insertComputations : GoodIn wsX3_move wsX3_insertComputations := goodIn_r _ [116, 4, 6, 3, 117, 118, 119, 120, 27, 121, 34, 122, 123, 124, 125, 126, 127, 111, 128, 129, 130, 131, 29, 110, 132, 133, 134, 135, 136, 137, 138, 139, 140, 141, 142, 143, 144, 145, 146, 147, 148, 149, 150, 151, 152, 153, 154, 155, 156, 157, 158, 159, 160, 161, 162, 163, 164, 165, 166, 167] (by decide +kernel) (by decide +kernel)
set_option maxRecDepth 20000 in
theorem gX3_move_X3_insertComputations : GoodIn wsX3_move (wsV RX3 169 RX3 yX3_insertComputations wsX3_insertComputations) := goodIn_app (goodIn_of _ (by decide +kernel)) ggX3_move_X3_insertComputations
theorem dX3_move_0 : decode cX3_move 0 = .ok (.aload_n 0, 1) := by decide +kernel
theorem dX3_move_1 : decode cX3_move 1 = .ok (.getfield 21, 3) := by decide +kernel
theorem dX3_move_4 : decode cX3_move 4 = .ok (.invokevirtual 122, 3) := by decide +kernel
theorem dX3_move_7 : decode cX3_move 7 = .ok (.aload_n 0, 1) := by decide +kernel
theorem dX3_move_8 : decode cX3_move 8 = .ok (.getfield 21, 3) := by decide +kernel
theorem dX3_move_11 : decode cX3_move 11 = .ok (.invokevirtual 161, 3) := by decide +kernel
theorem dX3_move_14 : decode cX3_move 14 = .ok (.istore_n 1, 1) := by decide +kernel
theorem dX3_move_15 : decode cX3_move 15 = .ok (.aload_n 0, 1) := by decide +kernel
theorem dX3_move_16 : decode cX3_move 16 = .ok (.getfield 10, 3) := by decide +kernel
theorem dX3_move_19 : decode cX3_move 19 = .ok (.getfield 52, 3) := by decide +kernel
theorem dX3_move_22 : decode cX3_move 22 = .ok (.iload_n 1, 1) := by decide +kernel
theorem dX3_move_23 : decode cX3_move 23 = .ok (.iadd, 1) := by decide +kernel
theorem dX3_move_24 : decode cX3_move 24 = .ok (.bipush 40, 2) := by decide +kernel
theorem dX3_move_26 : decode cX3_move 26 = .ok (.if_icmp .gt 17, 3) := by decide +kernel
theorem dX3_move_29 : decode cX3_move 29 = .ok (.aload_n 0, 1) := by decide +kernel
theorem dX3_move_30 : decode cX3_move 30 = .ok (.getfield 10, 3) := by decide +kernel
theorem dX3_move_33 : decode cX3_move 33 = .ok (.getfield 79, 3) := by decide +kernel
theorem dX3_move_36 : decode cX3_move 36 = .ok (.iload_n 1, 1) := by decide +kernel
theorem dX3_move_37 : decode cX3_move 37 = .ok (.iadd, 1) := by decide +kernel
theorem dX3_move_38 : decode cX3_move 38 = .ok (.bipush 80, 2) := by decide +kernel
theorem dX3_move_40 : decode cX3_move 40 = .ok (.if_icmp .le 13, 3) := by decide +kernel
theorem dX3_move_43 : decode cX3_move 43 = .ok (.new 43, 3) := by decide +kernel
theorem dX3_move_46 : decode cX3_move 46 = .ok (.dup, 1) := by decide +kernel
theorem dX3_move_47 : decode cX3_move 47 = .ok (.ldc 164, 2) := by decide +kernel
theorem dX3_move_49 : decode cX3_move 49 = .ok (.invokespecial 47, 3) := by decide +kernel
theorem dX3_move_52 : decode cX3_move 52 = .ok (.athrow, 1) := by decide +kernel
theorem dX3_move_53 : decode cX3_move 53 = .ok (.aload_n 0, 1) := by decide +kernel
theorem dX3_move_54 : decode cX3_move 54 = .ok (.invokevirtual 166, 3) := by decide +kernel
theorem dX3_move_57 : decode cX3_move 57 = .ok (.aload_n 0, 1) := by decide +kernel
theorem dX3_move_58 : decode cX3_move 58 = .ok (.invokevirtual 169, 3) := by decide +kernel
theorem dX3_move_61 : decode cX3_move 61 = .ok (.iload_n 1, 1) := by decide +kernel
theorem dX3_move_62 : decode cX3_move 62 = .ok (.ireturn, 1) := by decide +kernel
set_option maxRecDepth 20000 in
theorem ggX3_walk_X0_goThrough : GoodIn wsX3_walk wsX0_goThrough := goodIn_r _ [8, 9, 10, 11, 12, 13, 7, 14, 15, 16, 17, 18, 19, 20, 21, 22, 23, 24, 25, 26, 27, 28, 29, 30, 31, 32, 33, 34, 35, 36, 37, 38, 39, 40, 41, 42, 43, 44, 45, 46, 47, 48, 49, 53, 54, 55, 56, 57, 58, 59, 60, 61, 62, 63, 64, 65, 66, 67, 68, 69, 70, 71, 72, 73] (by decide +kernel) (by decide +kernel)
set_option maxRecDepth 20000 in
theorem gX3_walk_X0_goThrough : GoodIn wsX3_walk (wsV RX3 174 RX0 yX0_goThrough wsX0_goThrough) := goodIn_app (goodIn_of _ (by decide +kernel)) ggX3_walk_X0_goThrough
theorem dX3_walk_0 : decode cX3_walk 0 = .ok (.iload_n 3, 1) := by decide +kernel
theorem dX3_walk_1 : decode cX3_walk 1 = .ok (.iconst 1, 1) := by decide +kernel
theorem dX3_walk_2 : decode cX3_walk 2 = .ok (.if_icmp .lt 10, 3) := by decide +kernel
theorem dX3_walk_5 : decode cX3_walk 5 = .ok (.iload_n 3, 1) := by decide +kernel
theorem dX3_walk_6 : decode cX3_walk 6 = .ok (.sipush 1000, 3) := by decide +kernel
theorem dX3_walk_9 : decode cX3_walk 9 = .ok (.if_icmp .le 13, 3) := by decide +kernel
theorem dX3_walk_12 : decode cX3_walk 12 = .ok (.new 32, 3) := by decide +kernel
theorem dX3_walk_15 : decode cX3_walk 15 = .ok (.dup, 1) := by decide +kernel
theorem dX3_walk_16 : decode cX3_walk 16 = .ok (.ldc 172, 2) := by decide +kernel
theorem dX3_walk_18 : decode cX3_walk 18 = .ok (.invokespecial 36, 3) := by decide +kernel
theorem dX3_walk_21 : decode cX3_walk 21 = .ok (.athrow, 1) := by decide +kernel
theorem dX3_walk_22 : decode cX3_walk 22 = .ok (.aload_n 0, 1) := by decide +kernel
theorem dX3_walk_23 : decode cX3_walk 23 = .ok (.getfield 28, 3) := by decide +kernel
theorem dX3_walk_26 : decode cX3_walk 26 = .ok (.lload_n 1, 1) := by decide +kernel
theorem dX3_walk_27 : decode cX3_walk 27 = .ok (.iload_n 3, 1) := by decide +kernel
theorem dX3_walk_28 : decode cX3_walk 28 = .ok (.invokevirtual 174, 3) := by decide +kernel
theorem dX3_walk_31 : decode cX3_walk 31 = .ok (.ireturn, 1) := by decide +kernel
set_option maxRecDepth 20000 in
theorem ggX3_computed_X3_requireExpression : GoodIn wsX3_computed wsX3_requireExpression := goodIn_ca (goodIn_r _ [7, 8, 9, 10, 11, 12, 13, 14, 24, 25, 26, 27, 28, 29, 30, 31, 32, 33, 34, 35] (by decide +kernel) (by decide +kernel)) (goodIn_sub (fun _ h => List.mem_cons_of_mem _ (List.mem_append_right _ h)) (by decide +kernel))
set_option maxRecDepth 20000 in
theorem gX3_computed_X3_requireExpression : GoodIn wsX3_computed (wsV RX3 88 RX3 yX3_requireExpression wsX3_requireExpression) := goodIn_app (goodIn_of _ (by decide +kernel)) ggX3_computed_X3_requireExpression
theorem dX3_computed_0 : decode cX3_computed 0 = .ok (.aload_n 0, 1) := by decide +kernel
theorem dX3_computed_1 : decode cX3_computed 1 = .ok (.iload_n 1, 1) := by decide +kernel
theorem dX3_computed_2 : decode cX3_computed 2 = .ok (.invokevirtual 88, 3) := by decide +kernel
theorem dX3_computed_5 : decode cX3_computed 5 = .ok (.aload_n 0, 1) := by decide +kernel
theorem dX3_computed_6 : decode cX3_computed 6 = .ok (.getfield 28, 3) := by decide +kernel
theorem dX3_computed_9 : decode cX3_computed 9 = .ok (.getfield 178, 3) := by decide +kernel
theorem dX3_computed_12 : decode cX3_computed 12 = .ok (.iload_n 1, 1) := by decide +kernel
theorem dX3_computed_13 : decode cX3_computed 13 = .ok (.iaload, 1) := by decide +kernel
theorem dX3_computed_14 : decode cX3_computed 14 = .ok (.ireturn, 1) := by decide +kernel
theorem dX3_misses_0 : decode cX3_misses 0 = .ok (.aload_n 0, 1) := by decide +kernel
theorem dX3_misses_1 : decode cX3_misses 1 = .ok (.getfield 28, 3) := by decide +kernel
theorem dX3_misses_4 : decode cX3_misses 4 = .ok (.getfield 181, 3) := by decide +kernel
theorem dX3_misses_7 : decode cX3_misses 7 = .ok (.ireturn, 1) := by decide +kernel
theorem dX3_lastBlock_0 : decode cX3_lastBlock 0 = .ok (.aload_n 0, 1) := by decide +kernel
theorem dX3_lastBlock_1 : decode cX3_lastBlock 1 = .ok (.getfield 28, 3) := by decide +kernel
theorem dX3_lastBlock_4 : decode cX3_lastBlock 4 = .ok (.getfield 184, 3) := by decide +kernel
theorem dX3_lastBlock_7 : decode cX3_lastBlock 7 = .ok (.ireturn, 1) := by decide +kernel
set_option maxRecDepth 20000 in
theorem ggX3_heldFor_X3_requireExpression : GoodIn wsX3_heldFor wsX3_requireExpression := goodIn_ca (goodIn_r _ [7, 8, 9, 10, 11, 12, 13, 14, 24, 25, 26, 27, 28, 29, 30, 31, 32, 33, 34, 35] (by decide +kernel) (by decide +kernel)) (goodIn_sub (fun _ h => List.mem_cons_of_mem _ (List.mem_append_right _ h)) (by decide +kernel))
set_option maxRecDepth 20000 in
theorem gX3_heldFor_X3_requireExpression : GoodIn wsX3_heldFor (wsV RX3 88 RX3 yX3_requireExpression wsX3_requireExpression) := goodIn_app (goodIn_of _ (by decide +kernel)) ggX3_heldFor_X3_requireExpression
theorem dX3_heldFor_0 : decode cX3_heldFor 0 = .ok (.aload_n 0, 1) := by decide +kernel
theorem dX3_heldFor_1 : decode cX3_heldFor 1 = .ok (.iload_n 1, 1) := by decide +kernel
theorem dX3_heldFor_2 : decode cX3_heldFor 2 = .ok (.invokevirtual 88, 3) := by decide +kernel
theorem dX3_heldFor_5 : decode cX3_heldFor 5 = .ok (.aload_n 0, 1) := by decide +kernel
theorem dX3_heldFor_6 : decode cX3_heldFor 6 = .ok (.getfield 28, 3) := by decide +kernel
theorem dX3_heldFor_9 : decode cX3_heldFor 9 = .ok (.getfield 187, 3) := by decide +kernel
theorem dX3_heldFor_12 : decode cX3_heldFor 12 = .ok (.iload_n 1, 1) := by decide +kernel
theorem dX3_heldFor_13 : decode cX3_heldFor 13 = .ok (.iaload, 1) := by decide +kernel
theorem dX3_heldFor_14 : decode cX3_heldFor 14 = .ok (.ireturn, 1) := by decide +kernel
set_option maxRecDepth 20000 in
theorem ggX3_digest_X1_addToChecksum : GoodIn wsX3_digest wsX1_addToChecksum := goodIn_r _ [11, 12, 13, 14, 15, 16, 17, 18, 19, 20, 10, 21, 22, 23, 24, 25, 26, 27, 28, 41, 42, 43, 44, 45, 46, 47, 48, 49, 50, 51, 52] (by decide +kernel) (by decide +kernel)
set_option maxRecDepth 20000 in
theorem gX3_digest_X1_addToChecksum : GoodIn wsX3_digest (wsV RX3 192 RX1 yX1_addToChecksum wsX1_addToChecksum) := goodIn_app (goodIn_of _ (by decide +kernel)) ggX3_digest_X1_addToChecksum
theorem dX3_digest_0 : decode cX3_digest 0 = .ok (.aload_n 0, 1) := by decide +kernel
theorem dX3_digest_1 : decode cX3_digest 1 = .ok (.getfield 10, 3) := by decide +kernel
theorem dX3_digest_4 : decode cX3_digest 4 = .ok (.ldc2_w 190, 3) := by decide +kernel
theorem dX3_digest_7 : decode cX3_digest 7 = .ok (.invokevirtual 192, 3) := by decide +kernel
theorem dX3_digest_10 : decode cX3_digest 10 = .ok (.lstore_n 1, 1) := by decide +kernel
theorem dX3_digest_11 : decode cX3_digest 11 = .ok (.lload_n 1, 1) := by decide +kernel
theorem dX3_digest_12 : decode cX3_digest 12 = .ok (.ldc2_w 196, 3) := by decide +kernel
theorem dX3_digest_15 : decode cX3_digest 15 = .ok (.lmul, 1) := by decide +kernel
theorem dX3_digest_16 : decode cX3_digest 16 = .ok (.aload_n 0, 1) := by decide +kernel
theorem dX3_digest_17 : decode cX3_digest 17 = .ok (.getfield 28, 3) := by decide +kernel
theorem dX3_digest_20 : decode cX3_digest 20 = .ok (.getfield 181, 3) := by decide +kernel
theorem dX3_digest_23 : decode cX3_digest 23 = .ok (.i2l, 1) := by decide +kernel
theorem dX3_digest_24 : decode cX3_digest 24 = .ok (.ladd, 1) := by decide +kernel
theorem dX3_digest_25 : decode cX3_digest 25 = .ok (.lstore_n 1, 1) := by decide +kernel
theorem dX3_digest_26 : decode cX3_digest 26 = .ok (.lload_n 1, 1) := by decide +kernel
theorem dX3_digest_27 : decode cX3_digest 27 = .ok (.ldc2_w 196, 3) := by decide +kernel
theorem dX3_digest_30 : decode cX3_digest 30 = .ok (.lmul, 1) := by decide +kernel
theorem dX3_digest_31 : decode cX3_digest 31 = .ok (.aload_n 0, 1) := by decide +kernel
theorem dX3_digest_32 : decode cX3_digest 32 = .ok (.getfield 28, 3) := by decide +kernel
theorem dX3_digest_35 : decode cX3_digest 35 = .ok (.getfield 184, 3) := by decide +kernel
theorem dX3_digest_38 : decode cX3_digest 38 = .ok (.i2l, 1) := by decide +kernel
theorem dX3_digest_39 : decode cX3_digest 39 = .ok (.ladd, 1) := by decide +kernel
theorem dX3_digest_40 : decode cX3_digest 40 = .ok (.lreturn, 1) := by decide +kernel
theorem dX3_requireBlock_0 : decode cX3_requireBlock 0 = .ok (.iload_n 1, 1) := by decide +kernel
theorem dX3_requireBlock_1 : decode cX3_requireBlock 1 = .ok (.ifCond .lt 14, 3) := by decide +kernel
theorem dX3_requireBlock_4 : decode cX3_requireBlock 4 = .ok (.iload_n 1, 1) := by decide +kernel
theorem dX3_requireBlock_5 : decode cX3_requireBlock 5 = .ok (.aload_n 0, 1) := by decide +kernel
theorem dX3_requireBlock_6 : decode cX3_requireBlock 6 = .ok (.getfield 10, 3) := by decide +kernel
theorem dX3_requireBlock_9 : decode cX3_requireBlock 9 = .ok (.getfield 52, 3) := by decide +kernel
theorem dX3_requireBlock_12 : decode cX3_requireBlock 12 = .ok (.if_icmp .lt 13, 3) := by decide +kernel
theorem dX3_requireBlock_15 : decode cX3_requireBlock 15 = .ok (.new 98, 3) := by decide +kernel
theorem dX3_requireBlock_18 : decode cX3_requireBlock 18 = .ok (.dup, 1) := by decide +kernel
theorem dX3_requireBlock_19 : decode cX3_requireBlock 19 = .ok (.ldc 198, 2) := by decide +kernel
theorem dX3_requireBlock_21 : decode cX3_requireBlock 21 = .ok (.invokespecial 102, 3) := by decide +kernel
theorem dX3_requireBlock_24 : decode cX3_requireBlock 24 = .ok (.athrow, 1) := by decide +kernel
theorem dX3_requireBlock_25 : decode cX3_requireBlock 25 = .ok (.return_, 1) := by decide +kernel
theorem dX3_requireEdge_0 : decode cX3_requireEdge 0 = .ok (.iload_n 1, 1) := by decide +kernel
theorem dX3_requireEdge_1 : decode cX3_requireEdge 1 = .ok (.ifCond .lt 14, 3) := by decide +kernel
theorem dX3_requireEdge_4 : decode cX3_requireEdge 4 = .ok (.iload_n 1, 1) := by decide +kernel
theorem dX3_requireEdge_5 : decode cX3_requireEdge 5 = .ok (.aload_n 0, 1) := by decide +kernel
theorem dX3_requireEdge_6 : decode cX3_requireEdge 6 = .ok (.getfield 10, 3) := by decide +kernel
theorem dX3_requireEdge_9 : decode cX3_requireEdge 9 = .ok (.getfield 79, 3) := by decide +kernel
theorem dX3_requireEdge_12 : decode cX3_requireEdge 12 = .ok (.if_icmp .lt 13, 3) := by decide +kernel
theorem dX3_requireEdge_15 : decode cX3_requireEdge 15 = .ok (.new 98, 3) := by decide +kernel
theorem dX3_requireEdge_18 : decode cX3_requireEdge 18 = .ok (.dup, 1) := by decide +kernel
theorem dX3_requireEdge_19 : decode cX3_requireEdge 19 = .ok (.ldc 200, 2) := by decide +kernel
theorem dX3_requireEdge_21 : decode cX3_requireEdge 21 = .ok (.invokespecial 102, 3) := by decide +kernel
theorem dX3_requireEdge_24 : decode cX3_requireEdge 24 = .ok (.athrow, 1) := by decide +kernel
theorem dX3_requireEdge_25 : decode cX3_requireEdge 25 = .ok (.return_, 1) := by decide +kernel
theorem dX3_requireExpression_0 : decode cX3_requireExpression 0 = .ok (.iload_n 1, 1) := by decide +kernel
theorem dX3_requireExpression_1 : decode cX3_requireExpression 1 = .ok (.ifCond .lt 14, 3) := by decide +kernel
theorem dX3_requireExpression_4 : decode cX3_requireExpression 4 = .ok (.iload_n 1, 1) := by decide +kernel
theorem dX3_requireExpression_5 : decode cX3_requireExpression 5 = .ok (.aload_n 0, 1) := by decide +kernel
theorem dX3_requireExpression_6 : decode cX3_requireExpression 6 = .ok (.getfield 10, 3) := by decide +kernel
theorem dX3_requireExpression_9 : decode cX3_requireExpression 9 = .ok (.getfield 39, 3) := by decide +kernel
theorem dX3_requireExpression_12 : decode cX3_requireExpression 12 = .ok (.if_icmp .lt 13, 3) := by decide +kernel
theorem dX3_requireExpression_15 : decode cX3_requireExpression 15 = .ok (.new 98, 3) := by decide +kernel
theorem dX3_requireExpression_18 : decode cX3_requireExpression 18 = .ok (.dup, 1) := by decide +kernel
theorem dX3_requireExpression_19 : decode cX3_requireExpression 19 = .ok (.ldc 202, 2) := by decide +kernel
theorem dX3_requireExpression_21 : decode cX3_requireExpression 21 = .ok (.invokespecial 102, 3) := by decide +kernel
theorem dX3_requireExpression_24 : decode cX3_requireExpression 24 = .ok (.athrow, 1) := by decide +kernel
theorem dX3_requireExpression_25 : decode cX3_requireExpression 25 = .ok (.return_, 1) := by decide +kernel
theorem dX3_requireRoom_0 : decode cX3_requireRoom 0 = .ok (.aload_n 0, 1) := by decide +kernel
theorem dX3_requireRoom_1 : decode cX3_requireRoom 1 = .ok (.getfield 10, 3) := by decide +kernel
theorem dX3_requireRoom_4 : decode cX3_requireRoom 4 = .ok (.getfield 103, 3) := by decide +kernel
theorem dX3_requireRoom_7 : decode cX3_requireRoom 7 = .ok (.iload_n 1, 1) := by decide +kernel
theorem dX3_requireRoom_8 : decode cX3_requireRoom 8 = .ok (.iaload, 1) := by decide +kernel
theorem dX3_requireRoom_9 : decode cX3_requireRoom 9 = .ok (.bipush 12, 2) := by decide +kernel
theorem dX3_requireRoom_11 : decode cX3_requireRoom 11 = .ok (.if_icmp .lt 13, 3) := by decide +kernel
theorem dX3_requireRoom_14 : decode cX3_requireRoom 14 = .ok (.new 43, 3) := by decide +kernel
theorem dX3_requireRoom_17 : decode cX3_requireRoom 17 = .ok (.dup, 1) := by decide +kernel
theorem dX3_requireRoom_18 : decode cX3_requireRoom 18 = .ok (.ldc 204, 2) := by decide +kernel
theorem dX3_requireRoom_20 : decode cX3_requireRoom 20 = .ok (.invokespecial 47, 3) := by decide +kernel
theorem dX3_requireRoom_23 : decode cX3_requireRoom 23 = .ok (.athrow, 1) := by decide +kernel
theorem dX3_requireRoom_24 : decode cX3_requireRoom 24 = .ok (.return_, 1) := by decide +kernel
set_option maxRecDepth 20000 in
theorem ggX3_deleteComputations_X1_turnFirstComputesToUses : GoodIn wsX3_deleteComputations wsX1_turnFirstComputesToUses := goodIn_r _ [9, 10, 11, 12, 13, 14, 15, 8, 16, 20, 21, 22, 23, 24, 25, 26, 27, 28, 29, 30, 31] (by decide +kernel) (by decide +kernel)
set_option maxRecDepth 20000 in
theorem gX3_deleteComputations_X1_turnFirstComputesToUses : GoodIn wsX3_deleteComputations (wsV RX3 206 RX1 yX1_turnFirstComputesToUses wsX1_turnFirstComputesToUses) := goodIn_app (goodIn_of _ (by decide +kernel)) ggX3_deleteComputations_X1_turnFirstComputesToUses
theorem dX3_deleteComputations_0 : decode cX3_deleteComputations 0 = .ok (.iconst 0, 1) := by decide +kernel
theorem dX3_deleteComputations_1 : decode cX3_deleteComputations 1 = .ok (.istore_n 1, 1) := by decide +kernel
theorem dX3_deleteComputations_2 : decode cX3_deleteComputations 2 = .ok (.iload_n 1, 1) := by decide +kernel
theorem dX3_deleteComputations_3 : decode cX3_deleteComputations 3 = .ok (.aload_n 0, 1) := by decide +kernel
theorem dX3_deleteComputations_4 : decode cX3_deleteComputations 4 = .ok (.getfield 10, 3) := by decide +kernel
theorem dX3_deleteComputations_7 : decode cX3_deleteComputations 7 = .ok (.getfield 52, 3) := by decide +kernel
theorem dX3_deleteComputations_10 : decode cX3_deleteComputations 10 = .ok (.if_icmp .ge 26, 3) := by decide +kernel
theorem dX3_deleteComputations_13 : decode cX3_deleteComputations 13 = .ok (.aload_n 0, 1) := by decide +kernel
theorem dX3_deleteComputations_14 : decode cX3_deleteComputations 14 = .ok (.getfield 10, 3) := by decide +kernel
theorem dX3_deleteComputations_17 : decode cX3_deleteComputations 17 = .ok (.iload_n 1, 1) := by decide +kernel
theorem dX3_deleteComputations_18 : decode cX3_deleteComputations 18 = .ok (.aload_n 0, 1) := by decide +kernel
theorem dX3_deleteComputations_19 : decode cX3_deleteComputations 19 = .ok (.getfield 21, 3) := by decide +kernel
theorem dX3_deleteComputations_22 : decode cX3_deleteComputations 22 = .ok (.getfield 158, 3) := by decide +kernel
theorem dX3_deleteComputations_25 : decode cX3_deleteComputations 25 = .ok (.iload_n 1, 1) := by decide +kernel
theorem dX3_deleteComputations_26 : decode cX3_deleteComputations 26 = .ok (.iaload, 1) := by decide +kernel
theorem dX3_deleteComputations_27 : decode cX3_deleteComputations 27 = .ok (.invokevirtual 206, 3) := by decide +kernel
theorem dX3_deleteComputations_30 : decode cX3_deleteComputations 30 = .ok (.iinc 1 1, 3) := by decide +kernel
theorem dX3_deleteComputations_33 : decode cX3_deleteComputations 33 = .ok (.goto (-31), 3) := by decide +kernel
theorem dX3_deleteComputations_36 : decode cX3_deleteComputations 36 = .ok (.return_, 1) := by decide +kernel
set_option maxRecDepth 20000 in
theorem ggX3_insertComputations_X1_splitEdge : GoodIn wsX3_insertComputations wsX1_splitEdge := goodIn_r _ [9, 10, 11, 12, 13, 14, 8, 15, 16, 17, 18, 19, 20, 21, 22, 23, 24, 25, 26, 27, 28, 29, 30, 31, 35, 36, 37, 38, 39, 40, 41, 42, 43, 44, 45, 46] (by decide +kernel) (by decide +kernel)
set_option maxRecDepth 20000 in
theorem gX3_insertComputations_X1_splitEdge : GoodIn wsX3_insertComputations (wsV RX3 210 RX1 yX1_splitEdge wsX1_splitEdge) := goodIn_app (goodIn_of _ (by decide +kernel)) ggX3_insertComputations_X1_splitEdge
theorem dX3_insertComputations_0 : decode cX3_insertComputations 0 = .ok (.aload_n 0, 1) := by decide +kernel
theorem dX3_insertComputations_1 : decode cX3_insertComputations 1 = .ok (.getfield 10, 3) := by decide +kernel
theorem dX3_insertComputations_4 : decode cX3_insertComputations 4 = .ok (.getfield 79, 3) := by decide +kernel
theorem dX3_insertComputations_7 : decode cX3_insertComputations 7 = .ok (.istore_n 1, 1) := by decide +kernel
theorem dX3_insertComputations_8 : decode cX3_insertComputations 8 = .ok (.iconst 0, 1) := by decide +kernel
theorem dX3_insertComputations_9 : decode cX3_insertComputations 9 = .ok (.istore_n 2, 1) := by decide +kernel
theorem dX3_insertComputations_10 : decode cX3_insertComputations 10 = .ok (.iload_n 2, 1) := by decide +kernel
theorem dX3_insertComputations_11 : decode cX3_insertComputations 11 = .ok (.iload_n 1, 1) := by decide +kernel
theorem dX3_insertComputations_12 : decode cX3_insertComputations 12 = .ok (.if_icmp .ge 38, 3) := by decide +kernel
theorem dX3_insertComputations_15 : decode cX3_insertComputations 15 = .ok (.aload_n 0, 1) := by decide +kernel
theorem dX3_insertComputations_16 : decode cX3_insertComputations 16 = .ok (.getfield 21, 3) := by decide +kernel
theorem dX3_insertComputations_19 : decode cX3_insertComputations 19 = .ok (.getfield 155, 3) := by decide +kernel
theorem dX3_insertComputations_22 : decode cX3_insertComputations 22 = .ok (.iload_n 2, 1) := by decide +kernel
theorem dX3_insertComputations_23 : decode cX3_insertComputations 23 = .ok (.iaload, 1) := by decide +kernel
theorem dX3_insertComputations_24 : decode cX3_insertComputations 24 = .ok (.ifCond .eq 20, 3) := by decide +kernel
theorem dX3_insertComputations_27 : decode cX3_insertComputations 27 = .ok (.aload_n 0, 1) := by decide +kernel
theorem dX3_insertComputations_28 : decode cX3_insertComputations 28 = .ok (.getfield 10, 3) := by decide +kernel
theorem dX3_insertComputations_31 : decode cX3_insertComputations 31 = .ok (.iload_n 2, 1) := by decide +kernel
theorem dX3_insertComputations_32 : decode cX3_insertComputations 32 = .ok (.aload_n 0, 1) := by decide +kernel
theorem dX3_insertComputations_33 : decode cX3_insertComputations 33 = .ok (.getfield 21, 3) := by decide +kernel
theorem dX3_insertComputations_36 : decode cX3_insertComputations 36 = .ok (.getfield 155, 3) := by decide +kernel
theorem dX3_insertComputations_39 : decode cX3_insertComputations 39 = .ok (.iload_n 2, 1) := by decide +kernel
theorem dX3_insertComputations_40 : decode cX3_insertComputations 40 = .ok (.iaload, 1) := by decide +kernel
theorem dX3_insertComputations_41 : decode cX3_insertComputations 41 = .ok (.invokevirtual 210, 3) := by decide +kernel
theorem dX3_insertComputations_44 : decode cX3_insertComputations 44 = .ok (.iinc 2 1, 3) := by decide +kernel
theorem dX3_insertComputations_47 : decode cX3_insertComputations 47 = .ok (.goto (-37), 3) := by decide +kernel
theorem dX3_insertComputations_50 : decode cX3_insertComputations 50 = .ok (.return_, 1) := by decide +kernel
