theorem dX4_init_0 : decode cX4_init 0 = .ok (.aload_n 0, 1) := by decide +kernel
theorem dX4_init_1 : decode cX4_init 1 = .ok (.invokespecial 1, 3) := by decide +kernel
theorem dX4_init_4 : decode cX4_init 4 = .ok (.aload_n 0, 1) := by decide +kernel
theorem dX4_init_5 : decode cX4_init 5 = .ok (.bipush 8, 2) := by decide +kernel
theorem dX4_init_7 : decode cX4_init 7 = .ok (.newarray .int, 2) := by decide +kernel
theorem dX4_init_9 : decode cX4_init 9 = .ok (.putfield 9, 3) := by decide +kernel
theorem dX4_init_12 : decode cX4_init 12 = .ok (.aload_n 0, 1) := by decide +kernel
theorem dX4_init_13 : decode cX4_init 13 = .ok (.iconst 1, 1) := by decide +kernel
theorem dX4_init_14 : decode cX4_init 14 = .ok (.putfield 13, 3) := by decide +kernel
theorem dX4_init_17 : decode cX4_init 17 = .ok (.aload_n 0, 1) := by decide +kernel
theorem dX4_init_18 : decode cX4_init 18 = .ok (.bipush 40, 2) := by decide +kernel
theorem dX4_init_20 : decode cX4_init 20 = .ok (.newarray .int, 2) := by decide +kernel
theorem dX4_init_22 : decode cX4_init 22 = .ok (.putfield 17, 3) := by decide +kernel
theorem dX4_init_25 : decode cX4_init 25 = .ok (.aload_n 0, 1) := by decide +kernel
theorem dX4_init_26 : decode cX4_init 26 = .ok (.sipush 480, 3) := by decide +kernel
theorem dX4_init_29 : decode cX4_init 29 = .ok (.newarray .int, 2) := by decide +kernel
theorem dX4_init_31 : decode cX4_init 31 = .ok (.putfield 20, 3) := by decide +kernel
theorem dX4_init_34 : decode cX4_init 34 = .ok (.aload_n 0, 1) := by decide +kernel
theorem dX4_init_35 : decode cX4_init 35 = .ok (.bipush 80, 2) := by decide +kernel
theorem dX4_init_37 : decode cX4_init 37 = .ok (.newarray .int, 2) := by decide +kernel
theorem dX4_init_39 : decode cX4_init 39 = .ok (.putfield 23, 3) := by decide +kernel
theorem dX4_init_42 : decode cX4_init 42 = .ok (.aload_n 0, 1) := by decide +kernel
theorem dX4_init_43 : decode cX4_init 43 = .ok (.bipush 80, 2) := by decide +kernel
theorem dX4_init_45 : decode cX4_init 45 = .ok (.newarray .int, 2) := by decide +kernel
theorem dX4_init_47 : decode cX4_init 47 = .ok (.putfield 26, 3) := by decide +kernel
theorem dX4_init_50 : decode cX4_init 50 = .ok (.aload_n 0, 1) := by decide +kernel
theorem dX4_init_51 : decode cX4_init 51 = .ok (.bipush 40, 2) := by decide +kernel
theorem dX4_init_53 : decode cX4_init 53 = .ok (.newarray .int, 2) := by decide +kernel
theorem dX4_init_55 : decode cX4_init 55 = .ok (.putfield 29, 3) := by decide +kernel
theorem dX4_init_58 : decode cX4_init 58 = .ok (.aload_n 0, 1) := by decide +kernel
theorem dX4_init_59 : decode cX4_init 59 = .ok (.bipush 40, 2) := by decide +kernel
theorem dX4_init_61 : decode cX4_init 61 = .ok (.newarray .int, 2) := by decide +kernel
theorem dX4_init_63 : decode cX4_init 63 = .ok (.putfield 32, 3) := by decide +kernel
theorem dX4_init_66 : decode cX4_init 66 = .ok (.aload_n 0, 1) := by decide +kernel
theorem dX4_init_67 : decode cX4_init 67 = .ok (.bipush 40, 2) := by decide +kernel
theorem dX4_init_69 : decode cX4_init 69 = .ok (.newarray .int, 2) := by decide +kernel
theorem dX4_init_71 : decode cX4_init 71 = .ok (.putfield 35, 3) := by decide +kernel
theorem dX4_init_74 : decode cX4_init 74 = .ok (.aload_n 0, 1) := by decide +kernel
theorem dX4_init_75 : decode cX4_init 75 = .ok (.bipush 40, 2) := by decide +kernel
theorem dX4_init_77 : decode cX4_init 77 = .ok (.newarray .int, 2) := by decide +kernel
theorem dX4_init_79 : decode cX4_init 79 = .ok (.putfield 38, 3) := by decide +kernel
theorem dX4_init_82 : decode cX4_init 82 = .ok (.aload_n 0, 1) := by decide +kernel
theorem dX4_init_83 : decode cX4_init 83 = .ok (.bipush 40, 2) := by decide +kernel
theorem dX4_init_85 : decode cX4_init 85 = .ok (.newarray .int, 2) := by decide +kernel
theorem dX4_init_87 : decode cX4_init 87 = .ok (.putfield 41, 3) := by decide +kernel
theorem dX4_init_90 : decode cX4_init 90 = .ok (.aload_n 0, 1) := by decide +kernel
theorem dX4_init_91 : decode cX4_init 91 = .ok (.bipush 8, 2) := by decide +kernel
theorem dX4_init_93 : decode cX4_init 93 = .ok (.newarray .int, 2) := by decide +kernel
theorem dX4_init_95 : decode cX4_init 95 = .ok (.putfield 44, 3) := by decide +kernel
theorem dX4_init_98 : decode cX4_init 98 = .ok (.aload_n 0, 1) := by decide +kernel
theorem dX4_init_99 : decode cX4_init 99 = .ok (.bipush 8, 2) := by decide +kernel
theorem dX4_init_101 : decode cX4_init 101 = .ok (.newarray .int, 2) := by decide +kernel
theorem dX4_init_103 : decode cX4_init 103 = .ok (.putfield 47, 3) := by decide +kernel
theorem dX4_init_106 : decode cX4_init 106 = .ok (.aload_n 0, 1) := by decide +kernel
theorem dX4_init_107 : decode cX4_init 107 = .ok (.iconst (-1), 1) := by decide +kernel
theorem dX4_init_108 : decode cX4_init 108 = .ok (.putfield 50, 3) := by decide +kernel
theorem dX4_init_111 : decode cX4_init 111 = .ok (.return_, 1) := by decide +kernel
theorem dX4_thrown_0 : decode cX4_thrown 0 = .ok (.aload_n 0, 1) := by decide +kernel
theorem dX4_thrown_1 : decode cX4_thrown 1 = .ok (.getfield 53, 3) := by decide +kernel
theorem dX4_thrown_4 : decode cX4_thrown 4 = .ok (.ireturn, 1) := by decide +kernel
theorem dX4_no_0 : decode cX4_no 0 = .ok (.aload_n 0, 1) := by decide +kernel
theorem dX4_no_1 : decode cX4_no 1 = .ok (.iload_n 1, 1) := by decide +kernel
theorem dX4_no_2 : decode cX4_no 2 = .ok (.putfield 53, 3) := by decide +kernel
theorem dX4_no_5 : decode cX4_no 5 = .ok (.iconst 0, 1) := by decide +kernel
theorem dX4_no_6 : decode cX4_no 6 = .ok (.ireturn, 1) := by decide +kernel
theorem dX4_isBlock_0 : decode cX4_isBlock 0 = .ok (.iload_n 1, 1) := by decide +kernel
theorem dX4_isBlock_1 : decode cX4_isBlock 1 = .ok (.ifCond .lt 15, 3) := by decide +kernel
theorem dX4_isBlock_4 : decode cX4_isBlock 4 = .ok (.iload_n 1, 1) := by decide +kernel
theorem dX4_isBlock_5 : decode cX4_isBlock 5 = .ok (.aload_n 0, 1) := by decide +kernel
theorem dX4_isBlock_6 : decode cX4_isBlock 6 = .ok (.getfield 13, 3) := by decide +kernel
theorem dX4_isBlock_9 : decode cX4_isBlock 9 = .ok (.if_icmp .ge 7, 3) := by decide +kernel
theorem dX4_isBlock_12 : decode cX4_isBlock 12 = .ok (.iconst 1, 1) := by decide +kernel
theorem dX4_isBlock_13 : decode cX4_isBlock 13 = .ok (.goto 4, 3) := by decide +kernel
theorem dX4_isBlock_16 : decode cX4_isBlock 16 = .ok (.iconst 0, 1) := by decide +kernel
theorem dX4_isBlock_17 : decode cX4_isBlock 17 = .ok (.ireturn, 1) := by decide +kernel
theorem dX4_isEdge_0 : decode cX4_isEdge 0 = .ok (.iload_n 1, 1) := by decide +kernel
theorem dX4_isEdge_1 : decode cX4_isEdge 1 = .ok (.ifCond .lt 15, 3) := by decide +kernel
theorem dX4_isEdge_4 : decode cX4_isEdge 4 = .ok (.iload_n 1, 1) := by decide +kernel
theorem dX4_isEdge_5 : decode cX4_isEdge 5 = .ok (.aload_n 0, 1) := by decide +kernel
theorem dX4_isEdge_6 : decode cX4_isEdge 6 = .ok (.getfield 56, 3) := by decide +kernel
theorem dX4_isEdge_9 : decode cX4_isEdge 9 = .ok (.if_icmp .ge 7, 3) := by decide +kernel
theorem dX4_isEdge_12 : decode cX4_isEdge 12 = .ok (.iconst 1, 1) := by decide +kernel
theorem dX4_isEdge_13 : decode cX4_isEdge 13 = .ok (.goto 4, 3) := by decide +kernel
theorem dX4_isEdge_16 : decode cX4_isEdge 16 = .ok (.iconst 0, 1) := by decide +kernel
theorem dX4_isEdge_17 : decode cX4_isEdge 17 = .ok (.ireturn, 1) := by decide +kernel
theorem dX4_isExpression_0 : decode cX4_isExpression 0 = .ok (.iload_n 1, 1) := by decide +kernel
theorem dX4_isExpression_1 : decode cX4_isExpression 1 = .ok (.ifCond .lt 15, 3) := by decide +kernel
theorem dX4_isExpression_4 : decode cX4_isExpression 4 = .ok (.iload_n 1, 1) := by decide +kernel
theorem dX4_isExpression_5 : decode cX4_isExpression 5 = .ok (.aload_n 0, 1) := by decide +kernel
theorem dX4_isExpression_6 : decode cX4_isExpression 6 = .ok (.getfield 59, 3) := by decide +kernel
theorem dX4_isExpression_9 : decode cX4_isExpression 9 = .ok (.if_icmp .ge 7, 3) := by decide +kernel
theorem dX4_isExpression_12 : decode cX4_isExpression 12 = .ok (.iconst 1, 1) := by decide +kernel
theorem dX4_isExpression_13 : decode cX4_isExpression 13 = .ok (.goto 4, 3) := by decide +kernel
theorem dX4_isExpression_16 : decode cX4_isExpression 16 = .ok (.iconst 0, 1) := by decide +kernel
theorem dX4_isExpression_17 : decode cX4_isExpression 17 = .ok (.ireturn, 1) := by decide +kernel
set_option maxRecDepth 20000 in
theorem ggX4_addExpression_X4_no : GoodIn wsX4_addExpression wsX4_no := goodIn_r _ [8, 1, 9, 10, 11, 12, 13, 14, 15, 16, 17, 18, 19, 20, 21, 22, 23, 24, 25, 26] (by decide +kernel) (by decide +kernel)
set_option maxRecDepth 20000 in
theorem gX4_addExpression_X4_no : GoodIn wsX4_addExpression (wsV RX4 62 RX4 yX4_no wsX4_no) := goodIn_app (goodIn_of _ (by decide +kernel)) ggX4_addExpression_X4_no
theorem dX4_addExpression_0 : decode cX4_addExpression 0 = .ok (.aload_n 0, 1) := by decide +kernel
theorem dX4_addExpression_1 : decode cX4_addExpression 1 = .ok (.iconst 0, 1) := by decide +kernel
theorem dX4_addExpression_2 : decode cX4_addExpression 2 = .ok (.putfield 53, 3) := by decide +kernel
theorem dX4_addExpression_5 : decode cX4_addExpression 5 = .ok (.iload_n 1, 1) := by decide +kernel
theorem dX4_addExpression_6 : decode cX4_addExpression 6 = .ok (.ifCond .lt 9, 3) := by decide +kernel
theorem dX4_addExpression_9 : decode cX4_addExpression 9 = .ok (.iload_n 1, 1) := by decide +kernel
theorem dX4_addExpression_10 : decode cX4_addExpression 10 = .ok (.bipush 63, 2) := by decide +kernel
theorem dX4_addExpression_12 : decode cX4_addExpression 12 = .ok (.if_icmp .le 9, 3) := by decide +kernel
theorem dX4_addExpression_15 : decode cX4_addExpression 15 = .ok (.aload_n 0, 1) := by decide +kernel
theorem dX4_addExpression_16 : decode cX4_addExpression 16 = .ok (.iconst 1, 1) := by decide +kernel
theorem dX4_addExpression_17 : decode cX4_addExpression 17 = .ok (.invokevirtual 62, 3) := by decide +kernel
theorem dX4_addExpression_20 : decode cX4_addExpression 20 = .ok (.ireturn, 1) := by decide +kernel
theorem dX4_addExpression_21 : decode cX4_addExpression 21 = .ok (.aload_n 0, 1) := by decide +kernel
theorem dX4_addExpression_22 : decode cX4_addExpression 22 = .ok (.getfield 59, 3) := by decide +kernel
theorem dX4_addExpression_25 : decode cX4_addExpression 25 = .ok (.bipush 8, 2) := by decide +kernel
theorem dX4_addExpression_27 : decode cX4_addExpression 27 = .ok (.if_icmp .ne 9, 3) := by decide +kernel
theorem dX4_addExpression_30 : decode cX4_addExpression 30 = .ok (.aload_n 0, 1) := by decide +kernel
theorem dX4_addExpression_31 : decode cX4_addExpression 31 = .ok (.iconst 2, 1) := by decide +kernel
theorem dX4_addExpression_32 : decode cX4_addExpression 32 = .ok (.invokevirtual 62, 3) := by decide +kernel
theorem dX4_addExpression_35 : decode cX4_addExpression 35 = .ok (.ireturn, 1) := by decide +kernel
theorem dX4_addExpression_36 : decode cX4_addExpression 36 = .ok (.aload_n 0, 1) := by decide +kernel
theorem dX4_addExpression_37 : decode cX4_addExpression 37 = .ok (.getfield 9, 3) := by decide +kernel
theorem dX4_addExpression_40 : decode cX4_addExpression 40 = .ok (.aload_n 0, 1) := by decide +kernel
theorem dX4_addExpression_41 : decode cX4_addExpression 41 = .ok (.getfield 59, 3) := by decide +kernel
theorem dX4_addExpression_44 : decode cX4_addExpression 44 = .ok (.iload_n 1, 1) := by decide +kernel
theorem dX4_addExpression_45 : decode cX4_addExpression 45 = .ok (.iastore, 1) := by decide +kernel
theorem dX4_addExpression_46 : decode cX4_addExpression 46 = .ok (.aload_n 0, 1) := by decide +kernel
theorem dX4_addExpression_47 : decode cX4_addExpression 47 = .ok (.dup, 1) := by decide +kernel
theorem dX4_addExpression_48 : decode cX4_addExpression 48 = .ok (.getfield 59, 3) := by decide +kernel
theorem dX4_addExpression_51 : decode cX4_addExpression 51 = .ok (.iconst 1, 1) := by decide +kernel
theorem dX4_addExpression_52 : decode cX4_addExpression 52 = .ok (.iadd, 1) := by decide +kernel
theorem dX4_addExpression_53 : decode cX4_addExpression 53 = .ok (.putfield 59, 3) := by decide +kernel
theorem dX4_addExpression_56 : decode cX4_addExpression 56 = .ok (.aload_n 0, 1) := by decide +kernel
theorem dX4_addExpression_57 : decode cX4_addExpression 57 = .ok (.getfield 59, 3) := by decide +kernel
theorem dX4_addExpression_60 : decode cX4_addExpression 60 = .ok (.iconst 1, 1) := by decide +kernel
theorem dX4_addExpression_61 : decode cX4_addExpression 61 = .ok (.isub, 1) := by decide +kernel
theorem dX4_addExpression_62 : decode cX4_addExpression 62 = .ok (.ireturn, 1) := by decide +kernel
set_option maxRecDepth 20000 in
theorem ggX4_addBlock_X4_no : GoodIn wsX4_addBlock wsX4_no := goodIn_r _ [7, 1, 8, 9, 10, 11, 12, 13, 14, 15, 16, 17, 18, 19, 20, 21, 22, 23, 24, 25] (by decide +kernel) (by decide +kernel)
set_option maxRecDepth 20000 in
theorem gX4_addBlock_X4_no : GoodIn wsX4_addBlock (wsV RX4 62 RX4 yX4_no wsX4_no) := goodIn_app (goodIn_of _ (by decide +kernel)) ggX4_addBlock_X4_no
theorem dX4_addBlock_0 : decode cX4_addBlock 0 = .ok (.aload_n 0, 1) := by decide +kernel
theorem dX4_addBlock_1 : decode cX4_addBlock 1 = .ok (.iconst 0, 1) := by decide +kernel
theorem dX4_addBlock_2 : decode cX4_addBlock 2 = .ok (.putfield 53, 3) := by decide +kernel
theorem dX4_addBlock_5 : decode cX4_addBlock 5 = .ok (.aload_n 0, 1) := by decide +kernel
theorem dX4_addBlock_6 : decode cX4_addBlock 6 = .ok (.getfield 13, 3) := by decide +kernel
theorem dX4_addBlock_9 : decode cX4_addBlock 9 = .ok (.bipush 40, 2) := by decide +kernel
theorem dX4_addBlock_11 : decode cX4_addBlock 11 = .ok (.if_icmp .ne 9, 3) := by decide +kernel
theorem dX4_addBlock_14 : decode cX4_addBlock 14 = .ok (.aload_n 0, 1) := by decide +kernel
theorem dX4_addBlock_15 : decode cX4_addBlock 15 = .ok (.iconst 1, 1) := by decide +kernel
theorem dX4_addBlock_16 : decode cX4_addBlock 16 = .ok (.invokevirtual 62, 3) := by decide +kernel
theorem dX4_addBlock_19 : decode cX4_addBlock 19 = .ok (.ireturn, 1) := by decide +kernel
theorem dX4_addBlock_20 : decode cX4_addBlock 20 = .ok (.aload_n 0, 1) := by decide +kernel
theorem dX4_addBlock_21 : decode cX4_addBlock 21 = .ok (.dup, 1) := by decide +kernel
theorem dX4_addBlock_22 : decode cX4_addBlock 22 = .ok (.getfield 13, 3) := by decide +kernel
theorem dX4_addBlock_25 : decode cX4_addBlock 25 = .ok (.iconst 1, 1) := by decide +kernel
theorem dX4_addBlock_26 : decode cX4_addBlock 26 = .ok (.iadd, 1) := by decide +kernel
theorem dX4_addBlock_27 : decode cX4_addBlock 27 = .ok (.putfield 13, 3) := by decide +kernel
theorem dX4_addBlock_30 : decode cX4_addBlock 30 = .ok (.aload_n 0, 1) := by decide +kernel
theorem dX4_addBlock_31 : decode cX4_addBlock 31 = .ok (.getfield 13, 3) := by decide +kernel
theorem dX4_addBlock_34 : decode cX4_addBlock 34 = .ok (.iconst 1, 1) := by decide +kernel
theorem dX4_addBlock_35 : decode cX4_addBlock 35 = .ok (.isub, 1) := by decide +kernel
theorem dX4_addBlock_36 : decode cX4_addBlock 36 = .ok (.ireturn, 1) := by decide +kernel
theorem dX4_exits_0 : decode cX4_exits 0 = .ok (.iconst 0, 1) := by decide +kernel
theorem dX4_exits_1 : decode cX4_exits 1 = .ok (.istore_n 2, 1) := by decide +kernel
theorem dX4_exits_2 : decode cX4_exits 2 = .ok (.iconst 0, 1) := by decide +kernel
theorem dX4_exits_3 : decode cX4_exits 3 = .ok (.istore_n 3, 1) := by decide +kernel
theorem dX4_exits_4 : decode cX4_exits 4 = .ok (.iload_n 3, 1) := by decide +kernel
theorem dX4_exits_5 : decode cX4_exits 5 = .ok (.aload_n 0, 1) := by decide +kernel
theorem dX4_exits_6 : decode cX4_exits 6 = .ok (.getfield 56, 3) := by decide +kernel
theorem dX4_exits_9 : decode cX4_exits 9 = .ok (.if_icmp .ge 27, 3) := by decide +kernel
theorem dX4_exits_12 : decode cX4_exits 12 = .ok (.iload_n 2, 1) := by decide +kernel
theorem dX4_exits_13 : decode cX4_exits 13 = .ok (.aload_n 0, 1) := by decide +kernel
theorem dX4_exits_14 : decode cX4_exits 14 = .ok (.getfield 23, 3) := by decide +kernel
theorem dX4_exits_17 : decode cX4_exits 17 = .ok (.iload_n 3, 1) := by decide +kernel
theorem dX4_exits_18 : decode cX4_exits 18 = .ok (.iaload, 1) := by decide +kernel
theorem dX4_exits_19 : decode cX4_exits 19 = .ok (.iload_n 1, 1) := by decide +kernel
theorem dX4_exits_20 : decode cX4_exits 20 = .ok (.if_icmp .ne 7, 3) := by decide +kernel
theorem dX4_exits_23 : decode cX4_exits 23 = .ok (.iconst 1, 1) := by decide +kernel
theorem dX4_exits_24 : decode cX4_exits 24 = .ok (.goto 4, 3) := by decide +kernel
theorem dX4_exits_27 : decode cX4_exits 27 = .ok (.iconst 0, 1) := by decide +kernel
theorem dX4_exits_28 : decode cX4_exits 28 = .ok (.iadd, 1) := by decide +kernel
theorem dX4_exits_29 : decode cX4_exits 29 = .ok (.istore_n 2, 1) := by decide +kernel
theorem dX4_exits_30 : decode cX4_exits 30 = .ok (.iinc 3 1, 3) := by decide +kernel
theorem dX4_exits_33 : decode cX4_exits 33 = .ok (.goto (-29), 3) := by decide +kernel
theorem dX4_exits_36 : decode cX4_exits 36 = .ok (.iload_n 2, 1) := by decide +kernel
theorem dX4_exits_37 : decode cX4_exits 37 = .ok (.ireturn, 1) := by decide +kernel
set_option maxRecDepth 20000 in
theorem ggX4_addEdge_X4_isBlock : GoodIn wsX4_addEdge wsX4_isBlock := goodIn_r _ [9, 10, 19, 20, 21, 22, 23, 24, 25, 26, 27, 28, 29, 30, 31, 32, 33, 34, 35, 36] (by decide +kernel) (by decide +kernel)
set_option maxRecDepth 20000 in
theorem gX4_addEdge_X4_isBlock : GoodIn wsX4_addEdge (wsV RX4 66 RX4 yX4_isBlock wsX4_isBlock) := goodIn_app (goodIn_of _ (by decide +kernel)) ggX4_addEdge_X4_isBlock
set_option maxRecDepth 20000 in
theorem ggX4_addEdge_X4_no : GoodIn wsX4_addEdge wsX4_no := goodIn_r _ [14, 1, 19, 20, 21, 22, 23, 24, 25, 26, 27, 28, 29, 30, 31, 32, 33, 34, 35, 36] (by decide +kernel) (by decide +kernel)
set_option maxRecDepth 20000 in
theorem gX4_addEdge_X4_no : GoodIn wsX4_addEdge (wsV RX4 62 RX4 yX4_no wsX4_no) := goodIn_app (goodIn_of _ (by decide +kernel)) ggX4_addEdge_X4_no
set_option maxRecDepth 20000 in
theorem ggX4_addEdge_X4_exits : GoodIn wsX4_addEdge wsX4_exits := goodIn_r _ [18, 2, 3, 19, 20, 21, 22, 23, 24, 25, 26, 27, 28, 29, 30, 31, 32, 33, 34, 35, 36] (by decide +kernel) (by decide +kernel)
set_option maxRecDepth 20000 in
theorem gX4_addEdge_X4_exits : GoodIn wsX4_addEdge (wsV RX4 70 RX4 yX4_exits wsX4_exits) := goodIn_app (goodIn_of _ (by decide +kernel)) ggX4_addEdge_X4_exits
theorem dX4_addEdge_0 : decode cX4_addEdge 0 = .ok (.aload_n 0, 1) := by decide +kernel
theorem dX4_addEdge_1 : decode cX4_addEdge 1 = .ok (.iconst 0, 1) := by decide +kernel
theorem dX4_addEdge_2 : decode cX4_addEdge 2 = .ok (.putfield 53, 3) := by decide +kernel
theorem dX4_addEdge_5 : decode cX4_addEdge 5 = .ok (.aload_n 0, 1) := by decide +kernel
theorem dX4_addEdge_6 : decode cX4_addEdge 6 = .ok (.iload_n 1, 1) := by decide +kernel
theorem dX4_addEdge_7 : decode cX4_addEdge 7 = .ok (.invokevirtual 66, 3) := by decide +kernel
theorem dX4_addEdge_10 : decode cX4_addEdge 10 = .ok (.ifCond .eq 11, 3) := by decide +kernel
theorem dX4_addEdge_13 : decode cX4_addEdge 13 = .ok (.aload_n 0, 1) := by decide +kernel
theorem dX4_addEdge_14 : decode cX4_addEdge 14 = .ok (.iload_n 2, 1) := by decide +kernel
theorem dX4_addEdge_15 : decode cX4_addEdge 15 = .ok (.invokevirtual 66, 3) := by decide +kernel
theorem dX4_addEdge_18 : decode cX4_addEdge 18 = .ok (.ifCond .ne 9, 3) := by decide +kernel
theorem dX4_addEdge_21 : decode cX4_addEdge 21 = .ok (.aload_n 0, 1) := by decide +kernel
theorem dX4_addEdge_22 : decode cX4_addEdge 22 = .ok (.iconst 1, 1) := by decide +kernel
theorem dX4_addEdge_23 : decode cX4_addEdge 23 = .ok (.invokevirtual 62, 3) := by decide +kernel
theorem dX4_addEdge_26 : decode cX4_addEdge 26 = .ok (.ireturn, 1) := by decide +kernel
theorem dX4_addEdge_27 : decode cX4_addEdge 27 = .ok (.iload_n 2, 1) := by decide +kernel
theorem dX4_addEdge_28 : decode cX4_addEdge 28 = .ok (.ifCond .ne 7, 3) := by decide +kernel
theorem dX4_addEdge_31 : decode cX4_addEdge 31 = .ok (.iconst 1, 1) := by decide +kernel
theorem dX4_addEdge_32 : decode cX4_addEdge 32 = .ok (.goto 4, 3) := by decide +kernel
theorem dX4_addEdge_35 : decode cX4_addEdge 35 = .ok (.iconst 0, 1) := by decide +kernel
theorem dX4_addEdge_36 : decode cX4_addEdge 36 = .ok (.istore_n 3, 1) := by decide +kernel
theorem dX4_addEdge_37 : decode cX4_addEdge 37 = .ok (.iconst 0, 1) := by decide +kernel
theorem dX4_addEdge_38 : decode cX4_addEdge 38 = .ok (.istore 4, 2) := by decide +kernel
theorem dX4_addEdge_40 : decode cX4_addEdge 40 = .ok (.iload 4, 2) := by decide +kernel
theorem dX4_addEdge_42 : decode cX4_addEdge 42 = .ok (.aload_n 0, 1) := by decide +kernel
theorem dX4_addEdge_43 : decode cX4_addEdge 43 = .ok (.getfield 56, 3) := by decide +kernel
theorem dX4_addEdge_46 : decode cX4_addEdge 46 = .ok (.if_icmp .ge 41, 3) := by decide +kernel
theorem dX4_addEdge_49 : decode cX4_addEdge 49 = .ok (.iload_n 3, 1) := by decide +kernel
theorem dX4_addEdge_50 : decode cX4_addEdge 50 = .ok (.ifCond .ne 25, 3) := by decide +kernel
theorem dX4_addEdge_53 : decode cX4_addEdge 53 = .ok (.aload_n 0, 1) := by decide +kernel
theorem dX4_addEdge_54 : decode cX4_addEdge 54 = .ok (.getfield 23, 3) := by decide +kernel
theorem dX4_addEdge_57 : decode cX4_addEdge 57 = .ok (.iload 4, 2) := by decide +kernel
theorem dX4_addEdge_59 : decode cX4_addEdge 59 = .ok (.iaload, 1) := by decide +kernel
theorem dX4_addEdge_60 : decode cX4_addEdge 60 = .ok (.iload_n 1, 1) := by decide +kernel
theorem dX4_addEdge_61 : decode cX4_addEdge 61 = .ok (.if_icmp .ne 18, 3) := by decide +kernel
theorem dX4_addEdge_64 : decode cX4_addEdge 64 = .ok (.aload_n 0, 1) := by decide +kernel
theorem dX4_addEdge_65 : decode cX4_addEdge 65 = .ok (.getfield 26, 3) := by decide +kernel
theorem dX4_addEdge_68 : decode cX4_addEdge 68 = .ok (.iload 4, 2) := by decide +kernel
theorem dX4_addEdge_70 : decode cX4_addEdge 70 = .ok (.iaload, 1) := by decide +kernel
theorem dX4_addEdge_71 : decode cX4_addEdge 71 = .ok (.iload_n 2, 1) := by decide +kernel
theorem dX4_addEdge_72 : decode cX4_addEdge 72 = .ok (.if_icmp .ne 7, 3) := by decide +kernel
theorem dX4_addEdge_75 : decode cX4_addEdge 75 = .ok (.iconst 1, 1) := by decide +kernel
theorem dX4_addEdge_76 : decode cX4_addEdge 76 = .ok (.goto 4, 3) := by decide +kernel
theorem dX4_addEdge_79 : decode cX4_addEdge 79 = .ok (.iconst 0, 1) := by decide +kernel
theorem dX4_addEdge_80 : decode cX4_addEdge 80 = .ok (.istore_n 3, 1) := by decide +kernel
theorem dX4_addEdge_81 : decode cX4_addEdge 81 = .ok (.iinc 4 1, 3) := by decide +kernel
theorem dX4_addEdge_84 : decode cX4_addEdge 84 = .ok (.goto (-44), 3) := by decide +kernel
theorem dX4_addEdge_87 : decode cX4_addEdge 87 = .ok (.iload_n 3, 1) := by decide +kernel
theorem dX4_addEdge_88 : decode cX4_addEdge 88 = .ok (.ifCond .eq 9, 3) := by decide +kernel
theorem dX4_addEdge_91 : decode cX4_addEdge 91 = .ok (.aload_n 0, 1) := by decide +kernel
theorem dX4_addEdge_92 : decode cX4_addEdge 92 = .ok (.iconst 2, 1) := by decide +kernel
theorem dX4_addEdge_93 : decode cX4_addEdge 93 = .ok (.invokevirtual 62, 3) := by decide +kernel
theorem dX4_addEdge_96 : decode cX4_addEdge 96 = .ok (.ireturn, 1) := by decide +kernel
theorem dX4_addEdge_97 : decode cX4_addEdge 97 = .ok (.aload_n 0, 1) := by decide +kernel
theorem dX4_addEdge_98 : decode cX4_addEdge 98 = .ok (.iload_n 1, 1) := by decide +kernel
theorem dX4_addEdge_99 : decode cX4_addEdge 99 = .ok (.invokevirtual 70, 3) := by decide +kernel
theorem dX4_addEdge_102 : decode cX4_addEdge 102 = .ok (.iconst 2, 1) := by decide +kernel
theorem dX4_addEdge_103 : decode cX4_addEdge 103 = .ok (.if_icmp .eq 12, 3) := by decide +kernel
theorem dX4_addEdge_106 : decode cX4_addEdge 106 = .ok (.aload_n 0, 1) := by decide +kernel
theorem dX4_addEdge_107 : decode cX4_addEdge 107 = .ok (.getfield 56, 3) := by decide +kernel
theorem dX4_addEdge_110 : decode cX4_addEdge 110 = .ok (.bipush 80, 2) := by decide +kernel
theorem dX4_addEdge_112 : decode cX4_addEdge 112 = .ok (.if_icmp .ne 9, 3) := by decide +kernel
theorem dX4_addEdge_115 : decode cX4_addEdge 115 = .ok (.aload_n 0, 1) := by decide +kernel
theorem dX4_addEdge_116 : decode cX4_addEdge 116 = .ok (.iconst 3, 1) := by decide +kernel
theorem dX4_addEdge_117 : decode cX4_addEdge 117 = .ok (.invokevirtual 62, 3) := by decide +kernel
theorem dX4_addEdge_120 : decode cX4_addEdge 120 = .ok (.ireturn, 1) := by decide +kernel
theorem dX4_addEdge_121 : decode cX4_addEdge 121 = .ok (.aload_n 0, 1) := by decide +kernel
theorem dX4_addEdge_122 : decode cX4_addEdge 122 = .ok (.getfield 23, 3) := by decide +kernel
theorem dX4_addEdge_125 : decode cX4_addEdge 125 = .ok (.aload_n 0, 1) := by decide +kernel
theorem dX4_addEdge_126 : decode cX4_addEdge 126 = .ok (.getfield 56, 3) := by decide +kernel
theorem dX4_addEdge_129 : decode cX4_addEdge 129 = .ok (.iload_n 1, 1) := by decide +kernel
theorem dX4_addEdge_130 : decode cX4_addEdge 130 = .ok (.iastore, 1) := by decide +kernel
theorem dX4_addEdge_131 : decode cX4_addEdge 131 = .ok (.aload_n 0, 1) := by decide +kernel
theorem dX4_addEdge_132 : decode cX4_addEdge 132 = .ok (.getfield 26, 3) := by decide +kernel
theorem dX4_addEdge_135 : decode cX4_addEdge 135 = .ok (.aload_n 0, 1) := by decide +kernel
theorem dX4_addEdge_136 : decode cX4_addEdge 136 = .ok (.getfield 56, 3) := by decide +kernel
theorem dX4_addEdge_139 : decode cX4_addEdge 139 = .ok (.iload_n 2, 1) := by decide +kernel
theorem dX4_addEdge_140 : decode cX4_addEdge 140 = .ok (.iastore, 1) := by decide +kernel
theorem dX4_addEdge_141 : decode cX4_addEdge 141 = .ok (.aload_n 0, 1) := by decide +kernel
theorem dX4_addEdge_142 : decode cX4_addEdge 142 = .ok (.dup, 1) := by decide +kernel
theorem dX4_addEdge_143 : decode cX4_addEdge 143 = .ok (.getfield 56, 3) := by decide +kernel
theorem dX4_addEdge_146 : decode cX4_addEdge 146 = .ok (.iconst 1, 1) := by decide +kernel
theorem dX4_addEdge_147 : decode cX4_addEdge 147 = .ok (.iadd, 1) := by decide +kernel
theorem dX4_addEdge_148 : decode cX4_addEdge 148 = .ok (.putfield 56, 3) := by decide +kernel
theorem dX4_addEdge_151 : decode cX4_addEdge 151 = .ok (.aload_n 0, 1) := by decide +kernel
theorem dX4_addEdge_152 : decode cX4_addEdge 152 = .ok (.getfield 56, 3) := by decide +kernel
theorem dX4_addEdge_155 : decode cX4_addEdge 155 = .ok (.iconst 1, 1) := by decide +kernel
theorem dX4_addEdge_156 : decode cX4_addEdge 156 = .ok (.isub, 1) := by decide +kernel
theorem dX4_addEdge_157 : decode cX4_addEdge 157 = .ok (.ireturn, 1) := by decide +kernel
set_option maxRecDepth 20000 in
theorem ggX4_append_X4_no : GoodIn wsX4_append wsX4_no := goodIn_r _ [7, 8, 9, 10, 11, 12, 13, 14, 15, 16, 17, 18, 19, 20, 21, 22, 23, 24, 25, 26] (by decide +kernel) (by decide +kernel)
set_option maxRecDepth 20000 in
theorem gX4_append_X4_no : GoodIn wsX4_append (wsV RX4 62 RX4 yX4_no wsX4_no) := goodIn_app (goodIn_of _ (by decide +kernel)) ggX4_append_X4_no
theorem dX4_append_0 : decode cX4_append 0 = .ok (.aload_n 0, 1) := by decide +kernel
theorem dX4_append_1 : decode cX4_append 1 = .ok (.getfield 17, 3) := by decide +kernel
theorem dX4_append_4 : decode cX4_append 4 = .ok (.iload_n 1, 1) := by decide +kernel
theorem dX4_append_5 : decode cX4_append 5 = .ok (.iaload, 1) := by decide +kernel
theorem dX4_append_6 : decode cX4_append 6 = .ok (.bipush 12, 2) := by decide +kernel
theorem dX4_append_8 : decode cX4_append 8 = .ok (.if_icmp .ne 9, 3) := by decide +kernel
theorem dX4_append_11 : decode cX4_append 11 = .ok (.aload_n 0, 1) := by decide +kernel
theorem dX4_append_12 : decode cX4_append 12 = .ok (.iconst 2, 1) := by decide +kernel
theorem dX4_append_13 : decode cX4_append 13 = .ok (.invokevirtual 62, 3) := by decide +kernel
theorem dX4_append_16 : decode cX4_append 16 = .ok (.ireturn, 1) := by decide +kernel
theorem dX4_append_17 : decode cX4_append 17 = .ok (.aload_n 0, 1) := by decide +kernel
theorem dX4_append_18 : decode cX4_append 18 = .ok (.getfield 20, 3) := by decide +kernel
theorem dX4_append_21 : decode cX4_append 21 = .ok (.bipush 12, 2) := by decide +kernel
theorem dX4_append_23 : decode cX4_append 23 = .ok (.iload_n 1, 1) := by decide +kernel
theorem dX4_append_24 : decode cX4_append 24 = .ok (.imul, 1) := by decide +kernel
theorem dX4_append_25 : decode cX4_append 25 = .ok (.aload_n 0, 1) := by decide +kernel
theorem dX4_append_26 : decode cX4_append 26 = .ok (.getfield 17, 3) := by decide +kernel
theorem dX4_append_29 : decode cX4_append 29 = .ok (.iload_n 1, 1) := by decide +kernel
theorem dX4_append_30 : decode cX4_append 30 = .ok (.iaload, 1) := by decide +kernel
theorem dX4_append_31 : decode cX4_append 31 = .ok (.iadd, 1) := by decide +kernel
theorem dX4_append_32 : decode cX4_append 32 = .ok (.iload_n 2, 1) := by decide +kernel
theorem dX4_append_33 : decode cX4_append 33 = .ok (.iastore, 1) := by decide +kernel
theorem dX4_append_34 : decode cX4_append 34 = .ok (.aload_n 0, 1) := by decide +kernel
theorem dX4_append_35 : decode cX4_append 35 = .ok (.getfield 17, 3) := by decide +kernel
theorem dX4_append_38 : decode cX4_append 38 = .ok (.iload_n 1, 1) := by decide +kernel
theorem dX4_append_39 : decode cX4_append 39 = .ok (.dup2, 1) := by decide +kernel
theorem dX4_append_40 : decode cX4_append 40 = .ok (.iaload, 1) := by decide +kernel
theorem dX4_append_41 : decode cX4_append 41 = .ok (.iconst 1, 1) := by decide +kernel
theorem dX4_append_42 : decode cX4_append 42 = .ok (.iadd, 1) := by decide +kernel
theorem dX4_append_43 : decode cX4_append 43 = .ok (.iastore, 1) := by decide +kernel
theorem dX4_append_44 : decode cX4_append 44 = .ok (.aload_n 0, 1) := by decide +kernel
theorem dX4_append_45 : decode cX4_append 45 = .ok (.getfield 17, 3) := by decide +kernel
theorem dX4_append_48 : decode cX4_append 48 = .ok (.iload_n 1, 1) := by decide +kernel
theorem dX4_append_49 : decode cX4_append 49 = .ok (.iaload, 1) := by decide +kernel
theorem dX4_append_50 : decode cX4_append 50 = .ok (.ireturn, 1) := by decide +kernel
set_option maxRecDepth 20000 in
theorem ggX4_compute_X4_isBlock : GoodIn wsX4_compute wsX4_isBlock := goodIn_r _ [6, 7, 23, 24, 25, 26, 27, 28, 29, 30, 31, 32, 33, 34, 35, 36, 37, 38, 39, 40] (by decide +kernel) (by decide +kernel)
set_option maxRecDepth 20000 in
theorem gX4_compute_X4_isBlock : GoodIn wsX4_compute (wsV RX4 66 RX4 yX4_isBlock wsX4_isBlock) := goodIn_app (goodIn_of _ (by decide +kernel)) ggX4_compute_X4_isBlock
set_option maxRecDepth 20000 in
theorem ggX4_compute_X4_isExpression : GoodIn wsX4_compute wsX4_isExpression := goodIn_r _ [11, 12, 23, 24, 25, 26, 27, 28, 29, 30, 31, 32, 33, 34, 35, 36, 37, 38, 39, 40] (by decide +kernel) (by decide +kernel)
set_option maxRecDepth 20000 in
theorem gX4_compute_X4_isExpression : GoodIn wsX4_compute (wsV RX4 73 RX4 yX4_isExpression wsX4_isExpression) := goodIn_app (goodIn_of _ (by decide +kernel)) ggX4_compute_X4_isExpression
set_option maxRecDepth 20000 in
theorem ggX4_compute_X4_append : GoodIn wsX4_compute wsX4_append := goodIn_r _ [16, 17, 18, 19, 20, 21, 5, 22, 1, 23, 24, 25, 26, 27, 28, 29, 30, 31, 32, 33, 34, 35, 36, 37, 38, 39, 40] (by decide +kernel) (by decide +kernel)
set_option maxRecDepth 20000 in
theorem gX4_compute_X4_append : GoodIn wsX4_compute (wsV RX4 76 RX4 yX4_append wsX4_append) := goodIn_app (goodIn_of _ (by decide +kernel)) ggX4_compute_X4_append
set_option maxRecDepth 20000 in
theorem ggX4_compute_X4_no : GoodIn wsX4_compute wsX4_no := goodIn_r _ [22, 1, 23, 24, 25, 26, 27, 28, 29, 30, 31, 32, 33, 34, 35, 36, 37, 38, 39, 40] (by decide +kernel) (by decide +kernel)
set_option maxRecDepth 20000 in
theorem gX4_compute_X4_no : GoodIn wsX4_compute (wsV RX4 62 RX4 yX4_no wsX4_no) := goodIn_app (goodIn_of _ (by decide +kernel)) ggX4_compute_X4_no
theorem dX4_compute_0 : decode cX4_compute 0 = .ok (.aload_n 0, 1) := by decide +kernel
theorem dX4_compute_1 : decode cX4_compute 1 = .ok (.iconst 0, 1) := by decide +kernel
theorem dX4_compute_2 : decode cX4_compute 2 = .ok (.putfield 53, 3) := by decide +kernel
theorem dX4_compute_5 : decode cX4_compute 5 = .ok (.aload_n 0, 1) := by decide +kernel
theorem dX4_compute_6 : decode cX4_compute 6 = .ok (.iload_n 1, 1) := by decide +kernel
theorem dX4_compute_7 : decode cX4_compute 7 = .ok (.invokevirtual 66, 3) := by decide +kernel
theorem dX4_compute_10 : decode cX4_compute 10 = .ok (.ifCond .eq 24, 3) := by decide +kernel
theorem dX4_compute_13 : decode cX4_compute 13 = .ok (.aload_n 0, 1) := by decide +kernel
theorem dX4_compute_14 : decode cX4_compute 14 = .ok (.iload_n 2, 1) := by decide +kernel
theorem dX4_compute_15 : decode cX4_compute 15 = .ok (.invokevirtual 73, 3) := by decide +kernel
theorem dX4_compute_18 : decode cX4_compute 18 = .ok (.ifCond .eq 16, 3) := by decide +kernel
theorem dX4_compute_21 : decode cX4_compute 21 = .ok (.aload_n 0, 1) := by decide +kernel
theorem dX4_compute_22 : decode cX4_compute 22 = .ok (.iload_n 1, 1) := by decide +kernel
theorem dX4_compute_23 : decode cX4_compute 23 = .ok (.iconst 3, 1) := by decide +kernel
theorem dX4_compute_24 : decode cX4_compute 24 = .ok (.iload_n 2, 1) := by decide +kernel
theorem dX4_compute_25 : decode cX4_compute 25 = .ok (.imul, 1) := by decide +kernel
theorem dX4_compute_26 : decode cX4_compute 26 = .ok (.iconst 0, 1) := by decide +kernel
theorem dX4_compute_27 : decode cX4_compute 27 = .ok (.iadd, 1) := by decide +kernel
theorem dX4_compute_28 : decode cX4_compute 28 = .ok (.invokevirtual 76, 3) := by decide +kernel
theorem dX4_compute_31 : decode cX4_compute 31 = .ok (.goto 8, 3) := by decide +kernel
theorem dX4_compute_34 : decode cX4_compute 34 = .ok (.aload_n 0, 1) := by decide +kernel
theorem dX4_compute_35 : decode cX4_compute 35 = .ok (.iconst 1, 1) := by decide +kernel
theorem dX4_compute_36 : decode cX4_compute 36 = .ok (.invokevirtual 62, 3) := by decide +kernel
theorem dX4_compute_39 : decode cX4_compute 39 = .ok (.ireturn, 1) := by decide +kernel
set_option maxRecDepth 20000 in
theorem ggX4_use_X4_isBlock : GoodIn wsX4_use wsX4_isBlock := goodIn_r _ [6, 7, 23, 24, 25, 26, 27, 28, 29, 30, 31, 32, 33, 34, 35, 36, 37, 38, 39, 40] (by decide +kernel) (by decide +kernel)
set_option maxRecDepth 20000 in
theorem gX4_use_X4_isBlock : GoodIn wsX4_use (wsV RX4 66 RX4 yX4_isBlock wsX4_isBlock) := goodIn_app (goodIn_of _ (by decide +kernel)) ggX4_use_X4_isBlock
set_option maxRecDepth 20000 in
theorem ggX4_use_X4_isExpression : GoodIn wsX4_use wsX4_isExpression := goodIn_r _ [11, 12, 23, 24, 25, 26, 27, 28, 29, 30, 31, 32, 33, 34, 35, 36, 37, 38, 39, 40] (by decide +kernel) (by decide +kernel)
set_option maxRecDepth 20000 in
theorem gX4_use_X4_isExpression : GoodIn wsX4_use (wsV RX4 73 RX4 yX4_isExpression wsX4_isExpression) := goodIn_app (goodIn_of _ (by decide +kernel)) ggX4_use_X4_isExpression
set_option maxRecDepth 20000 in
theorem ggX4_use_X4_append : GoodIn wsX4_use wsX4_append := goodIn_r _ [16, 17, 18, 19, 20, 21, 5, 22, 1, 23, 24, 25, 26, 27, 28, 29, 30, 31, 32, 33, 34, 35, 36, 37, 38, 39, 40] (by decide +kernel) (by decide +kernel)
set_option maxRecDepth 20000 in
theorem gX4_use_X4_append : GoodIn wsX4_use (wsV RX4 76 RX4 yX4_append wsX4_append) := goodIn_app (goodIn_of _ (by decide +kernel)) ggX4_use_X4_append
set_option maxRecDepth 20000 in
theorem ggX4_use_X4_no : GoodIn wsX4_use wsX4_no := goodIn_r _ [22, 1, 23, 24, 25, 26, 27, 28, 29, 30, 31, 32, 33, 34, 35, 36, 37, 38, 39, 40] (by decide +kernel) (by decide +kernel)
set_option maxRecDepth 20000 in
theorem gX4_use_X4_no : GoodIn wsX4_use (wsV RX4 62 RX4 yX4_no wsX4_no) := goodIn_app (goodIn_of _ (by decide +kernel)) ggX4_use_X4_no
theorem dX4_use_0 : decode cX4_use 0 = .ok (.aload_n 0, 1) := by decide +kernel
theorem dX4_use_1 : decode cX4_use 1 = .ok (.iconst 0, 1) := by decide +kernel
theorem dX4_use_2 : decode cX4_use 2 = .ok (.putfield 53, 3) := by decide +kernel
theorem dX4_use_5 : decode cX4_use 5 = .ok (.aload_n 0, 1) := by decide +kernel
theorem dX4_use_6 : decode cX4_use 6 = .ok (.iload_n 1, 1) := by decide +kernel
theorem dX4_use_7 : decode cX4_use 7 = .ok (.invokevirtual 66, 3) := by decide +kernel
theorem dX4_use_10 : decode cX4_use 10 = .ok (.ifCond .eq 24, 3) := by decide +kernel
theorem dX4_use_13 : decode cX4_use 13 = .ok (.aload_n 0, 1) := by decide +kernel
theorem dX4_use_14 : decode cX4_use 14 = .ok (.iload_n 2, 1) := by decide +kernel
theorem dX4_use_15 : decode cX4_use 15 = .ok (.invokevirtual 73, 3) := by decide +kernel
theorem dX4_use_18 : decode cX4_use 18 = .ok (.ifCond .eq 16, 3) := by decide +kernel
theorem dX4_use_21 : decode cX4_use 21 = .ok (.aload_n 0, 1) := by decide +kernel
theorem dX4_use_22 : decode cX4_use 22 = .ok (.iload_n 1, 1) := by decide +kernel
theorem dX4_use_23 : decode cX4_use 23 = .ok (.iconst 3, 1) := by decide +kernel
theorem dX4_use_24 : decode cX4_use 24 = .ok (.iload_n 2, 1) := by decide +kernel
theorem dX4_use_25 : decode cX4_use 25 = .ok (.imul, 1) := by decide +kernel
theorem dX4_use_26 : decode cX4_use 26 = .ok (.iconst 1, 1) := by decide +kernel
theorem dX4_use_27 : decode cX4_use 27 = .ok (.iadd, 1) := by decide +kernel
theorem dX4_use_28 : decode cX4_use 28 = .ok (.invokevirtual 76, 3) := by decide +kernel
theorem dX4_use_31 : decode cX4_use 31 = .ok (.goto 8, 3) := by decide +kernel
theorem dX4_use_34 : decode cX4_use 34 = .ok (.aload_n 0, 1) := by decide +kernel
theorem dX4_use_35 : decode cX4_use 35 = .ok (.iconst 1, 1) := by decide +kernel
theorem dX4_use_36 : decode cX4_use 36 = .ok (.invokevirtual 62, 3) := by decide +kernel
theorem dX4_use_39 : decode cX4_use 39 = .ok (.ireturn, 1) := by decide +kernel
set_option maxRecDepth 20000 in
theorem ggX4_assign_X4_isBlock : GoodIn wsX4_assign wsX4_isBlock := goodIn_r _ [6, 7, 18, 19, 20, 21, 22, 23, 24, 25, 26, 27, 28, 29, 30, 31, 32, 33, 34, 35] (by decide +kernel) (by decide +kernel)
set_option maxRecDepth 20000 in
theorem gX4_assign_X4_isBlock : GoodIn wsX4_assign (wsV RX4 66 RX4 yX4_isBlock wsX4_isBlock) := goodIn_app (goodIn_of _ (by decide +kernel)) ggX4_assign_X4_isBlock
set_option maxRecDepth 20000 in
theorem ggX4_assign_X4_append : GoodIn wsX4_assign wsX4_append := goodIn_r _ [11, 12, 13, 14, 15, 16, 5, 17, 1, 18, 19, 20, 21, 22, 23, 24, 25, 26, 27, 28, 29, 30, 31, 32, 33, 34, 35] (by decide +kernel) (by decide +kernel)
set_option maxRecDepth 20000 in
theorem gX4_assign_X4_append : GoodIn wsX4_assign (wsV RX4 76 RX4 yX4_append wsX4_append) := goodIn_app (goodIn_of _ (by decide +kernel)) ggX4_assign_X4_append
set_option maxRecDepth 20000 in
theorem ggX4_assign_X4_no : GoodIn wsX4_assign wsX4_no := goodIn_r _ [17, 1, 18, 19, 20, 21, 22, 23, 24, 25, 26, 27, 28, 29, 30, 31, 32, 33, 34, 35] (by decide +kernel) (by decide +kernel)
set_option maxRecDepth 20000 in
theorem gX4_assign_X4_no : GoodIn wsX4_assign (wsV RX4 62 RX4 yX4_no wsX4_no) := goodIn_app (goodIn_of _ (by decide +kernel)) ggX4_assign_X4_no
theorem dX4_assign_0 : decode cX4_assign 0 = .ok (.aload_n 0, 1) := by decide +kernel
theorem dX4_assign_1 : decode cX4_assign 1 = .ok (.iconst 0, 1) := by decide +kernel
theorem dX4_assign_2 : decode cX4_assign 2 = .ok (.putfield 53, 3) := by decide +kernel
theorem dX4_assign_5 : decode cX4_assign 5 = .ok (.aload_n 0, 1) := by decide +kernel
theorem dX4_assign_6 : decode cX4_assign 6 = .ok (.iload_n 1, 1) := by decide +kernel
theorem dX4_assign_7 : decode cX4_assign 7 = .ok (.invokevirtual 66, 3) := by decide +kernel
theorem dX4_assign_10 : decode cX4_assign 10 = .ok (.ifCond .eq 26, 3) := by decide +kernel
theorem dX4_assign_13 : decode cX4_assign 13 = .ok (.iload_n 2, 1) := by decide +kernel
theorem dX4_assign_14 : decode cX4_assign 14 = .ok (.ifCond .lt 22, 3) := by decide +kernel
theorem dX4_assign_17 : decode cX4_assign 17 = .ok (.iload_n 2, 1) := by decide +kernel
theorem dX4_assign_18 : decode cX4_assign 18 = .ok (.bipush 6, 2) := by decide +kernel
theorem dX4_assign_20 : decode cX4_assign 20 = .ok (.if_icmp .ge 16, 3) := by decide +kernel
theorem dX4_assign_23 : decode cX4_assign 23 = .ok (.aload_n 0, 1) := by decide +kernel
theorem dX4_assign_24 : decode cX4_assign 24 = .ok (.iload_n 1, 1) := by decide +kernel
theorem dX4_assign_25 : decode cX4_assign 25 = .ok (.iconst 3, 1) := by decide +kernel
theorem dX4_assign_26 : decode cX4_assign 26 = .ok (.iload_n 2, 1) := by decide +kernel
theorem dX4_assign_27 : decode cX4_assign 27 = .ok (.imul, 1) := by decide +kernel
theorem dX4_assign_28 : decode cX4_assign 28 = .ok (.iconst 2, 1) := by decide +kernel
theorem dX4_assign_29 : decode cX4_assign 29 = .ok (.iadd, 1) := by decide +kernel
theorem dX4_assign_30 : decode cX4_assign 30 = .ok (.invokevirtual 76, 3) := by decide +kernel
theorem dX4_assign_33 : decode cX4_assign 33 = .ok (.goto 8, 3) := by decide +kernel
theorem dX4_assign_36 : decode cX4_assign 36 = .ok (.aload_n 0, 1) := by decide +kernel
theorem dX4_assign_37 : decode cX4_assign 37 = .ok (.iconst 1, 1) := by decide +kernel
theorem dX4_assign_38 : decode cX4_assign 38 = .ok (.invokevirtual 62, 3) := by decide +kernel
theorem dX4_assign_41 : decode cX4_assign 41 = .ok (.ireturn, 1) := by decide +kernel
set_option maxRecDepth 20000 in
theorem ggX4_drop_X4_isBlock : GoodIn wsX4_drop wsX4_isBlock := goodIn_r _ [7, 8, 13, 14, 15, 16, 17, 18, 19, 20, 21, 22, 23, 24, 25, 26, 27, 28, 29, 30] (by decide +kernel) (by decide +kernel)
set_option maxRecDepth 20000 in
theorem gX4_drop_X4_isBlock : GoodIn wsX4_drop (wsV RX4 66 RX4 yX4_isBlock wsX4_isBlock) := goodIn_app (goodIn_of _ (by decide +kernel)) ggX4_drop_X4_isBlock
set_option maxRecDepth 20000 in
theorem ggX4_drop_X4_no : GoodIn wsX4_drop wsX4_no := goodIn_r _ [12, 1, 13, 14, 15, 16, 17, 18, 19, 20, 21, 22, 23, 24, 25, 26, 27, 28, 29, 30] (by decide +kernel) (by decide +kernel)
set_option maxRecDepth 20000 in
theorem gX4_drop_X4_no : GoodIn wsX4_drop (wsV RX4 62 RX4 yX4_no wsX4_no) := goodIn_app (goodIn_of _ (by decide +kernel)) ggX4_drop_X4_no
theorem dX4_drop_0 : decode cX4_drop 0 = .ok (.aload_n 0, 1) := by decide +kernel
theorem dX4_drop_1 : decode cX4_drop 1 = .ok (.iconst 0, 1) := by decide +kernel
theorem dX4_drop_2 : decode cX4_drop 2 = .ok (.putfield 53, 3) := by decide +kernel
theorem dX4_drop_5 : decode cX4_drop 5 = .ok (.aload_n 0, 1) := by decide +kernel
theorem dX4_drop_6 : decode cX4_drop 6 = .ok (.iload_n 1, 1) := by decide +kernel
theorem dX4_drop_7 : decode cX4_drop 7 = .ok (.invokevirtual 66, 3) := by decide +kernel
theorem dX4_drop_10 : decode cX4_drop 10 = .ok (.ifCond .ne 9, 3) := by decide +kernel
theorem dX4_drop_13 : decode cX4_drop 13 = .ok (.aload_n 0, 1) := by decide +kernel
theorem dX4_drop_14 : decode cX4_drop 14 = .ok (.iconst 1, 1) := by decide +kernel
theorem dX4_drop_15 : decode cX4_drop 15 = .ok (.invokevirtual 62, 3) := by decide +kernel
theorem dX4_drop_18 : decode cX4_drop 18 = .ok (.ireturn, 1) := by decide +kernel
theorem dX4_drop_19 : decode cX4_drop 19 = .ok (.aload_n 0, 1) := by decide +kernel
theorem dX4_drop_20 : decode cX4_drop 20 = .ok (.getfield 17, 3) := by decide +kernel
theorem dX4_drop_23 : decode cX4_drop 23 = .ok (.iload_n 1, 1) := by decide +kernel
theorem dX4_drop_24 : decode cX4_drop 24 = .ok (.iaload, 1) := by decide +kernel
theorem dX4_drop_25 : decode cX4_drop 25 = .ok (.ifCond .ne 9, 3) := by decide +kernel
theorem dX4_drop_28 : decode cX4_drop 28 = .ok (.aload_n 0, 1) := by decide +kernel
theorem dX4_drop_29 : decode cX4_drop 29 = .ok (.iconst 2, 1) := by decide +kernel
theorem dX4_drop_30 : decode cX4_drop 30 = .ok (.invokevirtual 62, 3) := by decide +kernel
theorem dX4_drop_33 : decode cX4_drop 33 = .ok (.ireturn, 1) := by decide +kernel
theorem dX4_drop_34 : decode cX4_drop 34 = .ok (.aload_n 0, 1) := by decide +kernel
theorem dX4_drop_35 : decode cX4_drop 35 = .ok (.getfield 17, 3) := by decide +kernel
theorem dX4_drop_38 : decode cX4_drop 38 = .ok (.iload_n 1, 1) := by decide +kernel
theorem dX4_drop_39 : decode cX4_drop 39 = .ok (.dup2, 1) := by decide +kernel
theorem dX4_drop_40 : decode cX4_drop 40 = .ok (.iaload, 1) := by decide +kernel
theorem dX4_drop_41 : decode cX4_drop 41 = .ok (.iconst 1, 1) := by decide +kernel
theorem dX4_drop_42 : decode cX4_drop 42 = .ok (.isub, 1) := by decide +kernel
theorem dX4_drop_43 : decode cX4_drop 43 = .ok (.iastore, 1) := by decide +kernel
theorem dX4_drop_44 : decode cX4_drop 44 = .ok (.aload_n 0, 1) := by decide +kernel
theorem dX4_drop_45 : decode cX4_drop 45 = .ok (.getfield 17, 3) := by decide +kernel
theorem dX4_drop_48 : decode cX4_drop 48 = .ok (.iload_n 1, 1) := by decide +kernel
theorem dX4_drop_49 : decode cX4_drop 49 = .ok (.iaload, 1) := by decide +kernel
theorem dX4_drop_50 : decode cX4_drop 50 = .ok (.ireturn, 1) := by decide +kernel
theorem dX4_blockCount_0 : decode cX4_blockCount 0 = .ok (.aload_n 0, 1) := by decide +kernel
theorem dX4_blockCount_1 : decode cX4_blockCount 1 = .ok (.iconst 0, 1) := by decide +kernel
theorem dX4_blockCount_2 : decode cX4_blockCount 2 = .ok (.putfield 53, 3) := by decide +kernel
theorem dX4_blockCount_5 : decode cX4_blockCount 5 = .ok (.aload_n 0, 1) := by decide +kernel
theorem dX4_blockCount_6 : decode cX4_blockCount 6 = .ok (.getfield 13, 3) := by decide +kernel
theorem dX4_blockCount_9 : decode cX4_blockCount 9 = .ok (.ireturn, 1) := by decide +kernel
theorem dX4_edgeCount_0 : decode cX4_edgeCount 0 = .ok (.aload_n 0, 1) := by decide +kernel
theorem dX4_edgeCount_1 : decode cX4_edgeCount 1 = .ok (.iconst 0, 1) := by decide +kernel
theorem dX4_edgeCount_2 : decode cX4_edgeCount 2 = .ok (.putfield 53, 3) := by decide +kernel
theorem dX4_edgeCount_5 : decode cX4_edgeCount 5 = .ok (.aload_n 0, 1) := by decide +kernel
theorem dX4_edgeCount_6 : decode cX4_edgeCount 6 = .ok (.getfield 56, 3) := by decide +kernel
theorem dX4_edgeCount_9 : decode cX4_edgeCount 9 = .ok (.ireturn, 1) := by decide +kernel
set_option maxRecDepth 20000 in
theorem ggX4_size_X4_isBlock : GoodIn wsX4_size wsX4_isBlock := goodIn_r _ [7, 8, 13, 14, 15, 16, 17, 18, 19, 20, 21, 22, 23, 24, 25, 26, 27, 28, 29, 30] (by decide +kernel) (by decide +kernel)
set_option maxRecDepth 20000 in
theorem gX4_size_X4_isBlock : GoodIn wsX4_size (wsV RX4 66 RX4 yX4_isBlock wsX4_isBlock) := goodIn_app (goodIn_of _ (by decide +kernel)) ggX4_size_X4_isBlock
set_option maxRecDepth 20000 in
theorem ggX4_size_X4_no : GoodIn wsX4_size wsX4_no := goodIn_r _ [12, 1, 13, 14, 15, 16, 17, 18, 19, 20, 21, 22, 23, 24, 25, 26, 27, 28, 29, 30] (by decide +kernel) (by decide +kernel)
set_option maxRecDepth 20000 in
theorem gX4_size_X4_no : GoodIn wsX4_size (wsV RX4 62 RX4 yX4_no wsX4_no) := goodIn_app (goodIn_of _ (by decide +kernel)) ggX4_size_X4_no
theorem dX4_size_0 : decode cX4_size 0 = .ok (.aload_n 0, 1) := by decide +kernel
theorem dX4_size_1 : decode cX4_size 1 = .ok (.iconst 0, 1) := by decide +kernel
theorem dX4_size_2 : decode cX4_size 2 = .ok (.putfield 53, 3) := by decide +kernel
theorem dX4_size_5 : decode cX4_size 5 = .ok (.aload_n 0, 1) := by decide +kernel
theorem dX4_size_6 : decode cX4_size 6 = .ok (.iload_n 1, 1) := by decide +kernel
theorem dX4_size_7 : decode cX4_size 7 = .ok (.invokevirtual 66, 3) := by decide +kernel
theorem dX4_size_10 : decode cX4_size 10 = .ok (.ifCond .eq 12, 3) := by decide +kernel
theorem dX4_size_13 : decode cX4_size 13 = .ok (.aload_n 0, 1) := by decide +kernel
theorem dX4_size_14 : decode cX4_size 14 = .ok (.getfield 17, 3) := by decide +kernel
theorem dX4_size_17 : decode cX4_size 17 = .ok (.iload_n 1, 1) := by decide +kernel
theorem dX4_size_18 : decode cX4_size 18 = .ok (.iaload, 1) := by decide +kernel
theorem dX4_size_19 : decode cX4_size 19 = .ok (.goto 8, 3) := by decide +kernel
theorem dX4_size_22 : decode cX4_size 22 = .ok (.aload_n 0, 1) := by decide +kernel
theorem dX4_size_23 : decode cX4_size 23 = .ok (.iconst 1, 1) := by decide +kernel
theorem dX4_size_24 : decode cX4_size 24 = .ok (.invokevirtual 62, 3) := by decide +kernel
theorem dX4_size_27 : decode cX4_size 27 = .ok (.ireturn, 1) := by decide +kernel
theorem dX4_at_0 : decode cX4_at 0 = .ok (.aload_n 0, 1) := by decide +kernel
theorem dX4_at_1 : decode cX4_at 1 = .ok (.getfield 20, 3) := by decide +kernel
theorem dX4_at_4 : decode cX4_at 4 = .ok (.bipush 12, 2) := by decide +kernel
theorem dX4_at_6 : decode cX4_at 6 = .ok (.iload_n 1, 1) := by decide +kernel
theorem dX4_at_7 : decode cX4_at 7 = .ok (.imul, 1) := by decide +kernel
theorem dX4_at_8 : decode cX4_at 8 = .ok (.iload_n 2, 1) := by decide +kernel
theorem dX4_at_9 : decode cX4_at 9 = .ok (.iadd, 1) := by decide +kernel
theorem dX4_at_10 : decode cX4_at 10 = .ok (.iaload, 1) := by decide +kernel
theorem dX4_at_11 : decode cX4_at 11 = .ok (.ireturn, 1) := by decide +kernel
set_option maxRecDepth 20000 in
theorem ggX4_instruction_X4_isBlock : GoodIn wsX4_instruction wsX4_isBlock := goodIn_r _ [7, 8, 18, 19, 20, 21, 22, 23, 24, 25, 26, 27, 28, 29, 30, 31, 32, 33, 34, 35] (by decide +kernel) (by decide +kernel)
set_option maxRecDepth 20000 in
theorem gX4_instruction_X4_isBlock : GoodIn wsX4_instruction (wsV RX4 66 RX4 yX4_isBlock wsX4_isBlock) := goodIn_app (goodIn_of _ (by decide +kernel)) ggX4_instruction_X4_isBlock
set_option maxRecDepth 20000 in
theorem ggX4_instruction_X4_at : GoodIn wsX4_instruction wsX4_at := goodIn_r _ [12, 13, 18, 19, 20, 21, 22, 23, 24, 25, 26, 27, 28, 29, 30, 31, 32, 33, 34, 35] (by decide +kernel) (by decide +kernel)
set_option maxRecDepth 20000 in
theorem gX4_instruction_X4_at : GoodIn wsX4_instruction (wsV RX4 80 RX4 yX4_at wsX4_at) := goodIn_app (goodIn_of _ (by decide +kernel)) ggX4_instruction_X4_at
set_option maxRecDepth 20000 in
theorem ggX4_instruction_X4_no : GoodIn wsX4_instruction wsX4_no := goodIn_r _ [17, 1, 18, 19, 20, 21, 22, 23, 24, 25, 26, 27, 28, 29, 30, 31, 32, 33, 34, 35] (by decide +kernel) (by decide +kernel)
set_option maxRecDepth 20000 in
theorem gX4_instruction_X4_no : GoodIn wsX4_instruction (wsV RX4 62 RX4 yX4_no wsX4_no) := goodIn_app (goodIn_of _ (by decide +kernel)) ggX4_instruction_X4_no
theorem dX4_instruction_0 : decode cX4_instruction 0 = .ok (.aload_n 0, 1) := by decide +kernel
theorem dX4_instruction_1 : decode cX4_instruction 1 = .ok (.iconst 0, 1) := by decide +kernel
theorem dX4_instruction_2 : decode cX4_instruction 2 = .ok (.putfield 53, 3) := by decide +kernel
theorem dX4_instruction_5 : decode cX4_instruction 5 = .ok (.aload_n 0, 1) := by decide +kernel
theorem dX4_instruction_6 : decode cX4_instruction 6 = .ok (.iload_n 1, 1) := by decide +kernel
theorem dX4_instruction_7 : decode cX4_instruction 7 = .ok (.invokevirtual 66, 3) := by decide +kernel
theorem dX4_instruction_10 : decode cX4_instruction 10 = .ok (.ifCond .eq 26, 3) := by decide +kernel
theorem dX4_instruction_13 : decode cX4_instruction 13 = .ok (.iload_n 2, 1) := by decide +kernel
theorem dX4_instruction_14 : decode cX4_instruction 14 = .ok (.ifCond .lt 22, 3) := by decide +kernel
theorem dX4_instruction_17 : decode cX4_instruction 17 = .ok (.iload_n 2, 1) := by decide +kernel
theorem dX4_instruction_18 : decode cX4_instruction 18 = .ok (.aload_n 0, 1) := by decide +kernel
theorem dX4_instruction_19 : decode cX4_instruction 19 = .ok (.getfield 17, 3) := by decide +kernel
theorem dX4_instruction_22 : decode cX4_instruction 22 = .ok (.iload_n 1, 1) := by decide +kernel
theorem dX4_instruction_23 : decode cX4_instruction 23 = .ok (.iaload, 1) := by decide +kernel
theorem dX4_instruction_24 : decode cX4_instruction 24 = .ok (.if_icmp .ge 12, 3) := by decide +kernel
theorem dX4_instruction_27 : decode cX4_instruction 27 = .ok (.aload_n 0, 1) := by decide +kernel
theorem dX4_instruction_28 : decode cX4_instruction 28 = .ok (.iload_n 1, 1) := by decide +kernel
theorem dX4_instruction_29 : decode cX4_instruction 29 = .ok (.iload_n 2, 1) := by decide +kernel
theorem dX4_instruction_30 : decode cX4_instruction 30 = .ok (.invokevirtual 80, 3) := by decide +kernel
theorem dX4_instruction_33 : decode cX4_instruction 33 = .ok (.goto 8, 3) := by decide +kernel
theorem dX4_instruction_36 : decode cX4_instruction 36 = .ok (.aload_n 0, 1) := by decide +kernel
theorem dX4_instruction_37 : decode cX4_instruction 37 = .ok (.iconst 1, 1) := by decide +kernel
theorem dX4_instruction_38 : decode cX4_instruction 38 = .ok (.invokevirtual 62, 3) := by decide +kernel
theorem dX4_instruction_41 : decode cX4_instruction 41 = .ok (.ireturn, 1) := by decide +kernel
set_option maxRecDepth 20000 in
theorem ggX4_ends_X4_isEdge : GoodIn wsX4_ends wsX4_isEdge := goodIn_r _ [8, 9, 14, 15, 16, 17, 18, 19, 20, 21, 22, 23, 24, 25, 26, 27, 28, 29, 30, 31] (by decide +kernel) (by decide +kernel)
set_option maxRecDepth 20000 in
theorem gX4_ends_X4_isEdge : GoodIn wsX4_ends (wsV RX4 83 RX4 yX4_isEdge wsX4_isEdge) := goodIn_app (goodIn_of _ (by decide +kernel)) ggX4_ends_X4_isEdge
set_option maxRecDepth 20000 in
theorem ggX4_ends_X4_no : GoodIn wsX4_ends wsX4_no := goodIn_r _ [13, 1, 14, 15, 16, 17, 18, 19, 20, 21, 22, 23, 24, 25, 26, 27, 28, 29, 30, 31] (by decide +kernel) (by decide +kernel)
set_option maxRecDepth 20000 in
theorem gX4_ends_X4_no : GoodIn wsX4_ends (wsV RX4 62 RX4 yX4_no wsX4_no) := goodIn_app (goodIn_of _ (by decide +kernel)) ggX4_ends_X4_no
theorem dX4_ends_0 : decode cX4_ends 0 = .ok (.aload_n 0, 1) := by decide +kernel
theorem dX4_ends_1 : decode cX4_ends 1 = .ok (.iconst 0, 1) := by decide +kernel
theorem dX4_ends_2 : decode cX4_ends 2 = .ok (.putfield 53, 3) := by decide +kernel
theorem dX4_ends_5 : decode cX4_ends 5 = .ok (.aload_n 0, 1) := by decide +kernel
theorem dX4_ends_6 : decode cX4_ends 6 = .ok (.iload_n 1, 1) := by decide +kernel
theorem dX4_ends_7 : decode cX4_ends 7 = .ok (.invokevirtual 83, 3) := by decide +kernel
theorem dX4_ends_10 : decode cX4_ends 10 = .ok (.ifCond .eq 22, 3) := by decide +kernel
theorem dX4_ends_13 : decode cX4_ends 13 = .ok (.bipush 40, 2) := by decide +kernel
theorem dX4_ends_15 : decode cX4_ends 15 = .ok (.aload_n 0, 1) := by decide +kernel
theorem dX4_ends_16 : decode cX4_ends 16 = .ok (.getfield 23, 3) := by decide +kernel
theorem dX4_ends_19 : decode cX4_ends 19 = .ok (.iload_n 1, 1) := by decide +kernel
theorem dX4_ends_20 : decode cX4_ends 20 = .ok (.iaload, 1) := by decide +kernel
theorem dX4_ends_21 : decode cX4_ends 21 = .ok (.imul, 1) := by decide +kernel
theorem dX4_ends_22 : decode cX4_ends 22 = .ok (.aload_n 0, 1) := by decide +kernel
theorem dX4_ends_23 : decode cX4_ends 23 = .ok (.getfield 26, 3) := by decide +kernel
theorem dX4_ends_26 : decode cX4_ends 26 = .ok (.iload_n 1, 1) := by decide +kernel
theorem dX4_ends_27 : decode cX4_ends 27 = .ok (.iaload, 1) := by decide +kernel
theorem dX4_ends_28 : decode cX4_ends 28 = .ok (.iadd, 1) := by decide +kernel
theorem dX4_ends_29 : decode cX4_ends 29 = .ok (.goto 8, 3) := by decide +kernel
theorem dX4_ends_32 : decode cX4_ends 32 = .ok (.aload_n 0, 1) := by decide +kernel
theorem dX4_ends_33 : decode cX4_ends 33 = .ok (.iconst 1, 1) := by decide +kernel
theorem dX4_ends_34 : decode cX4_ends 34 = .ok (.invokevirtual 62, 3) := by decide +kernel
theorem dX4_ends_37 : decode cX4_ends 37 = .ok (.ireturn, 1) := by decide +kernel
theorem dX4_all_0 : decode cX4_all 0 = .ok (.iconst 1, 1) := by decide +kernel
theorem dX4_all_1 : decode cX4_all 1 = .ok (.aload_n 0, 1) := by decide +kernel
theorem dX4_all_2 : decode cX4_all 2 = .ok (.getfield 59, 3) := by decide +kernel
theorem dX4_all_5 : decode cX4_all 5 = .ok (.ishl, 1) := by decide +kernel
theorem dX4_all_6 : decode cX4_all 6 = .ok (.iconst 1, 1) := by decide +kernel
theorem dX4_all_7 : decode cX4_all 7 = .ok (.isub, 1) := by decide +kernel
theorem dX4_all_8 : decode cX4_all 8 = .ok (.ireturn, 1) := by decide +kernel
theorem dX4_dependent_0 : decode cX4_dependent 0 = .ok (.iconst 0, 1) := by decide +kernel
theorem dX4_dependent_1 : decode cX4_dependent 1 = .ok (.istore_n 2, 1) := by decide +kernel
theorem dX4_dependent_2 : decode cX4_dependent 2 = .ok (.iconst 0, 1) := by decide +kernel
theorem dX4_dependent_3 : decode cX4_dependent 3 = .ok (.istore_n 3, 1) := by decide +kernel
theorem dX4_dependent_4 : decode cX4_dependent 4 = .ok (.iload_n 3, 1) := by decide +kernel
theorem dX4_dependent_5 : decode cX4_dependent 5 = .ok (.aload_n 0, 1) := by decide +kernel
theorem dX4_dependent_6 : decode cX4_dependent 6 = .ok (.getfield 59, 3) := by decide +kernel
theorem dX4_dependent_9 : decode cX4_dependent 9 = .ok (.if_icmp .ge 29, 3) := by decide +kernel
theorem dX4_dependent_12 : decode cX4_dependent 12 = .ok (.aload_n 0, 1) := by decide +kernel
theorem dX4_dependent_13 : decode cX4_dependent 13 = .ok (.getfield 9, 3) := by decide +kernel
theorem dX4_dependent_16 : decode cX4_dependent 16 = .ok (.iload_n 3, 1) := by decide +kernel
theorem dX4_dependent_17 : decode cX4_dependent 17 = .ok (.iaload, 1) := by decide +kernel
theorem dX4_dependent_18 : decode cX4_dependent 18 = .ok (.iload_n 1, 1) := by decide +kernel
theorem dX4_dependent_19 : decode cX4_dependent 19 = .ok (.ishr, 1) := by decide +kernel
theorem dX4_dependent_20 : decode cX4_dependent 20 = .ok (.iconst 1, 1) := by decide +kernel
theorem dX4_dependent_21 : decode cX4_dependent 21 = .ok (.iand, 1) := by decide +kernel
theorem dX4_dependent_22 : decode cX4_dependent 22 = .ok (.iconst 1, 1) := by decide +kernel
theorem dX4_dependent_23 : decode cX4_dependent 23 = .ok (.if_icmp .ne 9, 3) := by decide +kernel
theorem dX4_dependent_26 : decode cX4_dependent 26 = .ok (.iload_n 2, 1) := by decide +kernel
theorem dX4_dependent_27 : decode cX4_dependent 27 = .ok (.iconst 1, 1) := by decide +kernel
theorem dX4_dependent_28 : decode cX4_dependent 28 = .ok (.iload_n 3, 1) := by decide +kernel
theorem dX4_dependent_29 : decode cX4_dependent 29 = .ok (.ishl, 1) := by decide +kernel
theorem dX4_dependent_30 : decode cX4_dependent 30 = .ok (.ior, 1) := by decide +kernel
theorem dX4_dependent_31 : decode cX4_dependent 31 = .ok (.istore_n 2, 1) := by decide +kernel
theorem dX4_dependent_32 : decode cX4_dependent 32 = .ok (.iinc 3 1, 3) := by decide +kernel
theorem dX4_dependent_35 : decode cX4_dependent 35 = .ok (.goto (-31), 3) := by decide +kernel
theorem dX4_dependent_38 : decode cX4_dependent 38 = .ok (.iload_n 2, 1) := by decide +kernel
theorem dX4_dependent_39 : decode cX4_dependent 39 = .ok (.ireturn, 1) := by decide +kernel
set_option maxRecDepth 20000 in
theorem ggX4_keptBy_X4_all : GoodIn wsX4_keptBy wsX4_all := goodIn_r _ [6, 7, 18, 19, 20, 21, 22, 23, 24, 25, 26, 27, 28, 29, 30, 31, 32, 33, 34, 35] (by decide +kernel) (by decide +kernel)
set_option maxRecDepth 20000 in
theorem gX4_keptBy_X4_all : GoodIn wsX4_keptBy (wsV RX4 86 RX4 yX4_all wsX4_all) := goodIn_app (goodIn_of _ (by decide +kernel)) ggX4_keptBy_X4_all
set_option maxRecDepth 20000 in
theorem ggX4_keptBy_X4_at : GoodIn wsX4_keptBy wsX4_at := goodIn_r _ [11, 12, 18, 19, 20, 21, 22, 23, 24, 25, 26, 27, 28, 29, 30, 31, 32, 33, 34, 35] (by decide +kernel) (by decide +kernel)
set_option maxRecDepth 20000 in
theorem gX4_keptBy_X4_at : GoodIn wsX4_keptBy (wsV RX4 80 RX4 yX4_at wsX4_at) := goodIn_app (goodIn_of _ (by decide +kernel)) ggX4_keptBy_X4_at
set_option maxRecDepth 20000 in
theorem ggX4_keptBy_X4_dependent : GoodIn wsX4_keptBy wsX4_dependent := goodIn_r _ [16, 7, 17, 18, 19, 20, 21, 22, 23, 24, 25, 26, 27, 28, 29, 30, 31, 32, 33, 34, 35] (by decide +kernel) (by decide +kernel)
set_option maxRecDepth 20000 in
theorem gX4_keptBy_X4_dependent : GoodIn wsX4_keptBy (wsV RX4 90 RX4 yX4_dependent wsX4_dependent) := goodIn_app (goodIn_of _ (by decide +kernel)) ggX4_keptBy_X4_dependent
theorem dX4_keptBy_0 : decode cX4_keptBy 0 = .ok (.aload_n 0, 1) := by decide +kernel
theorem dX4_keptBy_1 : decode cX4_keptBy 1 = .ok (.invokevirtual 86, 3) := by decide +kernel
theorem dX4_keptBy_4 : decode cX4_keptBy 4 = .ok (.istore_n 2, 1) := by decide +kernel
theorem dX4_keptBy_5 : decode cX4_keptBy 5 = .ok (.iconst 0, 1) := by decide +kernel
theorem dX4_keptBy_6 : decode cX4_keptBy 6 = .ok (.istore_n 3, 1) := by decide +kernel
theorem dX4_keptBy_7 : decode cX4_keptBy 7 = .ok (.iload_n 3, 1) := by decide +kernel
theorem dX4_keptBy_8 : decode cX4_keptBy 8 = .ok (.aload_n 0, 1) := by decide +kernel
theorem dX4_keptBy_9 : decode cX4_keptBy 9 = .ok (.getfield 17, 3) := by decide +kernel
theorem dX4_keptBy_12 : decode cX4_keptBy 12 = .ok (.iload_n 1, 1) := by decide +kernel
theorem dX4_keptBy_13 : decode cX4_keptBy 13 = .ok (.iaload, 1) := by decide +kernel
theorem dX4_keptBy_14 : decode cX4_keptBy 14 = .ok (.if_icmp .ge 38, 3) := by decide +kernel
theorem dX4_keptBy_17 : decode cX4_keptBy 17 = .ok (.aload_n 0, 1) := by decide +kernel
theorem dX4_keptBy_18 : decode cX4_keptBy 18 = .ok (.iload_n 1, 1) := by decide +kernel
theorem dX4_keptBy_19 : decode cX4_keptBy 19 = .ok (.iload_n 3, 1) := by decide +kernel
theorem dX4_keptBy_20 : decode cX4_keptBy 20 = .ok (.invokevirtual 80, 3) := by decide +kernel
theorem dX4_keptBy_23 : decode cX4_keptBy 23 = .ok (.iconst 3, 1) := by decide +kernel
theorem dX4_keptBy_24 : decode cX4_keptBy 24 = .ok (.irem, 1) := by decide +kernel
theorem dX4_keptBy_25 : decode cX4_keptBy 25 = .ok (.iconst 2, 1) := by decide +kernel
theorem dX4_keptBy_26 : decode cX4_keptBy 26 = .ok (.if_icmp .ne 20, 3) := by decide +kernel
theorem dX4_keptBy_29 : decode cX4_keptBy 29 = .ok (.iload_n 2, 1) := by decide +kernel
theorem dX4_keptBy_30 : decode cX4_keptBy 30 = .ok (.aload_n 0, 1) := by decide +kernel
theorem dX4_keptBy_31 : decode cX4_keptBy 31 = .ok (.aload_n 0, 1) := by decide +kernel
theorem dX4_keptBy_32 : decode cX4_keptBy 32 = .ok (.iload_n 1, 1) := by decide +kernel
theorem dX4_keptBy_33 : decode cX4_keptBy 33 = .ok (.iload_n 3, 1) := by decide +kernel
theorem dX4_keptBy_34 : decode cX4_keptBy 34 = .ok (.invokevirtual 80, 3) := by decide +kernel
theorem dX4_keptBy_37 : decode cX4_keptBy 37 = .ok (.iconst 3, 1) := by decide +kernel
theorem dX4_keptBy_38 : decode cX4_keptBy 38 = .ok (.idiv, 1) := by decide +kernel
theorem dX4_keptBy_39 : decode cX4_keptBy 39 = .ok (.invokevirtual 90, 3) := by decide +kernel
theorem dX4_keptBy_42 : decode cX4_keptBy 42 = .ok (.iconst (-1), 1) := by decide +kernel
theorem dX4_keptBy_43 : decode cX4_keptBy 43 = .ok (.ixor, 1) := by decide +kernel
theorem dX4_keptBy_44 : decode cX4_keptBy 44 = .ok (.iand, 1) := by decide +kernel
theorem dX4_keptBy_45 : decode cX4_keptBy 45 = .ok (.istore_n 2, 1) := by decide +kernel
theorem dX4_keptBy_46 : decode cX4_keptBy 46 = .ok (.iinc 3 1, 3) := by decide +kernel
theorem dX4_keptBy_49 : decode cX4_keptBy 49 = .ok (.goto (-42), 3) := by decide +kernel
theorem dX4_keptBy_52 : decode cX4_keptBy 52 = .ok (.iload_n 2, 1) := by decide +kernel
theorem dX4_keptBy_53 : decode cX4_keptBy 53 = .ok (.ireturn, 1) := by decide +kernel
set_option maxRecDepth 20000 in
theorem ggX4_earlyIn_X4_at : GoodIn wsX4_earlyIn wsX4_at := goodIn_r _ [6, 7, 14, 15, 16, 17, 18, 19, 20, 21, 22, 23, 24, 25, 26, 27, 28, 29, 30, 31] (by decide +kernel) (by decide +kernel)
set_option maxRecDepth 20000 in
theorem gX4_earlyIn_X4_at : GoodIn wsX4_earlyIn (wsV RX4 80 RX4 yX4_at wsX4_at) := goodIn_app (goodIn_of _ (by decide +kernel)) ggX4_earlyIn_X4_at
set_option maxRecDepth 20000 in
theorem ggX4_earlyIn_X4_dependent : GoodIn wsX4_earlyIn wsX4_dependent := goodIn_r _ [11, 12, 13, 14, 15, 16, 17, 18, 19, 20, 21, 22, 23, 24, 25, 26, 27, 28, 29, 30, 31] (by decide +kernel) (by decide +kernel)
set_option maxRecDepth 20000 in
theorem gX4_earlyIn_X4_dependent : GoodIn wsX4_earlyIn (wsV RX4 90 RX4 yX4_dependent wsX4_dependent) := goodIn_app (goodIn_of _ (by decide +kernel)) ggX4_earlyIn_X4_dependent
theorem dX4_earlyIn_0 : decode cX4_earlyIn 0 = .ok (.iconst 0, 1) := by decide +kernel
theorem dX4_earlyIn_1 : decode cX4_earlyIn 1 = .ok (.istore_n 2, 1) := by decide +kernel
theorem dX4_earlyIn_2 : decode cX4_earlyIn 2 = .ok (.iconst 0, 1) := by decide +kernel
theorem dX4_earlyIn_3 : decode cX4_earlyIn 3 = .ok (.istore_n 3, 1) := by decide +kernel
theorem dX4_earlyIn_4 : decode cX4_earlyIn 4 = .ok (.iconst 0, 1) := by decide +kernel
theorem dX4_earlyIn_5 : decode cX4_earlyIn 5 = .ok (.istore 4, 2) := by decide +kernel
theorem dX4_earlyIn_7 : decode cX4_earlyIn 7 = .ok (.iload 4, 2) := by decide +kernel
theorem dX4_earlyIn_9 : decode cX4_earlyIn 9 = .ok (.aload_n 0, 1) := by decide +kernel
theorem dX4_earlyIn_10 : decode cX4_earlyIn 10 = .ok (.getfield 17, 3) := by decide +kernel
theorem dX4_earlyIn_13 : decode cX4_earlyIn 13 = .ok (.iload_n 1, 1) := by decide +kernel
theorem dX4_earlyIn_14 : decode cX4_earlyIn 14 = .ok (.iaload, 1) := by decide +kernel
theorem dX4_earlyIn_15 : decode cX4_earlyIn 15 = .ok (.if_icmp .ge 57, 3) := by decide +kernel
theorem dX4_earlyIn_18 : decode cX4_earlyIn 18 = .ok (.aload_n 0, 1) := by decide +kernel
theorem dX4_earlyIn_19 : decode cX4_earlyIn 19 = .ok (.iload_n 1, 1) := by decide +kernel
theorem dX4_earlyIn_20 : decode cX4_earlyIn 20 = .ok (.iload 4, 2) := by decide +kernel
theorem dX4_earlyIn_22 : decode cX4_earlyIn 22 = .ok (.invokevirtual 80, 3) := by decide +kernel
theorem dX4_earlyIn_25 : decode cX4_earlyIn 25 = .ok (.istore 5, 2) := by decide +kernel
theorem dX4_earlyIn_27 : decode cX4_earlyIn 27 = .ok (.iload 5, 2) := by decide +kernel
theorem dX4_earlyIn_29 : decode cX4_earlyIn 29 = .ok (.iconst 3, 1) := by decide +kernel
theorem dX4_earlyIn_30 : decode cX4_earlyIn 30 = .ok (.irem, 1) := by decide +kernel
theorem dX4_earlyIn_31 : decode cX4_earlyIn 31 = .ok (.iconst 2, 1) := by decide +kernel
theorem dX4_earlyIn_32 : decode cX4_earlyIn 32 = .ok (.if_icmp .ne 14, 3) := by decide +kernel
theorem dX4_earlyIn_35 : decode cX4_earlyIn 35 = .ok (.iload_n 3, 1) := by decide +kernel
theorem dX4_earlyIn_36 : decode cX4_earlyIn 36 = .ok (.aload_n 0, 1) := by decide +kernel
theorem dX4_earlyIn_37 : decode cX4_earlyIn 37 = .ok (.iload 5, 2) := by decide +kernel
theorem dX4_earlyIn_39 : decode cX4_earlyIn 39 = .ok (.iconst 3, 1) := by decide +kernel
theorem dX4_earlyIn_40 : decode cX4_earlyIn 40 = .ok (.idiv, 1) := by decide +kernel
theorem dX4_earlyIn_41 : decode cX4_earlyIn 41 = .ok (.invokevirtual 90, 3) := by decide +kernel
theorem dX4_earlyIn_44 : decode cX4_earlyIn 44 = .ok (.ior, 1) := by decide +kernel
theorem dX4_earlyIn_45 : decode cX4_earlyIn 45 = .ok (.istore_n 3, 1) := by decide +kernel
theorem dX4_earlyIn_46 : decode cX4_earlyIn 46 = .ok (.iload 5, 2) := by decide +kernel
theorem dX4_earlyIn_48 : decode cX4_earlyIn 48 = .ok (.iconst 3, 1) := by decide +kernel
theorem dX4_earlyIn_49 : decode cX4_earlyIn 49 = .ok (.irem, 1) := by decide +kernel
theorem dX4_earlyIn_50 : decode cX4_earlyIn 50 = .ok (.ifCond .ne 16, 3) := by decide +kernel
theorem dX4_earlyIn_53 : decode cX4_earlyIn 53 = .ok (.iload_n 2, 1) := by decide +kernel
theorem dX4_earlyIn_54 : decode cX4_earlyIn 54 = .ok (.iconst 1, 1) := by decide +kernel
theorem dX4_earlyIn_55 : decode cX4_earlyIn 55 = .ok (.iload 5, 2) := by decide +kernel
theorem dX4_earlyIn_57 : decode cX4_earlyIn 57 = .ok (.iconst 3, 1) := by decide +kernel
theorem dX4_earlyIn_58 : decode cX4_earlyIn 58 = .ok (.idiv, 1) := by decide +kernel
theorem dX4_earlyIn_59 : decode cX4_earlyIn 59 = .ok (.ishl, 1) := by decide +kernel
theorem dX4_earlyIn_60 : decode cX4_earlyIn 60 = .ok (.iload_n 3, 1) := by decide +kernel
theorem dX4_earlyIn_61 : decode cX4_earlyIn 61 = .ok (.iconst (-1), 1) := by decide +kernel
theorem dX4_earlyIn_62 : decode cX4_earlyIn 62 = .ok (.ixor, 1) := by decide +kernel
theorem dX4_earlyIn_63 : decode cX4_earlyIn 63 = .ok (.iand, 1) := by decide +kernel
theorem dX4_earlyIn_64 : decode cX4_earlyIn 64 = .ok (.ior, 1) := by decide +kernel
theorem dX4_earlyIn_65 : decode cX4_earlyIn 65 = .ok (.istore_n 2, 1) := by decide +kernel
theorem dX4_earlyIn_66 : decode cX4_earlyIn 66 = .ok (.iinc 4 1, 3) := by decide +kernel
theorem dX4_earlyIn_69 : decode cX4_earlyIn 69 = .ok (.goto (-62), 3) := by decide +kernel
theorem dX4_earlyIn_72 : decode cX4_earlyIn 72 = .ok (.iload_n 2, 1) := by decide +kernel
theorem dX4_earlyIn_73 : decode cX4_earlyIn 73 = .ok (.ireturn, 1) := by decide +kernel
set_option maxRecDepth 20000 in
theorem ggX4_lateIn_X4_at : GoodIn wsX4_lateIn wsX4_at := goodIn_r _ [6, 7, 14, 15, 16, 17, 18, 19, 20, 21, 22, 23, 24, 25, 26, 27, 28, 29, 30, 31] (by decide +kernel) (by decide +kernel)
set_option maxRecDepth 20000 in
theorem gX4_lateIn_X4_at : GoodIn wsX4_lateIn (wsV RX4 80 RX4 yX4_at wsX4_at) := goodIn_app (goodIn_of _ (by decide +kernel)) ggX4_lateIn_X4_at
set_option maxRecDepth 20000 in
theorem ggX4_lateIn_X4_dependent : GoodIn wsX4_lateIn wsX4_dependent := goodIn_r _ [11, 12, 13, 14, 15, 16, 17, 18, 19, 20, 21, 22, 23, 24, 25, 26, 27, 28, 29, 30, 31] (by decide +kernel) (by decide +kernel)
set_option maxRecDepth 20000 in
theorem gX4_lateIn_X4_dependent : GoodIn wsX4_lateIn (wsV RX4 90 RX4 yX4_dependent wsX4_dependent) := goodIn_app (goodIn_of _ (by decide +kernel)) ggX4_lateIn_X4_dependent
theorem dX4_lateIn_0 : decode cX4_lateIn 0 = .ok (.iconst 0, 1) := by decide +kernel
theorem dX4_lateIn_1 : decode cX4_lateIn 1 = .ok (.istore_n 2, 1) := by decide +kernel
theorem dX4_lateIn_2 : decode cX4_lateIn 2 = .ok (.iconst 0, 1) := by decide +kernel
theorem dX4_lateIn_3 : decode cX4_lateIn 3 = .ok (.istore_n 3, 1) := by decide +kernel
theorem dX4_lateIn_4 : decode cX4_lateIn 4 = .ok (.iload_n 3, 1) := by decide +kernel
theorem dX4_lateIn_5 : decode cX4_lateIn 5 = .ok (.aload_n 0, 1) := by decide +kernel
theorem dX4_lateIn_6 : decode cX4_lateIn 6 = .ok (.getfield 17, 3) := by decide +kernel
theorem dX4_lateIn_9 : decode cX4_lateIn 9 = .ok (.iload_n 1, 1) := by decide +kernel
theorem dX4_lateIn_10 : decode cX4_lateIn 10 = .ok (.iaload, 1) := by decide +kernel
theorem dX4_lateIn_11 : decode cX4_lateIn 11 = .ok (.if_icmp .ge 54, 3) := by decide +kernel
theorem dX4_lateIn_14 : decode cX4_lateIn 14 = .ok (.aload_n 0, 1) := by decide +kernel
theorem dX4_lateIn_15 : decode cX4_lateIn 15 = .ok (.iload_n 1, 1) := by decide +kernel
theorem dX4_lateIn_16 : decode cX4_lateIn 16 = .ok (.iload_n 3, 1) := by decide +kernel
theorem dX4_lateIn_17 : decode cX4_lateIn 17 = .ok (.invokevirtual 80, 3) := by decide +kernel
theorem dX4_lateIn_20 : decode cX4_lateIn 20 = .ok (.istore 4, 2) := by decide +kernel
theorem dX4_lateIn_22 : decode cX4_lateIn 22 = .ok (.iload 4, 2) := by decide +kernel
theorem dX4_lateIn_24 : decode cX4_lateIn 24 = .ok (.iconst 3, 1) := by decide +kernel
theorem dX4_lateIn_25 : decode cX4_lateIn 25 = .ok (.irem, 1) := by decide +kernel
theorem dX4_lateIn_26 : decode cX4_lateIn 26 = .ok (.iconst 2, 1) := by decide +kernel
theorem dX4_lateIn_27 : decode cX4_lateIn 27 = .ok (.if_icmp .ne 16, 3) := by decide +kernel
theorem dX4_lateIn_30 : decode cX4_lateIn 30 = .ok (.iload_n 2, 1) := by decide +kernel
theorem dX4_lateIn_31 : decode cX4_lateIn 31 = .ok (.aload_n 0, 1) := by decide +kernel
theorem dX4_lateIn_32 : decode cX4_lateIn 32 = .ok (.iload 4, 2) := by decide +kernel
theorem dX4_lateIn_34 : decode cX4_lateIn 34 = .ok (.iconst 3, 1) := by decide +kernel
theorem dX4_lateIn_35 : decode cX4_lateIn 35 = .ok (.idiv, 1) := by decide +kernel
theorem dX4_lateIn_36 : decode cX4_lateIn 36 = .ok (.invokevirtual 90, 3) := by decide +kernel
theorem dX4_lateIn_39 : decode cX4_lateIn 39 = .ok (.iconst (-1), 1) := by decide +kernel
theorem dX4_lateIn_40 : decode cX4_lateIn 40 = .ok (.ixor, 1) := by decide +kernel
theorem dX4_lateIn_41 : decode cX4_lateIn 41 = .ok (.iand, 1) := by decide +kernel
theorem dX4_lateIn_42 : decode cX4_lateIn 42 = .ok (.istore_n 2, 1) := by decide +kernel
theorem dX4_lateIn_43 : decode cX4_lateIn 43 = .ok (.iload 4, 2) := by decide +kernel
theorem dX4_lateIn_45 : decode cX4_lateIn 45 = .ok (.iconst 3, 1) := by decide +kernel
theorem dX4_lateIn_46 : decode cX4_lateIn 46 = .ok (.irem, 1) := by decide +kernel
theorem dX4_lateIn_47 : decode cX4_lateIn 47 = .ok (.ifCond .ne 12, 3) := by decide +kernel
theorem dX4_lateIn_50 : decode cX4_lateIn 50 = .ok (.iload_n 2, 1) := by decide +kernel
theorem dX4_lateIn_51 : decode cX4_lateIn 51 = .ok (.iconst 1, 1) := by decide +kernel
theorem dX4_lateIn_52 : decode cX4_lateIn 52 = .ok (.iload 4, 2) := by decide +kernel
theorem dX4_lateIn_54 : decode cX4_lateIn 54 = .ok (.iconst 3, 1) := by decide +kernel
theorem dX4_lateIn_55 : decode cX4_lateIn 55 = .ok (.idiv, 1) := by decide +kernel
theorem dX4_lateIn_56 : decode cX4_lateIn 56 = .ok (.ishl, 1) := by decide +kernel
theorem dX4_lateIn_57 : decode cX4_lateIn 57 = .ok (.ior, 1) := by decide +kernel
theorem dX4_lateIn_58 : decode cX4_lateIn 58 = .ok (.istore_n 2, 1) := by decide +kernel
theorem dX4_lateIn_59 : decode cX4_lateIn 59 = .ok (.iinc 3 1, 3) := by decide +kernel
theorem dX4_lateIn_62 : decode cX4_lateIn 62 = .ok (.goto (-58), 3) := by decide +kernel
theorem dX4_lateIn_65 : decode cX4_lateIn 65 = .ok (.iload_n 2, 1) := by decide +kernel
theorem dX4_lateIn_66 : decode cX4_lateIn 66 = .ok (.ireturn, 1) := by decide +kernel
set_option maxRecDepth 20000 in
theorem ggX4_find_X4_all : GoodIn wsX4_find wsX4_all := goodIn_r _ [11, 12, 59, 60, 61, 62, 63, 64, 65, 66, 67, 68, 69, 70, 71, 72, 73, 74, 75, 76] (by decide +kernel) (by decide +kernel)
set_option maxRecDepth 20000 in
theorem gX4_find_X4_all : GoodIn wsX4_find (wsV RX4 86 RX4 yX4_all wsX4_all) := goodIn_app (goodIn_of _ (by decide +kernel)) ggX4_find_X4_all
set_option maxRecDepth 20000 in
theorem ggX4_find_X4_findNeeded : GoodIn wsX4_find wsX4_findNeeded := goodIn_r _ [16, 5, 17, 2, 6, 18, 19, 20, 21, 10, 22, 7, 8, 9, 11, 12, 23, 24, 25, 26, 27, 28, 29, 30, 31, 32, 33, 34, 35, 36, 37, 38, 39, 40, 41, 59, 60, 61, 62, 63, 64, 65, 66, 67, 68, 69, 70, 71, 72, 73, 74, 75, 76] (by decide +kernel) (by decide +kernel)
set_option maxRecDepth 20000 in
theorem gX4_find_X4_findNeeded : GoodIn wsX4_find (wsV RX4 93 RX4 yX4_findNeeded wsX4_findNeeded) := goodIn_app (goodIn_of _ (by decide +kernel)) ggX4_find_X4_findNeeded
set_option maxRecDepth 20000 in
theorem ggX4_find_X4_findThere : GoodIn wsX4_find wsX4_findThere := goodIn_r _ [45, 5, 6, 3, 17, 46, 7, 8, 9, 10, 11, 12, 47, 48, 49, 50, 27, 28, 29, 30, 31, 32, 33, 34, 35, 36, 37, 38, 39, 40, 41, 59, 60, 61, 62, 63, 64, 65, 66, 67, 68, 69, 70, 71, 72, 73, 74, 75, 76] (by decide +kernel) (by decide +kernel)
set_option maxRecDepth 20000 in
theorem gX4_find_X4_findThere : GoodIn wsX4_find (wsV RX4 96 RX4 yX4_findThere wsX4_findThere) := goodIn_app (goodIn_of _ (by decide +kernel)) ggX4_find_X4_findThere
set_option maxRecDepth 20000 in
theorem ggX4_find_X4_delayedAlong : GoodIn wsX4_find wsX4_delayedAlong := goodIn_r _ [54, 4, 17, 55, 56, 57, 10, 58, 2, 6, 3, 18, 38, 39, 40, 41, 27, 7, 8, 9, 11, 12, 28, 29, 30, 31, 32, 33, 34, 35, 36, 37, 23, 24, 25, 26, 59, 60, 61, 62, 63, 64, 65, 66, 67, 68, 69, 70, 71, 72, 73, 74, 75, 76] (by decide +kernel) (by decide +kernel)
set_option maxRecDepth 20000 in
theorem gX4_find_X4_delayedAlong : GoodIn wsX4_find (wsV RX4 99 RX4 yX4_delayedAlong wsX4_delayedAlong) := goodIn_app (goodIn_of _ (by decide +kernel)) ggX4_find_X4_delayedAlong
theorem dX4_find_0 : decode cX4_find 0 = .ok (.iconst 0, 1) := by decide +kernel
theorem dX4_find_1 : decode cX4_find 1 = .ok (.istore_n 1, 1) := by decide +kernel
theorem dX4_find_2 : decode cX4_find 2 = .ok (.iload_n 1, 1) := by decide +kernel
theorem dX4_find_3 : decode cX4_find 3 = .ok (.aload_n 0, 1) := by decide +kernel
theorem dX4_find_4 : decode cX4_find 4 = .ok (.getfield 13, 3) := by decide +kernel
theorem dX4_find_7 : decode cX4_find 7 = .ok (.if_icmp .ge 33, 3) := by decide +kernel
theorem dX4_find_10 : decode cX4_find 10 = .ok (.aload_n 0, 1) := by decide +kernel
theorem dX4_find_11 : decode cX4_find 11 = .ok (.getfield 29, 3) := by decide +kernel
theorem dX4_find_14 : decode cX4_find 14 = .ok (.iload_n 1, 1) := by decide +kernel
theorem dX4_find_15 : decode cX4_find 15 = .ok (.aload_n 0, 1) := by decide +kernel
theorem dX4_find_16 : decode cX4_find 16 = .ok (.getfield 38, 3) := by decide +kernel
theorem dX4_find_19 : decode cX4_find 19 = .ok (.iload_n 1, 1) := by decide +kernel
theorem dX4_find_20 : decode cX4_find 20 = .ok (.aload_n 0, 1) := by decide +kernel
theorem dX4_find_21 : decode cX4_find 21 = .ok (.getfield 41, 3) := by decide +kernel
theorem dX4_find_24 : decode cX4_find 24 = .ok (.iload_n 1, 1) := by decide +kernel
theorem dX4_find_25 : decode cX4_find 25 = .ok (.aload_n 0, 1) := by decide +kernel
theorem dX4_find_26 : decode cX4_find 26 = .ok (.invokevirtual 86, 3) := by decide +kernel
theorem dX4_find_29 : decode cX4_find 29 = .ok (.dup_x2, 1) := by decide +kernel
theorem dX4_find_30 : decode cX4_find 30 = .ok (.iastore, 1) := by decide +kernel
theorem dX4_find_31 : decode cX4_find 31 = .ok (.dup_x2, 1) := by decide +kernel
theorem dX4_find_32 : decode cX4_find 32 = .ok (.iastore, 1) := by decide +kernel
theorem dX4_find_33 : decode cX4_find 33 = .ok (.iastore, 1) := by decide +kernel
theorem dX4_find_34 : decode cX4_find 34 = .ok (.iinc 1 1, 3) := by decide +kernel
theorem dX4_find_37 : decode cX4_find 37 = .ok (.goto (-35), 3) := by decide +kernel
theorem dX4_find_40 : decode cX4_find 40 = .ok (.iconst 1, 1) := by decide +kernel
theorem dX4_find_41 : decode cX4_find 41 = .ok (.istore_n 1, 1) := by decide +kernel
theorem dX4_find_42 : decode cX4_find 42 = .ok (.iload_n 1, 1) := by decide +kernel
theorem dX4_find_43 : decode cX4_find 43 = .ok (.ifCond .eq 38, 3) := by decide +kernel
theorem dX4_find_46 : decode cX4_find 46 = .ok (.iconst 0, 1) := by decide +kernel
theorem dX4_find_47 : decode cX4_find 47 = .ok (.istore_n 1, 1) := by decide +kernel
theorem dX4_find_48 : decode cX4_find 48 = .ok (.iconst 0, 1) := by decide +kernel
theorem dX4_find_49 : decode cX4_find 49 = .ok (.istore_n 2, 1) := by decide +kernel
theorem dX4_find_50 : decode cX4_find 50 = .ok (.iload_n 2, 1) := by decide +kernel
theorem dX4_find_51 : decode cX4_find 51 = .ok (.aload_n 0, 1) := by decide +kernel
theorem dX4_find_52 : decode cX4_find 52 = .ok (.getfield 13, 3) := by decide +kernel
theorem dX4_find_55 : decode cX4_find 55 = .ok (.if_icmp .ge 23, 3) := by decide +kernel
theorem dX4_find_58 : decode cX4_find 58 = .ok (.iload_n 1, 1) := by decide +kernel
theorem dX4_find_59 : decode cX4_find 59 = .ok (.aload_n 0, 1) := by decide +kernel
theorem dX4_find_60 : decode cX4_find 60 = .ok (.iload_n 2, 1) := by decide +kernel
theorem dX4_find_61 : decode cX4_find 61 = .ok (.invokevirtual 93, 3) := by decide +kernel
theorem dX4_find_64 : decode cX4_find 64 = .ok (.aload_n 0, 1) := by decide +kernel
theorem dX4_find_65 : decode cX4_find 65 = .ok (.iload_n 2, 1) := by decide +kernel
theorem dX4_find_66 : decode cX4_find 66 = .ok (.invokevirtual 96, 3) := by decide +kernel
theorem dX4_find_69 : decode cX4_find 69 = .ok (.ior, 1) := by decide +kernel
theorem dX4_find_70 : decode cX4_find 70 = .ok (.ior, 1) := by decide +kernel
theorem dX4_find_71 : decode cX4_find 71 = .ok (.istore_n 1, 1) := by decide +kernel
theorem dX4_find_72 : decode cX4_find 72 = .ok (.iinc 2 1, 3) := by decide +kernel
theorem dX4_find_75 : decode cX4_find 75 = .ok (.goto (-25), 3) := by decide +kernel
theorem dX4_find_78 : decode cX4_find 78 = .ok (.goto (-36), 3) := by decide +kernel
theorem dX4_find_81 : decode cX4_find 81 = .ok (.iconst 1, 1) := by decide +kernel
theorem dX4_find_82 : decode cX4_find 82 = .ok (.istore_n 1, 1) := by decide +kernel
theorem dX4_find_83 : decode cX4_find 83 = .ok (.iload_n 1, 1) := by decide +kernel
theorem dX4_find_84 : decode cX4_find 84 = .ok (.ifCond .eq 129, 3) := by decide +kernel
theorem dX4_find_87 : decode cX4_find 87 = .ok (.iconst 0, 1) := by decide +kernel
theorem dX4_find_88 : decode cX4_find 88 = .ok (.istore_n 1, 1) := by decide +kernel
theorem dX4_find_89 : decode cX4_find 89 = .ok (.iconst 0, 1) := by decide +kernel
theorem dX4_find_90 : decode cX4_find 90 = .ok (.istore_n 2, 1) := by decide +kernel
theorem dX4_find_91 : decode cX4_find 91 = .ok (.iload_n 2, 1) := by decide +kernel
theorem dX4_find_92 : decode cX4_find 92 = .ok (.aload_n 0, 1) := by decide +kernel
theorem dX4_find_93 : decode cX4_find 93 = .ok (.getfield 13, 3) := by decide +kernel
theorem dX4_find_96 : decode cX4_find 96 = .ok (.if_icmp .ge 114, 3) := by decide +kernel
theorem dX4_find_99 : decode cX4_find 99 = .ok (.iload_n 2, 1) := by decide +kernel
theorem dX4_find_100 : decode cX4_find 100 = .ok (.ifCond .ne 12, 3) := by decide +kernel
theorem dX4_find_103 : decode cX4_find 103 = .ok (.aload_n 0, 1) := by decide +kernel
theorem dX4_find_104 : decode cX4_find 104 = .ok (.getfield 29, 3) := by decide +kernel
theorem dX4_find_107 : decode cX4_find 107 = .ok (.iconst 0, 1) := by decide +kernel
theorem dX4_find_108 : decode cX4_find 108 = .ok (.iaload, 1) := by decide +kernel
theorem dX4_find_109 : decode cX4_find 109 = .ok (.goto 7, 3) := by decide +kernel
theorem dX4_find_112 : decode cX4_find 112 = .ok (.aload_n 0, 1) := by decide +kernel
theorem dX4_find_113 : decode cX4_find 113 = .ok (.invokevirtual 86, 3) := by decide +kernel
theorem dX4_find_116 : decode cX4_find 116 = .ok (.istore_n 3, 1) := by decide +kernel
theorem dX4_find_117 : decode cX4_find 117 = .ok (.iload_n 2, 1) := by decide +kernel
theorem dX4_find_118 : decode cX4_find 118 = .ok (.ifCond .ne 7, 3) := by decide +kernel
theorem dX4_find_121 : decode cX4_find 121 = .ok (.iconst 1, 1) := by decide +kernel
theorem dX4_find_122 : decode cX4_find 122 = .ok (.goto 4, 3) := by decide +kernel
theorem dX4_find_125 : decode cX4_find 125 = .ok (.iconst 0, 1) := by decide +kernel
theorem dX4_find_126 : decode cX4_find 126 = .ok (.istore 4, 2) := by decide +kernel
theorem dX4_find_128 : decode cX4_find 128 = .ok (.iconst 0, 1) := by decide +kernel
theorem dX4_find_129 : decode cX4_find 129 = .ok (.istore 5, 2) := by decide +kernel
theorem dX4_find_131 : decode cX4_find 131 = .ok (.iload 5, 2) := by decide +kernel
theorem dX4_find_133 : decode cX4_find 133 = .ok (.aload_n 0, 1) := by decide +kernel
theorem dX4_find_134 : decode cX4_find 134 = .ok (.getfield 56, 3) := by decide +kernel
theorem dX4_find_137 : decode cX4_find 137 = .ok (.if_icmp .ge 35, 3) := by decide +kernel
theorem dX4_find_140 : decode cX4_find 140 = .ok (.aload_n 0, 1) := by decide +kernel
theorem dX4_find_141 : decode cX4_find 141 = .ok (.getfield 26, 3) := by decide +kernel
theorem dX4_find_144 : decode cX4_find 144 = .ok (.iload 5, 2) := by decide +kernel
theorem dX4_find_146 : decode cX4_find 146 = .ok (.iaload, 1) := by decide +kernel
theorem dX4_find_147 : decode cX4_find 147 = .ok (.iload_n 2, 1) := by decide +kernel
theorem dX4_find_148 : decode cX4_find 148 = .ok (.if_icmp .eq 6, 3) := by decide +kernel
theorem dX4_find_151 : decode cX4_find 151 = .ok (.goto 15, 3) := by decide +kernel
theorem dX4_find_154 : decode cX4_find 154 = .ok (.iconst 1, 1) := by decide +kernel
theorem dX4_find_155 : decode cX4_find 155 = .ok (.istore 4, 2) := by decide +kernel
theorem dX4_find_157 : decode cX4_find 157 = .ok (.iload_n 3, 1) := by decide +kernel
theorem dX4_find_158 : decode cX4_find 158 = .ok (.aload_n 0, 1) := by decide +kernel
theorem dX4_find_159 : decode cX4_find 159 = .ok (.iload 5, 2) := by decide +kernel
theorem dX4_find_161 : decode cX4_find 161 = .ok (.invokevirtual 99, 3) := by decide +kernel
theorem dX4_find_164 : decode cX4_find 164 = .ok (.iand, 1) := by decide +kernel
theorem dX4_find_165 : decode cX4_find 165 = .ok (.istore_n 3, 1) := by decide +kernel
theorem dX4_find_166 : decode cX4_find 166 = .ok (.iinc 5 1, 3) := by decide +kernel
theorem dX4_find_169 : decode cX4_find 169 = .ok (.goto (-38), 3) := by decide +kernel
theorem dX4_find_172 : decode cX4_find 172 = .ok (.iload 4, 2) := by decide +kernel
theorem dX4_find_174 : decode cX4_find 174 = .ok (.ifCond .ne 5, 3) := by decide +kernel
theorem dX4_find_177 : decode cX4_find 177 = .ok (.iconst 0, 1) := by decide +kernel
theorem dX4_find_178 : decode cX4_find 178 = .ok (.istore_n 3, 1) := by decide +kernel
theorem dX4_find_179 : decode cX4_find 179 = .ok (.iload_n 1, 1) := by decide +kernel
theorem dX4_find_180 : decode cX4_find 180 = .ok (.aload_n 0, 1) := by decide +kernel
theorem dX4_find_181 : decode cX4_find 181 = .ok (.getfield 41, 3) := by decide +kernel
theorem dX4_find_184 : decode cX4_find 184 = .ok (.iload_n 2, 1) := by decide +kernel
theorem dX4_find_185 : decode cX4_find 185 = .ok (.iaload, 1) := by decide +kernel
theorem dX4_find_186 : decode cX4_find 186 = .ok (.iload_n 3, 1) := by decide +kernel
theorem dX4_find_187 : decode cX4_find 187 = .ok (.if_icmp .eq 7, 3) := by decide +kernel
theorem dX4_find_190 : decode cX4_find 190 = .ok (.iconst 1, 1) := by decide +kernel
theorem dX4_find_191 : decode cX4_find 191 = .ok (.goto 4, 3) := by decide +kernel
theorem dX4_find_194 : decode cX4_find 194 = .ok (.iconst 0, 1) := by decide +kernel
theorem dX4_find_195 : decode cX4_find 195 = .ok (.ior, 1) := by decide +kernel
theorem dX4_find_196 : decode cX4_find 196 = .ok (.istore_n 1, 1) := by decide +kernel
theorem dX4_find_197 : decode cX4_find 197 = .ok (.aload_n 0, 1) := by decide +kernel
theorem dX4_find_198 : decode cX4_find 198 = .ok (.getfield 41, 3) := by decide +kernel
theorem dX4_find_201 : decode cX4_find 201 = .ok (.iload_n 2, 1) := by decide +kernel
theorem dX4_find_202 : decode cX4_find 202 = .ok (.iload_n 3, 1) := by decide +kernel
theorem dX4_find_203 : decode cX4_find 203 = .ok (.iastore, 1) := by decide +kernel
theorem dX4_find_204 : decode cX4_find 204 = .ok (.iinc 2 1, 3) := by decide +kernel
theorem dX4_find_207 : decode cX4_find 207 = .ok (.goto (-116), 3) := by decide +kernel
theorem dX4_find_210 : decode cX4_find 210 = .ok (.goto (-127), 3) := by decide +kernel
theorem dX4_find_213 : decode cX4_find 213 = .ok (.return_, 1) := by decide +kernel
set_option maxRecDepth 20000 in
theorem ggX4_findNeeded_X4_exits : GoodIn wsX4_findNeeded wsX4_exits := goodIn_r _ [10, 1, 2, 35, 36, 37, 38, 39, 40, 41, 42, 43, 44, 45, 46, 47, 48, 49, 50, 51, 52] (by decide +kernel) (by decide +kernel)
set_option maxRecDepth 20000 in
theorem gX4_findNeeded_X4_exits : GoodIn wsX4_findNeeded (wsV RX4 70 RX4 yX4_exits wsX4_exits) := goodIn_app (goodIn_of _ (by decide +kernel)) ggX4_findNeeded_X4_exits
set_option maxRecDepth 20000 in
theorem ggX4_findNeeded_X4_all : GoodIn wsX4_findNeeded wsX4_all := goodIn_r _ [14, 15, 35, 36, 37, 38, 39, 40, 41, 42, 43, 44, 45, 46, 47, 48, 49, 50, 51, 52] (by decide +kernel) (by decide +kernel)
set_option maxRecDepth 20000 in
theorem gX4_findNeeded_X4_all : GoodIn wsX4_findNeeded (wsV RX4 86 RX4 yX4_all wsX4_all) := goodIn_app (goodIn_of _ (by decide +kernel)) ggX4_findNeeded_X4_all
set_option maxRecDepth 20000 in
theorem ggX4_findNeeded_X4_earlyIn : GoodIn wsX4_findNeeded wsX4_earlyIn := goodIn_r _ [19, 20, 21, 22, 23, 9, 24, 25, 26, 27, 28, 29, 15, 30, 35, 36, 37, 38, 39, 40, 41, 42, 43, 44, 45, 46, 47, 48, 49, 50, 51, 52] (by decide +kernel) (by decide +kernel)
set_option maxRecDepth 20000 in
theorem gX4_findNeeded_X4_earlyIn : GoodIn wsX4_findNeeded (wsV RX4 102 RX4 yX4_earlyIn wsX4_earlyIn) := goodIn_app (goodIn_of _ (by decide +kernel)) ggX4_findNeeded_X4_earlyIn
set_option maxRecDepth 20000 in
theorem ggX4_findNeeded_X4_keptBy : GoodIn wsX4_findNeeded wsX4_keptBy := goodIn_r _ [34, 20, 11, 12, 13, 9, 14, 15, 21, 22, 23, 24, 25, 26, 27, 28, 29, 30, 35, 36, 37, 38, 39, 40, 41, 42, 43, 44, 45, 46, 47, 48, 49, 50, 51, 52] (by decide +kernel) (by decide +kernel)
set_option maxRecDepth 20000 in
theorem gX4_findNeeded_X4_keptBy : GoodIn wsX4_findNeeded (wsV RX4 105 RX4 yX4_keptBy wsX4_keptBy) := goodIn_app (goodIn_of _ (by decide +kernel)) ggX4_findNeeded_X4_keptBy
theorem dX4_findNeeded_0 : decode cX4_findNeeded 0 = .ok (.aload_n 0, 1) := by decide +kernel
theorem dX4_findNeeded_1 : decode cX4_findNeeded 1 = .ok (.iload_n 1, 1) := by decide +kernel
theorem dX4_findNeeded_2 : decode cX4_findNeeded 2 = .ok (.invokevirtual 70, 3) := by decide +kernel
theorem dX4_findNeeded_5 : decode cX4_findNeeded 5 = .ok (.ifCond .ne 7, 3) := by decide +kernel
theorem dX4_findNeeded_8 : decode cX4_findNeeded 8 = .ok (.iconst 0, 1) := by decide +kernel
theorem dX4_findNeeded_9 : decode cX4_findNeeded 9 = .ok (.goto 7, 3) := by decide +kernel
theorem dX4_findNeeded_12 : decode cX4_findNeeded 12 = .ok (.aload_n 0, 1) := by decide +kernel
theorem dX4_findNeeded_13 : decode cX4_findNeeded 13 = .ok (.invokevirtual 86, 3) := by decide +kernel
theorem dX4_findNeeded_16 : decode cX4_findNeeded 16 = .ok (.istore_n 2, 1) := by decide +kernel
theorem dX4_findNeeded_17 : decode cX4_findNeeded 17 = .ok (.iconst 0, 1) := by decide +kernel
theorem dX4_findNeeded_18 : decode cX4_findNeeded 18 = .ok (.istore_n 3, 1) := by decide +kernel
theorem dX4_findNeeded_19 : decode cX4_findNeeded 19 = .ok (.iload_n 3, 1) := by decide +kernel
theorem dX4_findNeeded_20 : decode cX4_findNeeded 20 = .ok (.aload_n 0, 1) := by decide +kernel
theorem dX4_findNeeded_21 : decode cX4_findNeeded 21 = .ok (.getfield 56, 3) := by decide +kernel
theorem dX4_findNeeded_24 : decode cX4_findNeeded 24 = .ok (.if_icmp .ge 33, 3) := by decide +kernel
theorem dX4_findNeeded_27 : decode cX4_findNeeded 27 = .ok (.aload_n 0, 1) := by decide +kernel
theorem dX4_findNeeded_28 : decode cX4_findNeeded 28 = .ok (.getfield 23, 3) := by decide +kernel
theorem dX4_findNeeded_31 : decode cX4_findNeeded 31 = .ok (.iload_n 3, 1) := by decide +kernel
theorem dX4_findNeeded_32 : decode cX4_findNeeded 32 = .ok (.iaload, 1) := by decide +kernel
theorem dX4_findNeeded_33 : decode cX4_findNeeded 33 = .ok (.iload_n 1, 1) := by decide +kernel
theorem dX4_findNeeded_34 : decode cX4_findNeeded 34 = .ok (.if_icmp .ne 17, 3) := by decide +kernel
theorem dX4_findNeeded_37 : decode cX4_findNeeded 37 = .ok (.iload_n 2, 1) := by decide +kernel
theorem dX4_findNeeded_38 : decode cX4_findNeeded 38 = .ok (.aload_n 0, 1) := by decide +kernel
theorem dX4_findNeeded_39 : decode cX4_findNeeded 39 = .ok (.getfield 29, 3) := by decide +kernel
theorem dX4_findNeeded_42 : decode cX4_findNeeded 42 = .ok (.aload_n 0, 1) := by decide +kernel
theorem dX4_findNeeded_43 : decode cX4_findNeeded 43 = .ok (.getfield 26, 3) := by decide +kernel
theorem dX4_findNeeded_46 : decode cX4_findNeeded 46 = .ok (.iload_n 3, 1) := by decide +kernel
theorem dX4_findNeeded_47 : decode cX4_findNeeded 47 = .ok (.iaload, 1) := by decide +kernel
theorem dX4_findNeeded_48 : decode cX4_findNeeded 48 = .ok (.iaload, 1) := by decide +kernel
theorem dX4_findNeeded_49 : decode cX4_findNeeded 49 = .ok (.iand, 1) := by decide +kernel
theorem dX4_findNeeded_50 : decode cX4_findNeeded 50 = .ok (.istore_n 2, 1) := by decide +kernel
theorem dX4_findNeeded_51 : decode cX4_findNeeded 51 = .ok (.iinc 3 1, 3) := by decide +kernel
theorem dX4_findNeeded_54 : decode cX4_findNeeded 54 = .ok (.goto (-35), 3) := by decide +kernel
theorem dX4_findNeeded_57 : decode cX4_findNeeded 57 = .ok (.aload_n 0, 1) := by decide +kernel
theorem dX4_findNeeded_58 : decode cX4_findNeeded 58 = .ok (.getfield 32, 3) := by decide +kernel
theorem dX4_findNeeded_61 : decode cX4_findNeeded 61 = .ok (.iload_n 1, 1) := by decide +kernel
theorem dX4_findNeeded_62 : decode cX4_findNeeded 62 = .ok (.iload_n 2, 1) := by decide +kernel
theorem dX4_findNeeded_63 : decode cX4_findNeeded 63 = .ok (.iastore, 1) := by decide +kernel
theorem dX4_findNeeded_64 : decode cX4_findNeeded 64 = .ok (.aload_n 0, 1) := by decide +kernel
theorem dX4_findNeeded_65 : decode cX4_findNeeded 65 = .ok (.getfield 29, 3) := by decide +kernel
theorem dX4_findNeeded_68 : decode cX4_findNeeded 68 = .ok (.iload_n 1, 1) := by decide +kernel
theorem dX4_findNeeded_69 : decode cX4_findNeeded 69 = .ok (.iaload, 1) := by decide +kernel
theorem dX4_findNeeded_70 : decode cX4_findNeeded 70 = .ok (.istore_n 3, 1) := by decide +kernel
theorem dX4_findNeeded_71 : decode cX4_findNeeded 71 = .ok (.aload_n 0, 1) := by decide +kernel
theorem dX4_findNeeded_72 : decode cX4_findNeeded 72 = .ok (.getfield 29, 3) := by decide +kernel
theorem dX4_findNeeded_75 : decode cX4_findNeeded 75 = .ok (.iload_n 1, 1) := by decide +kernel
theorem dX4_findNeeded_76 : decode cX4_findNeeded 76 = .ok (.aload_n 0, 1) := by decide +kernel
theorem dX4_findNeeded_77 : decode cX4_findNeeded 77 = .ok (.iload_n 1, 1) := by decide +kernel
theorem dX4_findNeeded_78 : decode cX4_findNeeded 78 = .ok (.invokevirtual 102, 3) := by decide +kernel
theorem dX4_findNeeded_81 : decode cX4_findNeeded 81 = .ok (.aload_n 0, 1) := by decide +kernel
theorem dX4_findNeeded_82 : decode cX4_findNeeded 82 = .ok (.iload_n 1, 1) := by decide +kernel
theorem dX4_findNeeded_83 : decode cX4_findNeeded 83 = .ok (.invokevirtual 105, 3) := by decide +kernel
theorem dX4_findNeeded_86 : decode cX4_findNeeded 86 = .ok (.iload_n 2, 1) := by decide +kernel
theorem dX4_findNeeded_87 : decode cX4_findNeeded 87 = .ok (.iand, 1) := by decide +kernel
theorem dX4_findNeeded_88 : decode cX4_findNeeded 88 = .ok (.ior, 1) := by decide +kernel
theorem dX4_findNeeded_89 : decode cX4_findNeeded 89 = .ok (.iastore, 1) := by decide +kernel
theorem dX4_findNeeded_90 : decode cX4_findNeeded 90 = .ok (.aload_n 0, 1) := by decide +kernel
theorem dX4_findNeeded_91 : decode cX4_findNeeded 91 = .ok (.getfield 29, 3) := by decide +kernel
theorem dX4_findNeeded_94 : decode cX4_findNeeded 94 = .ok (.iload_n 1, 1) := by decide +kernel
theorem dX4_findNeeded_95 : decode cX4_findNeeded 95 = .ok (.iaload, 1) := by decide +kernel
theorem dX4_findNeeded_96 : decode cX4_findNeeded 96 = .ok (.iload_n 3, 1) := by decide +kernel
theorem dX4_findNeeded_97 : decode cX4_findNeeded 97 = .ok (.if_icmp .eq 7, 3) := by decide +kernel
theorem dX4_findNeeded_100 : decode cX4_findNeeded 100 = .ok (.iconst 1, 1) := by decide +kernel
theorem dX4_findNeeded_101 : decode cX4_findNeeded 101 = .ok (.goto 4, 3) := by decide +kernel
theorem dX4_findNeeded_104 : decode cX4_findNeeded 104 = .ok (.iconst 0, 1) := by decide +kernel
theorem dX4_findNeeded_105 : decode cX4_findNeeded 105 = .ok (.ireturn, 1) := by decide +kernel
set_option maxRecDepth 20000 in
theorem ggX4_findThere_X4_all : GoodIn wsX4_findThere wsX4_all := goodIn_r _ [10, 11, 31, 32, 33, 34, 35, 36, 37, 38, 39, 40, 41, 42, 43, 44, 45, 46, 47, 48] (by decide +kernel) (by decide +kernel)
set_option maxRecDepth 20000 in
theorem gX4_findThere_X4_all : GoodIn wsX4_findThere (wsV RX4 86 RX4 yX4_all wsX4_all) := goodIn_app (goodIn_of _ (by decide +kernel)) ggX4_findThere_X4_all
set_option maxRecDepth 20000 in
theorem ggX4_findThere_X4_lateIn : GoodIn wsX4_findThere wsX4_lateIn := goodIn_r _ [15, 16, 17, 18, 19, 9, 20, 21, 22, 23, 24, 25, 11, 26, 31, 32, 33, 34, 35, 36, 37, 38, 39, 40, 41, 42, 43, 44, 45, 46, 47, 48] (by decide +kernel) (by decide +kernel)
set_option maxRecDepth 20000 in
theorem gX4_findThere_X4_lateIn : GoodIn wsX4_findThere (wsV RX4 108 RX4 yX4_lateIn wsX4_lateIn) := goodIn_app (goodIn_of _ (by decide +kernel)) ggX4_findThere_X4_lateIn
set_option maxRecDepth 20000 in
theorem ggX4_findThere_X4_keptBy : GoodIn wsX4_findThere wsX4_keptBy := goodIn_r _ [30, 16, 6, 7, 8, 9, 10, 11, 17, 18, 19, 20, 21, 22, 23, 24, 25, 26, 31, 32, 33, 34, 35, 36, 37, 38, 39, 40, 41, 42, 43, 44, 45, 46, 47, 48] (by decide +kernel) (by decide +kernel)
set_option maxRecDepth 20000 in
theorem gX4_findThere_X4_keptBy : GoodIn wsX4_findThere (wsV RX4 105 RX4 yX4_keptBy wsX4_keptBy) := goodIn_app (goodIn_of _ (by decide +kernel)) ggX4_findThere_X4_keptBy
theorem dX4_findThere_0 : decode cX4_findThere 0 = .ok (.aload_n 0, 1) := by decide +kernel
theorem dX4_findThere_1 : decode cX4_findThere 1 = .ok (.invokevirtual 86, 3) := by decide +kernel
theorem dX4_findThere_4 : decode cX4_findThere 4 = .ok (.istore_n 2, 1) := by decide +kernel
theorem dX4_findThere_5 : decode cX4_findThere 5 = .ok (.iconst 0, 1) := by decide +kernel
theorem dX4_findThere_6 : decode cX4_findThere 6 = .ok (.istore_n 3, 1) := by decide +kernel
theorem dX4_findThere_7 : decode cX4_findThere 7 = .ok (.iconst 0, 1) := by decide +kernel
theorem dX4_findThere_8 : decode cX4_findThere 8 = .ok (.istore 4, 2) := by decide +kernel
theorem dX4_findThere_10 : decode cX4_findThere 10 = .ok (.iload 4, 2) := by decide +kernel
theorem dX4_findThere_12 : decode cX4_findThere 12 = .ok (.aload_n 0, 1) := by decide +kernel
theorem dX4_findThere_13 : decode cX4_findThere 13 = .ok (.getfield 56, 3) := by decide +kernel
theorem dX4_findThere_16 : decode cX4_findThere 16 = .ok (.if_icmp .ge 40, 3) := by decide +kernel
theorem dX4_findThere_19 : decode cX4_findThere 19 = .ok (.aload_n 0, 1) := by decide +kernel
theorem dX4_findThere_20 : decode cX4_findThere 20 = .ok (.getfield 26, 3) := by decide +kernel
theorem dX4_findThere_23 : decode cX4_findThere 23 = .ok (.iload 4, 2) := by decide +kernel
theorem dX4_findThere_25 : decode cX4_findThere 25 = .ok (.iaload, 1) := by decide +kernel
theorem dX4_findThere_26 : decode cX4_findThere 26 = .ok (.iload_n 1, 1) := by decide +kernel
theorem dX4_findThere_27 : decode cX4_findThere 27 = .ok (.if_icmp .eq 6, 3) := by decide +kernel
theorem dX4_findThere_30 : decode cX4_findThere 30 = .ok (.goto 20, 3) := by decide +kernel
theorem dX4_findThere_33 : decode cX4_findThere 33 = .ok (.iconst 1, 1) := by decide +kernel
theorem dX4_findThere_34 : decode cX4_findThere 34 = .ok (.istore_n 3, 1) := by decide +kernel
theorem dX4_findThere_35 : decode cX4_findThere 35 = .ok (.iload_n 2, 1) := by decide +kernel
theorem dX4_findThere_36 : decode cX4_findThere 36 = .ok (.aload_n 0, 1) := by decide +kernel
theorem dX4_findThere_37 : decode cX4_findThere 37 = .ok (.getfield 38, 3) := by decide +kernel
theorem dX4_findThere_40 : decode cX4_findThere 40 = .ok (.aload_n 0, 1) := by decide +kernel
theorem dX4_findThere_41 : decode cX4_findThere 41 = .ok (.getfield 23, 3) := by decide +kernel
theorem dX4_findThere_44 : decode cX4_findThere 44 = .ok (.iload 4, 2) := by decide +kernel
theorem dX4_findThere_46 : decode cX4_findThere 46 = .ok (.iaload, 1) := by decide +kernel
theorem dX4_findThere_47 : decode cX4_findThere 47 = .ok (.iaload, 1) := by decide +kernel
theorem dX4_findThere_48 : decode cX4_findThere 48 = .ok (.iand, 1) := by decide +kernel
theorem dX4_findThere_49 : decode cX4_findThere 49 = .ok (.istore_n 2, 1) := by decide +kernel
theorem dX4_findThere_50 : decode cX4_findThere 50 = .ok (.iinc 4 1, 3) := by decide +kernel
theorem dX4_findThere_53 : decode cX4_findThere 53 = .ok (.goto (-43), 3) := by decide +kernel
theorem dX4_findThere_56 : decode cX4_findThere 56 = .ok (.aload_n 0, 1) := by decide +kernel
theorem dX4_findThere_57 : decode cX4_findThere 57 = .ok (.getfield 35, 3) := by decide +kernel
theorem dX4_findThere_60 : decode cX4_findThere 60 = .ok (.iload_n 1, 1) := by decide +kernel
theorem dX4_findThere_61 : decode cX4_findThere 61 = .ok (.iload_n 3, 1) := by decide +kernel
theorem dX4_findThere_62 : decode cX4_findThere 62 = .ok (.ifCond .eq 7, 3) := by decide +kernel
theorem dX4_findThere_65 : decode cX4_findThere 65 = .ok (.iload_n 2, 1) := by decide +kernel
theorem dX4_findThere_66 : decode cX4_findThere 66 = .ok (.goto 4, 3) := by decide +kernel
theorem dX4_findThere_69 : decode cX4_findThere 69 = .ok (.iconst 0, 1) := by decide +kernel
theorem dX4_findThere_70 : decode cX4_findThere 70 = .ok (.iastore, 1) := by decide +kernel
theorem dX4_findThere_71 : decode cX4_findThere 71 = .ok (.aload_n 0, 1) := by decide +kernel
theorem dX4_findThere_72 : decode cX4_findThere 72 = .ok (.getfield 38, 3) := by decide +kernel
theorem dX4_findThere_75 : decode cX4_findThere 75 = .ok (.iload_n 1, 1) := by decide +kernel
theorem dX4_findThere_76 : decode cX4_findThere 76 = .ok (.iaload, 1) := by decide +kernel
theorem dX4_findThere_77 : decode cX4_findThere 77 = .ok (.istore 4, 2) := by decide +kernel
theorem dX4_findThere_79 : decode cX4_findThere 79 = .ok (.aload_n 0, 1) := by decide +kernel
theorem dX4_findThere_80 : decode cX4_findThere 80 = .ok (.getfield 38, 3) := by decide +kernel
theorem dX4_findThere_83 : decode cX4_findThere 83 = .ok (.iload_n 1, 1) := by decide +kernel
theorem dX4_findThere_84 : decode cX4_findThere 84 = .ok (.aload_n 0, 1) := by decide +kernel
theorem dX4_findThere_85 : decode cX4_findThere 85 = .ok (.iload_n 1, 1) := by decide +kernel
theorem dX4_findThere_86 : decode cX4_findThere 86 = .ok (.invokevirtual 108, 3) := by decide +kernel
theorem dX4_findThere_89 : decode cX4_findThere 89 = .ok (.aload_n 0, 1) := by decide +kernel
theorem dX4_findThere_90 : decode cX4_findThere 90 = .ok (.iload_n 1, 1) := by decide +kernel
theorem dX4_findThere_91 : decode cX4_findThere 91 = .ok (.invokevirtual 105, 3) := by decide +kernel
theorem dX4_findThere_94 : decode cX4_findThere 94 = .ok (.aload_n 0, 1) := by decide +kernel
theorem dX4_findThere_95 : decode cX4_findThere 95 = .ok (.getfield 35, 3) := by decide +kernel
theorem dX4_findThere_98 : decode cX4_findThere 98 = .ok (.iload_n 1, 1) := by decide +kernel
theorem dX4_findThere_99 : decode cX4_findThere 99 = .ok (.iaload, 1) := by decide +kernel
theorem dX4_findThere_100 : decode cX4_findThere 100 = .ok (.iand, 1) := by decide +kernel
theorem dX4_findThere_101 : decode cX4_findThere 101 = .ok (.ior, 1) := by decide +kernel
theorem dX4_findThere_102 : decode cX4_findThere 102 = .ok (.iastore, 1) := by decide +kernel
theorem dX4_findThere_103 : decode cX4_findThere 103 = .ok (.aload_n 0, 1) := by decide +kernel
theorem dX4_findThere_104 : decode cX4_findThere 104 = .ok (.getfield 38, 3) := by decide +kernel
theorem dX4_findThere_107 : decode cX4_findThere 107 = .ok (.iload_n 1, 1) := by decide +kernel
theorem dX4_findThere_108 : decode cX4_findThere 108 = .ok (.iaload, 1) := by decide +kernel
theorem dX4_findThere_109 : decode cX4_findThere 109 = .ok (.iload 4, 2) := by decide +kernel
theorem dX4_findThere_111 : decode cX4_findThere 111 = .ok (.if_icmp .eq 7, 3) := by decide +kernel
theorem dX4_findThere_114 : decode cX4_findThere 114 = .ok (.iconst 1, 1) := by decide +kernel
theorem dX4_findThere_115 : decode cX4_findThere 115 = .ok (.goto 4, 3) := by decide +kernel
theorem dX4_findThere_118 : decode cX4_findThere 118 = .ok (.iconst 0, 1) := by decide +kernel
theorem dX4_findThere_119 : decode cX4_findThere 119 = .ok (.ireturn, 1) := by decide +kernel
set_option maxRecDepth 20000 in
theorem ggX4_earliestFor_X4_keptBy : GoodIn wsX4_earliestFor wsX4_keptBy := goodIn_r _ [10, 11, 12, 13, 14, 9, 15, 16, 17, 18, 19, 20, 21, 22, 23, 24, 25, 26, 27, 28, 29, 30, 31, 32, 33, 34, 35, 36, 37, 38, 39, 40, 41, 42, 43, 44] (by decide +kernel) (by decide +kernel)
set_option maxRecDepth 20000 in
theorem gX4_earliestFor_X4_keptBy : GoodIn wsX4_earliestFor (wsV RX4 105 RX4 yX4_keptBy wsX4_keptBy) := goodIn_app (goodIn_of _ (by decide +kernel)) ggX4_earliestFor_X4_keptBy
theorem dX4_earliestFor_0 : decode cX4_earliestFor 0 = .ok (.aload_n 0, 1) := by decide +kernel
theorem dX4_earliestFor_1 : decode cX4_earliestFor 1 = .ok (.getfield 29, 3) := by decide +kernel
theorem dX4_earliestFor_4 : decode cX4_earliestFor 4 = .ok (.aload_n 0, 1) := by decide +kernel
theorem dX4_earliestFor_5 : decode cX4_earliestFor 5 = .ok (.getfield 26, 3) := by decide +kernel
theorem dX4_earliestFor_8 : decode cX4_earliestFor 8 = .ok (.iload_n 1, 1) := by decide +kernel
theorem dX4_earliestFor_9 : decode cX4_earliestFor 9 = .ok (.iaload, 1) := by decide +kernel
theorem dX4_earliestFor_10 : decode cX4_earliestFor 10 = .ok (.iaload, 1) := by decide +kernel
theorem dX4_earliestFor_11 : decode cX4_earliestFor 11 = .ok (.aload_n 0, 1) := by decide +kernel
theorem dX4_earliestFor_12 : decode cX4_earliestFor 12 = .ok (.getfield 38, 3) := by decide +kernel
theorem dX4_earliestFor_15 : decode cX4_earliestFor 15 = .ok (.aload_n 0, 1) := by decide +kernel
theorem dX4_earliestFor_16 : decode cX4_earliestFor 16 = .ok (.getfield 23, 3) := by decide +kernel
theorem dX4_earliestFor_19 : decode cX4_earliestFor 19 = .ok (.iload_n 1, 1) := by decide +kernel
theorem dX4_earliestFor_20 : decode cX4_earliestFor 20 = .ok (.iaload, 1) := by decide +kernel
theorem dX4_earliestFor_21 : decode cX4_earliestFor 21 = .ok (.iaload, 1) := by decide +kernel
theorem dX4_earliestFor_22 : decode cX4_earliestFor 22 = .ok (.iconst (-1), 1) := by decide +kernel
theorem dX4_earliestFor_23 : decode cX4_earliestFor 23 = .ok (.ixor, 1) := by decide +kernel
theorem dX4_earliestFor_24 : decode cX4_earliestFor 24 = .ok (.iand, 1) := by decide +kernel
theorem dX4_earliestFor_25 : decode cX4_earliestFor 25 = .ok (.aload_n 0, 1) := by decide +kernel
theorem dX4_earliestFor_26 : decode cX4_earliestFor 26 = .ok (.aload_n 0, 1) := by decide +kernel
theorem dX4_earliestFor_27 : decode cX4_earliestFor 27 = .ok (.getfield 23, 3) := by decide +kernel
theorem dX4_earliestFor_30 : decode cX4_earliestFor 30 = .ok (.iload_n 1, 1) := by decide +kernel
theorem dX4_earliestFor_31 : decode cX4_earliestFor 31 = .ok (.iaload, 1) := by decide +kernel
theorem dX4_earliestFor_32 : decode cX4_earliestFor 32 = .ok (.invokevirtual 105, 3) := by decide +kernel
theorem dX4_earliestFor_35 : decode cX4_earliestFor 35 = .ok (.aload_n 0, 1) := by decide +kernel
theorem dX4_earliestFor_36 : decode cX4_earliestFor 36 = .ok (.getfield 32, 3) := by decide +kernel
theorem dX4_earliestFor_39 : decode cX4_earliestFor 39 = .ok (.aload_n 0, 1) := by decide +kernel
theorem dX4_earliestFor_40 : decode cX4_earliestFor 40 = .ok (.getfield 23, 3) := by decide +kernel
theorem dX4_earliestFor_43 : decode cX4_earliestFor 43 = .ok (.iload_n 1, 1) := by decide +kernel
theorem dX4_earliestFor_44 : decode cX4_earliestFor 44 = .ok (.iaload, 1) := by decide +kernel
theorem dX4_earliestFor_45 : decode cX4_earliestFor 45 = .ok (.iaload, 1) := by decide +kernel
theorem dX4_earliestFor_46 : decode cX4_earliestFor 46 = .ok (.iand, 1) := by decide +kernel
theorem dX4_earliestFor_47 : decode cX4_earliestFor 47 = .ok (.iconst (-1), 1) := by decide +kernel
theorem dX4_earliestFor_48 : decode cX4_earliestFor 48 = .ok (.ixor, 1) := by decide +kernel
theorem dX4_earliestFor_49 : decode cX4_earliestFor 49 = .ok (.iand, 1) := by decide +kernel
theorem dX4_earliestFor_50 : decode cX4_earliestFor 50 = .ok (.ireturn, 1) := by decide +kernel
set_option maxRecDepth 20000 in
theorem ggX4_delayedAlong_X4_earliestFor : GoodIn wsX4_delayedAlong wsX4_earliestFor := goodIn_r _ [7, 8, 9, 10, 2, 11, 12, 13, 14, 6, 15, 16, 17, 18, 19, 20, 21, 22, 23, 24, 25, 26, 27, 28, 29, 30, 31, 36, 37, 38, 39, 40, 41, 42, 43, 44, 45, 46, 47, 48, 49, 50, 51, 52, 53] (by decide +kernel) (by decide +kernel)
set_option maxRecDepth 20000 in
theorem gX4_delayedAlong_X4_earliestFor : GoodIn wsX4_delayedAlong (wsV RX4 111 RX4 yX4_earliestFor wsX4_earliestFor) := goodIn_app (goodIn_of _ (by decide +kernel)) ggX4_delayedAlong_X4_earliestFor
set_option maxRecDepth 20000 in
theorem ggX4_delayedAlong_X4_earlyIn : GoodIn wsX4_delayedAlong wsX4_earlyIn := goodIn_r _ [35, 16, 22, 23, 24, 6, 25, 26, 27, 28, 29, 30, 21, 31, 36, 37, 38, 39, 40, 41, 42, 43, 44, 45, 46, 47, 48, 49, 50, 51, 52, 53] (by decide +kernel) (by decide +kernel)
set_option maxRecDepth 20000 in
theorem gX4_delayedAlong_X4_earlyIn : GoodIn wsX4_delayedAlong (wsV RX4 102 RX4 yX4_earlyIn wsX4_earlyIn) := goodIn_app (goodIn_of _ (by decide +kernel)) ggX4_delayedAlong_X4_earlyIn
theorem dX4_delayedAlong_0 : decode cX4_delayedAlong 0 = .ok (.aload_n 0, 1) := by decide +kernel
theorem dX4_delayedAlong_1 : decode cX4_delayedAlong 1 = .ok (.iload_n 1, 1) := by decide +kernel
theorem dX4_delayedAlong_2 : decode cX4_delayedAlong 2 = .ok (.invokevirtual 111, 3) := by decide +kernel
theorem dX4_delayedAlong_5 : decode cX4_delayedAlong 5 = .ok (.aload_n 0, 1) := by decide +kernel
theorem dX4_delayedAlong_6 : decode cX4_delayedAlong 6 = .ok (.getfield 41, 3) := by decide +kernel
theorem dX4_delayedAlong_9 : decode cX4_delayedAlong 9 = .ok (.aload_n 0, 1) := by decide +kernel
theorem dX4_delayedAlong_10 : decode cX4_delayedAlong 10 = .ok (.getfield 23, 3) := by decide +kernel
theorem dX4_delayedAlong_13 : decode cX4_delayedAlong 13 = .ok (.iload_n 1, 1) := by decide +kernel
theorem dX4_delayedAlong_14 : decode cX4_delayedAlong 14 = .ok (.iaload, 1) := by decide +kernel
theorem dX4_delayedAlong_15 : decode cX4_delayedAlong 15 = .ok (.iaload, 1) := by decide +kernel
theorem dX4_delayedAlong_16 : decode cX4_delayedAlong 16 = .ok (.aload_n 0, 1) := by decide +kernel
theorem dX4_delayedAlong_17 : decode cX4_delayedAlong 17 = .ok (.aload_n 0, 1) := by decide +kernel
theorem dX4_delayedAlong_18 : decode cX4_delayedAlong 18 = .ok (.getfield 23, 3) := by decide +kernel
theorem dX4_delayedAlong_21 : decode cX4_delayedAlong 21 = .ok (.iload_n 1, 1) := by decide +kernel
theorem dX4_delayedAlong_22 : decode cX4_delayedAlong 22 = .ok (.iaload, 1) := by decide +kernel
theorem dX4_delayedAlong_23 : decode cX4_delayedAlong 23 = .ok (.invokevirtual 102, 3) := by decide +kernel
theorem dX4_delayedAlong_26 : decode cX4_delayedAlong 26 = .ok (.iconst (-1), 1) := by decide +kernel
theorem dX4_delayedAlong_27 : decode cX4_delayedAlong 27 = .ok (.ixor, 1) := by decide +kernel
theorem dX4_delayedAlong_28 : decode cX4_delayedAlong 28 = .ok (.iand, 1) := by decide +kernel
theorem dX4_delayedAlong_29 : decode cX4_delayedAlong 29 = .ok (.ior, 1) := by decide +kernel
theorem dX4_delayedAlong_30 : decode cX4_delayedAlong 30 = .ok (.ireturn, 1) := by decide +kernel
set_option maxRecDepth 20000 in
theorem ggX4_insertedOn_X4_delayedAlong : GoodIn wsX4_insertedOn wsX4_delayedAlong := goodIn_r _ [7, 1, 8, 9, 10, 11, 6, 12, 13, 2, 14, 15, 16, 17, 18, 19, 20, 21, 22, 23, 24, 25, 26, 27, 28, 29, 30, 31, 32, 33, 34, 35, 36, 37, 38, 39, 40, 41, 42, 43, 44, 45, 46, 47, 48, 49, 50, 51, 52, 53, 54, 55, 56, 57] (by decide +kernel) (by decide +kernel)
set_option maxRecDepth 20000 in
theorem gX4_insertedOn_X4_delayedAlong : GoodIn wsX4_insertedOn (wsV RX4 99 RX4 yX4_delayedAlong wsX4_delayedAlong) := goodIn_app (goodIn_of _ (by decide +kernel)) ggX4_insertedOn_X4_delayedAlong
theorem dX4_insertedOn_0 : decode cX4_insertedOn 0 = .ok (.aload_n 0, 1) := by decide +kernel
theorem dX4_insertedOn_1 : decode cX4_insertedOn 1 = .ok (.iload_n 1, 1) := by decide +kernel
theorem dX4_insertedOn_2 : decode cX4_insertedOn 2 = .ok (.invokevirtual 99, 3) := by decide +kernel
theorem dX4_insertedOn_5 : decode cX4_insertedOn 5 = .ok (.aload_n 0, 1) := by decide +kernel
theorem dX4_insertedOn_6 : decode cX4_insertedOn 6 = .ok (.getfield 41, 3) := by decide +kernel
theorem dX4_insertedOn_9 : decode cX4_insertedOn 9 = .ok (.aload_n 0, 1) := by decide +kernel
theorem dX4_insertedOn_10 : decode cX4_insertedOn 10 = .ok (.getfield 26, 3) := by decide +kernel
theorem dX4_insertedOn_13 : decode cX4_insertedOn 13 = .ok (.iload_n 1, 1) := by decide +kernel
theorem dX4_insertedOn_14 : decode cX4_insertedOn 14 = .ok (.iaload, 1) := by decide +kernel
theorem dX4_insertedOn_15 : decode cX4_insertedOn 15 = .ok (.iaload, 1) := by decide +kernel
theorem dX4_insertedOn_16 : decode cX4_insertedOn 16 = .ok (.iconst (-1), 1) := by decide +kernel
theorem dX4_insertedOn_17 : decode cX4_insertedOn 17 = .ok (.ixor, 1) := by decide +kernel
theorem dX4_insertedOn_18 : decode cX4_insertedOn 18 = .ok (.iand, 1) := by decide +kernel
theorem dX4_insertedOn_19 : decode cX4_insertedOn 19 = .ok (.ireturn, 1) := by decide +kernel
set_option maxRecDepth 20000 in
theorem ggX4_deletedIn_X4_earlyIn : GoodIn wsX4_deletedIn wsX4_earlyIn := goodIn_r _ [6, 7, 8, 9, 10, 5, 11, 12, 13, 14, 15, 16, 17, 18, 19, 20, 21, 22, 23, 24, 25, 26, 27, 28, 29, 30, 31, 32, 33, 34, 35, 36] (by decide +kernel) (by decide +kernel)
set_option maxRecDepth 20000 in
theorem gX4_deletedIn_X4_earlyIn : GoodIn wsX4_deletedIn (wsV RX4 102 RX4 yX4_earlyIn wsX4_earlyIn) := goodIn_app (goodIn_of _ (by decide +kernel)) ggX4_deletedIn_X4_earlyIn
theorem dX4_deletedIn_0 : decode cX4_deletedIn 0 = .ok (.aload_n 0, 1) := by decide +kernel
theorem dX4_deletedIn_1 : decode cX4_deletedIn 1 = .ok (.iload_n 1, 1) := by decide +kernel
theorem dX4_deletedIn_2 : decode cX4_deletedIn 2 = .ok (.invokevirtual 102, 3) := by decide +kernel
theorem dX4_deletedIn_5 : decode cX4_deletedIn 5 = .ok (.aload_n 0, 1) := by decide +kernel
theorem dX4_deletedIn_6 : decode cX4_deletedIn 6 = .ok (.getfield 41, 3) := by decide +kernel
theorem dX4_deletedIn_9 : decode cX4_deletedIn 9 = .ok (.iload_n 1, 1) := by decide +kernel
theorem dX4_deletedIn_10 : decode cX4_deletedIn 10 = .ok (.iaload, 1) := by decide +kernel
theorem dX4_deletedIn_11 : decode cX4_deletedIn 11 = .ok (.iconst (-1), 1) := by decide +kernel
theorem dX4_deletedIn_12 : decode cX4_deletedIn 12 = .ok (.ixor, 1) := by decide +kernel
theorem dX4_deletedIn_13 : decode cX4_deletedIn 13 = .ok (.iand, 1) := by decide +kernel
theorem dX4_deletedIn_14 : decode cX4_deletedIn 14 = .ok (.ireturn, 1) := by decide +kernel
set_option maxRecDepth 20000 in
theorem ggX4_asks_X4_find : GoodIn wsX4_asks wsX4_find := goodIn_r _ [6, 7, 8, 9, 10, 11, 12, 13, 14, 15, 5, 16, 17, 18, 19, 20, 21, 22, 23, 24, 25, 26, 27, 28, 29, 30, 31, 32, 33, 34, 35, 36, 37, 38, 39, 40, 41, 42, 43, 44, 45, 46, 47, 48, 49, 50, 51, 52, 53, 54, 55, 56, 57, 58, 59, 60, 61, 62, 63, 64, 65, 66, 67, 68, 69, 70, 71, 72, 73, 74, 75, 76, 77, 78, 79, 80, 81] (by decide +kernel) (by decide +kernel)
set_option maxRecDepth 20000 in
theorem gX4_asks_X4_find : GoodIn wsX4_asks (wsV RX4 114 RX4 yX4_find wsX4_find) := goodIn_app (goodIn_of _ (by decide +kernel)) ggX4_asks_X4_find
theorem dX4_asks_0 : decode cX4_asks 0 = .ok (.aload_n 0, 1) := by decide +kernel
theorem dX4_asks_1 : decode cX4_asks 1 = .ok (.iload_n 1, 1) := by decide +kernel
theorem dX4_asks_2 : decode cX4_asks 2 = .ok (.ifCond .eq 7, 3) := by decide +kernel
theorem dX4_asks_5 : decode cX4_asks 5 = .ok (.iconst 0, 1) := by decide +kernel
theorem dX4_asks_6 : decode cX4_asks 6 = .ok (.goto 4, 3) := by decide +kernel
theorem dX4_asks_9 : decode cX4_asks 9 = .ok (.iconst 1, 1) := by decide +kernel
theorem dX4_asks_10 : decode cX4_asks 10 = .ok (.putfield 53, 3) := by decide +kernel
theorem dX4_asks_13 : decode cX4_asks 13 = .ok (.iload_n 1, 1) := by decide +kernel
theorem dX4_asks_14 : decode cX4_asks 14 = .ok (.ifCond .eq 7, 3) := by decide +kernel
theorem dX4_asks_17 : decode cX4_asks 17 = .ok (.aload_n 0, 1) := by decide +kernel
theorem dX4_asks_18 : decode cX4_asks 18 = .ok (.invokevirtual 114, 3) := by decide +kernel
theorem dX4_asks_21 : decode cX4_asks 21 = .ok (.iload_n 1, 1) := by decide +kernel
theorem dX4_asks_22 : decode cX4_asks 22 = .ok (.ireturn, 1) := by decide +kernel
set_option maxRecDepth 20000 in
theorem ggX4_kept_X4_isBlock : GoodIn wsX4_kept wsX4_isBlock := goodIn_r _ [5, 6, 72, 73, 74, 75, 76, 77, 78, 79, 80, 81, 82, 83, 84, 85, 86, 87, 88, 89] (by decide +kernel) (by decide +kernel)
set_option maxRecDepth 20000 in
theorem gX4_kept_X4_isBlock : GoodIn wsX4_kept (wsV RX4 66 RX4 yX4_isBlock wsX4_isBlock) := goodIn_app (goodIn_of _ (by decide +kernel)) ggX4_kept_X4_isBlock
set_option maxRecDepth 20000 in
theorem ggX4_kept_X4_asks : GoodIn wsX4_kept wsX4_asks := goodIn_r _ [10, 11, 12, 13, 14, 4, 15, 6, 16, 17, 18, 19, 20, 21, 22, 23, 24, 25, 26, 27, 28, 29, 30, 31, 32, 33, 34, 35, 36, 37, 38, 39, 40, 41, 42, 43, 44, 45, 46, 47, 48, 49, 50, 51, 52, 53, 54, 55, 56, 57, 58, 59, 60, 61, 62, 63, 64, 65, 66, 67, 68, 69, 70, 71, 72, 73, 74, 75, 76, 77, 78, 79, 80, 81, 82, 83, 84, 85, 86, 87, 88, 89] (by decide +kernel) (by decide +kernel)
set_option maxRecDepth 20000 in
theorem gX4_kept_X4_asks : GoodIn wsX4_kept (wsV RX4 117 RX4 yX4_asks wsX4_asks) := goodIn_app (goodIn_of _ (by decide +kernel)) ggX4_kept_X4_asks
set_option maxRecDepth 20000 in
theorem ggX4_kept_X4_keptBy : GoodIn wsX4_kept wsX4_keptBy := goodIn_r _ [54, 40, 21, 22, 23, 4, 24, 25, 41, 42, 43, 44, 45, 46, 47, 48, 49, 50, 72, 73, 74, 75, 76, 77, 78, 79, 80, 81, 82, 83, 84, 85, 86, 87, 88, 89] (by decide +kernel) (by decide +kernel)
set_option maxRecDepth 20000 in
theorem gX4_kept_X4_keptBy : GoodIn wsX4_kept (wsV RX4 105 RX4 yX4_keptBy wsX4_keptBy) := goodIn_app (goodIn_of _ (by decide +kernel)) ggX4_kept_X4_keptBy
theorem dX4_kept_0 : decode cX4_kept 0 = .ok (.aload_n 0, 1) := by decide +kernel
theorem dX4_kept_1 : decode cX4_kept 1 = .ok (.aload_n 0, 1) := by decide +kernel
theorem dX4_kept_2 : decode cX4_kept 2 = .ok (.iload_n 1, 1) := by decide +kernel
theorem dX4_kept_3 : decode cX4_kept 3 = .ok (.invokevirtual 66, 3) := by decide +kernel
theorem dX4_kept_6 : decode cX4_kept 6 = .ok (.invokevirtual 117, 3) := by decide +kernel
theorem dX4_kept_9 : decode cX4_kept 9 = .ok (.ifCond .eq 11, 3) := by decide +kernel
theorem dX4_kept_12 : decode cX4_kept 12 = .ok (.aload_n 0, 1) := by decide +kernel
theorem dX4_kept_13 : decode cX4_kept 13 = .ok (.iload_n 1, 1) := by decide +kernel
theorem dX4_kept_14 : decode cX4_kept 14 = .ok (.invokevirtual 105, 3) := by decide +kernel
theorem dX4_kept_17 : decode cX4_kept 17 = .ok (.goto 4, 3) := by decide +kernel
theorem dX4_kept_20 : decode cX4_kept 20 = .ok (.iconst 0, 1) := by decide +kernel
theorem dX4_kept_21 : decode cX4_kept 21 = .ok (.ireturn, 1) := by decide +kernel
set_option maxRecDepth 20000 in
theorem ggX4_early_X4_isBlock : GoodIn wsX4_early wsX4_isBlock := goodIn_r _ [5, 6, 72, 73, 74, 75, 76, 77, 78, 79, 80, 81, 82, 83, 84, 85, 86, 87, 88, 89] (by decide +kernel) (by decide +kernel)
set_option maxRecDepth 20000 in
theorem gX4_early_X4_isBlock : GoodIn wsX4_early (wsV RX4 66 RX4 yX4_isBlock wsX4_isBlock) := goodIn_app (goodIn_of _ (by decide +kernel)) ggX4_early_X4_isBlock
set_option maxRecDepth 20000 in
theorem ggX4_early_X4_asks : GoodIn wsX4_early wsX4_asks := goodIn_r _ [10, 11, 12, 13, 14, 4, 15, 6, 16, 17, 18, 19, 20, 21, 22, 23, 24, 25, 26, 27, 28, 29, 30, 31, 32, 33, 34, 35, 36, 37, 38, 39, 40, 41, 42, 43, 44, 45, 46, 47, 48, 49, 50, 51, 52, 53, 54, 55, 56, 57, 58, 59, 60, 61, 62, 63, 64, 65, 66, 67, 68, 69, 70, 71, 72, 73, 74, 75, 76, 77, 78, 79, 80, 81, 82, 83, 84, 85, 86, 87, 88, 89] (by decide +kernel) (by decide +kernel)
set_option maxRecDepth 20000 in
theorem gX4_early_X4_asks : GoodIn wsX4_early (wsV RX4 117 RX4 yX4_asks wsX4_asks) := goodIn_app (goodIn_of _ (by decide +kernel)) ggX4_early_X4_asks
set_option maxRecDepth 20000 in
theorem ggX4_early_X4_earlyIn : GoodIn wsX4_early wsX4_earlyIn := goodIn_r _ [39, 40, 41, 42, 43, 4, 44, 45, 46, 47, 48, 49, 25, 50, 72, 73, 74, 75, 76, 77, 78, 79, 80, 81, 82, 83, 84, 85, 86, 87, 88, 89] (by decide +kernel) (by decide +kernel)
set_option maxRecDepth 20000 in
theorem gX4_early_X4_earlyIn : GoodIn wsX4_early (wsV RX4 102 RX4 yX4_earlyIn wsX4_earlyIn) := goodIn_app (goodIn_of _ (by decide +kernel)) ggX4_early_X4_earlyIn
theorem dX4_early_0 : decode cX4_early 0 = .ok (.aload_n 0, 1) := by decide +kernel
theorem dX4_early_1 : decode cX4_early 1 = .ok (.aload_n 0, 1) := by decide +kernel
theorem dX4_early_2 : decode cX4_early 2 = .ok (.iload_n 1, 1) := by decide +kernel
theorem dX4_early_3 : decode cX4_early 3 = .ok (.invokevirtual 66, 3) := by decide +kernel
theorem dX4_early_6 : decode cX4_early 6 = .ok (.invokevirtual 117, 3) := by decide +kernel
theorem dX4_early_9 : decode cX4_early 9 = .ok (.ifCond .eq 11, 3) := by decide +kernel
theorem dX4_early_12 : decode cX4_early 12 = .ok (.aload_n 0, 1) := by decide +kernel
theorem dX4_early_13 : decode cX4_early 13 = .ok (.iload_n 1, 1) := by decide +kernel
theorem dX4_early_14 : decode cX4_early 14 = .ok (.invokevirtual 102, 3) := by decide +kernel
theorem dX4_early_17 : decode cX4_early 17 = .ok (.goto 4, 3) := by decide +kernel
theorem dX4_early_20 : decode cX4_early 20 = .ok (.iconst 0, 1) := by decide +kernel
theorem dX4_early_21 : decode cX4_early 21 = .ok (.ireturn, 1) := by decide +kernel
set_option maxRecDepth 20000 in
theorem ggX4_late_X4_isBlock : GoodIn wsX4_late wsX4_isBlock := goodIn_r _ [5, 6, 72, 73, 74, 75, 76, 77, 78, 79, 80, 81, 82, 83, 84, 85, 86, 87, 88, 89] (by decide +kernel) (by decide +kernel)
set_option maxRecDepth 20000 in
theorem gX4_late_X4_isBlock : GoodIn wsX4_late (wsV RX4 66 RX4 yX4_isBlock wsX4_isBlock) := goodIn_app (goodIn_of _ (by decide +kernel)) ggX4_late_X4_isBlock
set_option maxRecDepth 20000 in
theorem ggX4_late_X4_asks : GoodIn wsX4_late wsX4_asks := goodIn_r _ [10, 11, 12, 13, 14, 4, 15, 6, 16, 17, 18, 19, 20, 21, 22, 23, 24, 25, 26, 27, 28, 29, 30, 31, 32, 33, 34, 35, 36, 37, 38, 39, 40, 41, 42, 43, 44, 45, 46, 47, 48, 49, 50, 51, 52, 53, 54, 55, 56, 57, 58, 59, 60, 61, 62, 63, 64, 65, 66, 67, 68, 69, 70, 71, 72, 73, 74, 75, 76, 77, 78, 79, 80, 81, 82, 83, 84, 85, 86, 87, 88, 89] (by decide +kernel) (by decide +kernel)
set_option maxRecDepth 20000 in
theorem gX4_late_X4_asks : GoodIn wsX4_late (wsV RX4 117 RX4 yX4_asks wsX4_asks) := goodIn_app (goodIn_of _ (by decide +kernel)) ggX4_late_X4_asks
set_option maxRecDepth 20000 in
theorem ggX4_late_X4_lateIn : GoodIn wsX4_late wsX4_lateIn := goodIn_r _ [63, 40, 41, 42, 43, 4, 44, 45, 46, 47, 48, 49, 25, 50, 72, 73, 74, 75, 76, 77, 78, 79, 80, 81, 82, 83, 84, 85, 86, 87, 88, 89] (by decide +kernel) (by decide +kernel)
set_option maxRecDepth 20000 in
theorem gX4_late_X4_lateIn : GoodIn wsX4_late (wsV RX4 108 RX4 yX4_lateIn wsX4_lateIn) := goodIn_app (goodIn_of _ (by decide +kernel)) ggX4_late_X4_lateIn
theorem dX4_late_0 : decode cX4_late 0 = .ok (.aload_n 0, 1) := by decide +kernel
theorem dX4_late_1 : decode cX4_late 1 = .ok (.aload_n 0, 1) := by decide +kernel
theorem dX4_late_2 : decode cX4_late 2 = .ok (.iload_n 1, 1) := by decide +kernel
theorem dX4_late_3 : decode cX4_late 3 = .ok (.invokevirtual 66, 3) := by decide +kernel
theorem dX4_late_6 : decode cX4_late 6 = .ok (.invokevirtual 117, 3) := by decide +kernel
theorem dX4_late_9 : decode cX4_late 9 = .ok (.ifCond .eq 11, 3) := by decide +kernel
theorem dX4_late_12 : decode cX4_late 12 = .ok (.aload_n 0, 1) := by decide +kernel
theorem dX4_late_13 : decode cX4_late 13 = .ok (.iload_n 1, 1) := by decide +kernel
theorem dX4_late_14 : decode cX4_late 14 = .ok (.invokevirtual 108, 3) := by decide +kernel
theorem dX4_late_17 : decode cX4_late 17 = .ok (.goto 4, 3) := by decide +kernel
theorem dX4_late_20 : decode cX4_late 20 = .ok (.iconst 0, 1) := by decide +kernel
theorem dX4_late_21 : decode cX4_late 21 = .ok (.ireturn, 1) := by decide +kernel
set_option maxRecDepth 20000 in
theorem ggX4_needed_X4_isBlock : GoodIn wsX4_needed wsX4_isBlock := goodIn_r _ [7, 8, 72, 73, 74, 75, 76, 77, 78, 79, 80, 81, 82, 83, 84, 85, 86, 87, 88, 89] (by decide +kernel) (by decide +kernel)
set_option maxRecDepth 20000 in
theorem gX4_needed_X4_isBlock : GoodIn wsX4_needed (wsV RX4 66 RX4 yX4_isBlock wsX4_isBlock) := goodIn_app (goodIn_of _ (by decide +kernel)) ggX4_needed_X4_isBlock
set_option maxRecDepth 20000 in
theorem ggX4_needed_X4_asks : GoodIn wsX4_needed wsX4_asks := goodIn_r _ [12, 13, 14, 15, 16, 6, 17, 8, 2, 18, 19, 20, 21, 22, 23, 24, 25, 26, 27, 28, 29, 30, 31, 1, 32, 33, 34, 35, 36, 37, 38, 39, 40, 41, 42, 43, 44, 45, 46, 47, 48, 49, 50, 51, 52, 53, 54, 55, 56, 57, 58, 59, 60, 61, 62, 63, 64, 65, 66, 67, 68, 69, 70, 71, 72, 73, 74, 75, 76, 77, 78, 79, 80, 81, 82, 83, 84, 85, 86, 87, 88, 89] (by decide +kernel) (by decide +kernel)
set_option maxRecDepth 20000 in
theorem gX4_needed_X4_asks : GoodIn wsX4_needed (wsV RX4 117 RX4 yX4_asks wsX4_asks) := goodIn_app (goodIn_of _ (by decide +kernel)) ggX4_needed_X4_asks
theorem dX4_needed_0 : decode cX4_needed 0 = .ok (.aload_n 0, 1) := by decide +kernel
theorem dX4_needed_1 : decode cX4_needed 1 = .ok (.aload_n 0, 1) := by decide +kernel
theorem dX4_needed_2 : decode cX4_needed 2 = .ok (.iload_n 1, 1) := by decide +kernel
theorem dX4_needed_3 : decode cX4_needed 3 = .ok (.invokevirtual 66, 3) := by decide +kernel
theorem dX4_needed_6 : decode cX4_needed 6 = .ok (.invokevirtual 117, 3) := by decide +kernel
theorem dX4_needed_9 : decode cX4_needed 9 = .ok (.ifCond .ne 7, 3) := by decide +kernel
theorem dX4_needed_12 : decode cX4_needed 12 = .ok (.iconst 0, 1) := by decide +kernel
theorem dX4_needed_13 : decode cX4_needed 13 = .ok (.goto 22, 3) := by decide +kernel
theorem dX4_needed_16 : decode cX4_needed 16 = .ok (.iload_n 2, 1) := by decide +kernel
theorem dX4_needed_17 : decode cX4_needed 17 = .ok (.ifCond .eq 12, 3) := by decide +kernel
theorem dX4_needed_20 : decode cX4_needed 20 = .ok (.aload_n 0, 1) := by decide +kernel
theorem dX4_needed_21 : decode cX4_needed 21 = .ok (.getfield 32, 3) := by decide +kernel
theorem dX4_needed_24 : decode cX4_needed 24 = .ok (.iload_n 1, 1) := by decide +kernel
theorem dX4_needed_25 : decode cX4_needed 25 = .ok (.iaload, 1) := by decide +kernel
theorem dX4_needed_26 : decode cX4_needed 26 = .ok (.goto 9, 3) := by decide +kernel
theorem dX4_needed_29 : decode cX4_needed 29 = .ok (.aload_n 0, 1) := by decide +kernel
theorem dX4_needed_30 : decode cX4_needed 30 = .ok (.getfield 29, 3) := by decide +kernel
theorem dX4_needed_33 : decode cX4_needed 33 = .ok (.iload_n 1, 1) := by decide +kernel
theorem dX4_needed_34 : decode cX4_needed 34 = .ok (.iaload, 1) := by decide +kernel
theorem dX4_needed_35 : decode cX4_needed 35 = .ok (.ireturn, 1) := by decide +kernel
set_option maxRecDepth 20000 in
theorem ggX4_there_X4_isBlock : GoodIn wsX4_there wsX4_isBlock := goodIn_r _ [7, 8, 72, 73, 74, 75, 76, 77, 78, 79, 80, 81, 82, 83, 84, 85, 86, 87, 88, 89] (by decide +kernel) (by decide +kernel)
set_option maxRecDepth 20000 in
theorem gX4_there_X4_isBlock : GoodIn wsX4_there (wsV RX4 66 RX4 yX4_isBlock wsX4_isBlock) := goodIn_app (goodIn_of _ (by decide +kernel)) ggX4_there_X4_isBlock
set_option maxRecDepth 20000 in
theorem ggX4_there_X4_asks : GoodIn wsX4_there wsX4_asks := goodIn_r _ [12, 13, 14, 15, 16, 6, 17, 8, 18, 1, 19, 20, 21, 22, 23, 24, 25, 26, 27, 28, 29, 30, 31, 32, 33, 34, 35, 36, 37, 38, 39, 40, 41, 42, 43, 44, 45, 46, 47, 48, 49, 50, 51, 52, 53, 54, 55, 56, 57, 58, 59, 2, 60, 61, 62, 63, 64, 65, 66, 67, 68, 69, 70, 71, 72, 73, 74, 75, 76, 77, 78, 79, 80, 81, 82, 83, 84, 85, 86, 87, 88, 89] (by decide +kernel) (by decide +kernel)
set_option maxRecDepth 20000 in
theorem gX4_there_X4_asks : GoodIn wsX4_there (wsV RX4 117 RX4 yX4_asks wsX4_asks) := goodIn_app (goodIn_of _ (by decide +kernel)) ggX4_there_X4_asks
theorem dX4_there_0 : decode cX4_there 0 = .ok (.aload_n 0, 1) := by decide +kernel
theorem dX4_there_1 : decode cX4_there 1 = .ok (.aload_n 0, 1) := by decide +kernel
theorem dX4_there_2 : decode cX4_there 2 = .ok (.iload_n 1, 1) := by decide +kernel
theorem dX4_there_3 : decode cX4_there 3 = .ok (.invokevirtual 66, 3) := by decide +kernel
theorem dX4_there_6 : decode cX4_there 6 = .ok (.invokevirtual 117, 3) := by decide +kernel
theorem dX4_there_9 : decode cX4_there 9 = .ok (.ifCond .ne 7, 3) := by decide +kernel
theorem dX4_there_12 : decode cX4_there 12 = .ok (.iconst 0, 1) := by decide +kernel
theorem dX4_there_13 : decode cX4_there 13 = .ok (.goto 22, 3) := by decide +kernel
theorem dX4_there_16 : decode cX4_there 16 = .ok (.iload_n 2, 1) := by decide +kernel
theorem dX4_there_17 : decode cX4_there 17 = .ok (.ifCond .eq 12, 3) := by decide +kernel
theorem dX4_there_20 : decode cX4_there 20 = .ok (.aload_n 0, 1) := by decide +kernel
theorem dX4_there_21 : decode cX4_there 21 = .ok (.getfield 38, 3) := by decide +kernel
theorem dX4_there_24 : decode cX4_there 24 = .ok (.iload_n 1, 1) := by decide +kernel
theorem dX4_there_25 : decode cX4_there 25 = .ok (.iaload, 1) := by decide +kernel
theorem dX4_there_26 : decode cX4_there 26 = .ok (.goto 9, 3) := by decide +kernel
theorem dX4_there_29 : decode cX4_there 29 = .ok (.aload_n 0, 1) := by decide +kernel
theorem dX4_there_30 : decode cX4_there 30 = .ok (.getfield 35, 3) := by decide +kernel
theorem dX4_there_33 : decode cX4_there 33 = .ok (.iload_n 1, 1) := by decide +kernel
theorem dX4_there_34 : decode cX4_there 34 = .ok (.iaload, 1) := by decide +kernel
theorem dX4_there_35 : decode cX4_there 35 = .ok (.ireturn, 1) := by decide +kernel
set_option maxRecDepth 20000 in
theorem ggX4_earliest_X4_isEdge : GoodIn wsX4_earliest wsX4_isEdge := goodIn_r _ [5, 6, 72, 73, 74, 75, 76, 77, 78, 79, 80, 81, 82, 83, 84, 85, 86, 87, 88, 89] (by decide +kernel) (by decide +kernel)
set_option maxRecDepth 20000 in
theorem gX4_earliest_X4_isEdge : GoodIn wsX4_earliest (wsV RX4 83 RX4 yX4_isEdge wsX4_isEdge) := goodIn_app (goodIn_of _ (by decide +kernel)) ggX4_earliest_X4_isEdge
set_option maxRecDepth 20000 in
theorem ggX4_earliest_X4_asks : GoodIn wsX4_earliest wsX4_asks := goodIn_r _ [10, 11, 12, 13, 14, 4, 15, 16, 17, 18, 19, 6, 20, 21, 22, 23, 24, 25, 26, 27, 28, 29, 30, 31, 32, 33, 34, 35, 36, 37, 38, 39, 40, 41, 42, 43, 44, 45, 46, 47, 48, 49, 50, 51, 52, 53, 54, 55, 56, 57, 58, 59, 60, 61, 62, 63, 64, 65, 66, 67, 68, 69, 70, 71, 72, 73, 74, 75, 76, 77, 78, 79, 80, 81, 82, 83, 84, 85, 86, 87, 88, 89] (by decide +kernel) (by decide +kernel)
set_option maxRecDepth 20000 in
theorem gX4_earliest_X4_asks : GoodIn wsX4_earliest (wsV RX4 117 RX4 yX4_asks wsX4_asks) := goodIn_app (goodIn_of _ (by decide +kernel)) ggX4_earliest_X4_asks
set_option maxRecDepth 20000 in
theorem ggX4_earliest_X4_earliestFor : GoodIn wsX4_earliest wsX4_earliestFor := goodIn_r _ [71, 17, 20, 18, 30, 31, 51, 52, 53, 4, 54, 40, 21, 22, 23, 24, 25, 41, 42, 43, 44, 45, 46, 47, 48, 49, 50, 72, 73, 74, 75, 76, 77, 78, 79, 80, 81, 82, 83, 84, 85, 86, 87, 88, 89] (by decide +kernel) (by decide +kernel)
set_option maxRecDepth 20000 in
theorem gX4_earliest_X4_earliestFor : GoodIn wsX4_earliest (wsV RX4 111 RX4 yX4_earliestFor wsX4_earliestFor) := goodIn_app (goodIn_of _ (by decide +kernel)) ggX4_earliest_X4_earliestFor
theorem dX4_earliest_0 : decode cX4_earliest 0 = .ok (.aload_n 0, 1) := by decide +kernel
theorem dX4_earliest_1 : decode cX4_earliest 1 = .ok (.aload_n 0, 1) := by decide +kernel
theorem dX4_earliest_2 : decode cX4_earliest 2 = .ok (.iload_n 1, 1) := by decide +kernel
theorem dX4_earliest_3 : decode cX4_earliest 3 = .ok (.invokevirtual 83, 3) := by decide +kernel
theorem dX4_earliest_6 : decode cX4_earliest 6 = .ok (.invokevirtual 117, 3) := by decide +kernel
theorem dX4_earliest_9 : decode cX4_earliest 9 = .ok (.ifCond .eq 11, 3) := by decide +kernel
theorem dX4_earliest_12 : decode cX4_earliest 12 = .ok (.aload_n 0, 1) := by decide +kernel
theorem dX4_earliest_13 : decode cX4_earliest 13 = .ok (.iload_n 1, 1) := by decide +kernel
theorem dX4_earliest_14 : decode cX4_earliest 14 = .ok (.invokevirtual 111, 3) := by decide +kernel
theorem dX4_earliest_17 : decode cX4_earliest 17 = .ok (.goto 4, 3) := by decide +kernel
theorem dX4_earliest_20 : decode cX4_earliest 20 = .ok (.iconst 0, 1) := by decide +kernel
theorem dX4_earliest_21 : decode cX4_earliest 21 = .ok (.ireturn, 1) := by decide +kernel
set_option maxRecDepth 20000 in
theorem ggX4_delayedOn_X4_isEdge : GoodIn wsX4_delayedOn wsX4_isEdge := goodIn_r _ [5, 6, 72, 73, 74, 75, 76, 77, 78, 79, 80, 81, 82, 83, 84, 85, 86, 87, 88, 89] (by decide +kernel) (by decide +kernel)
set_option maxRecDepth 20000 in
theorem gX4_delayedOn_X4_isEdge : GoodIn wsX4_delayedOn (wsV RX4 83 RX4 yX4_isEdge wsX4_isEdge) := goodIn_app (goodIn_of _ (by decide +kernel)) ggX4_delayedOn_X4_isEdge
set_option maxRecDepth 20000 in
theorem ggX4_delayedOn_X4_asks : GoodIn wsX4_delayedOn wsX4_asks := goodIn_r _ [10, 11, 12, 13, 14, 4, 15, 16, 17, 18, 19, 6, 20, 21, 22, 23, 24, 25, 26, 27, 28, 29, 30, 31, 32, 33, 34, 35, 36, 37, 38, 39, 40, 41, 42, 43, 44, 45, 46, 47, 48, 49, 50, 51, 52, 53, 54, 55, 56, 57, 58, 59, 60, 61, 62, 63, 64, 65, 66, 67, 68, 69, 70, 71, 72, 73, 74, 75, 76, 77, 78, 79, 80, 81, 82, 83, 84, 85, 86, 87, 88, 89] (by decide +kernel) (by decide +kernel)
set_option maxRecDepth 20000 in
theorem gX4_delayedOn_X4_asks : GoodIn wsX4_delayedOn (wsV RX4 117 RX4 yX4_asks wsX4_asks) := goodIn_app (goodIn_of _ (by decide +kernel)) ggX4_delayedOn_X4_asks
set_option maxRecDepth 20000 in
theorem ggX4_delayedOn_X4_delayedAlong : GoodIn wsX4_delayedOn wsX4_delayedAlong := goodIn_r _ [67, 19, 30, 68, 69, 70, 4, 71, 17, 20, 18, 31, 51, 52, 53, 54, 40, 21, 22, 23, 24, 25, 41, 42, 43, 44, 45, 46, 47, 48, 49, 50, 36, 37, 38, 39, 72, 73, 74, 75, 76, 77, 78, 79, 80, 81, 82, 83, 84, 85, 86, 87, 88, 89] (by decide +kernel) (by decide +kernel)
set_option maxRecDepth 20000 in
theorem gX4_delayedOn_X4_delayedAlong : GoodIn wsX4_delayedOn (wsV RX4 99 RX4 yX4_delayedAlong wsX4_delayedAlong) := goodIn_app (goodIn_of _ (by decide +kernel)) ggX4_delayedOn_X4_delayedAlong
theorem dX4_delayedOn_0 : decode cX4_delayedOn 0 = .ok (.aload_n 0, 1) := by decide +kernel
theorem dX4_delayedOn_1 : decode cX4_delayedOn 1 = .ok (.aload_n 0, 1) := by decide +kernel
theorem dX4_delayedOn_2 : decode cX4_delayedOn 2 = .ok (.iload_n 1, 1) := by decide +kernel
theorem dX4_delayedOn_3 : decode cX4_delayedOn 3 = .ok (.invokevirtual 83, 3) := by decide +kernel
theorem dX4_delayedOn_6 : decode cX4_delayedOn 6 = .ok (.invokevirtual 117, 3) := by decide +kernel
theorem dX4_delayedOn_9 : decode cX4_delayedOn 9 = .ok (.ifCond .eq 11, 3) := by decide +kernel
theorem dX4_delayedOn_12 : decode cX4_delayedOn 12 = .ok (.aload_n 0, 1) := by decide +kernel
theorem dX4_delayedOn_13 : decode cX4_delayedOn 13 = .ok (.iload_n 1, 1) := by decide +kernel
theorem dX4_delayedOn_14 : decode cX4_delayedOn 14 = .ok (.invokevirtual 99, 3) := by decide +kernel
theorem dX4_delayedOn_17 : decode cX4_delayedOn 17 = .ok (.goto 4, 3) := by decide +kernel
theorem dX4_delayedOn_20 : decode cX4_delayedOn 20 = .ok (.iconst 0, 1) := by decide +kernel
theorem dX4_delayedOn_21 : decode cX4_delayedOn 21 = .ok (.ireturn, 1) := by decide +kernel
set_option maxRecDepth 20000 in
theorem ggX4_delayedAt_X4_isBlock : GoodIn wsX4_delayedAt wsX4_isBlock := goodIn_r _ [6, 7, 72, 73, 74, 75, 76, 77, 78, 79, 80, 81, 82, 83, 84, 85, 86, 87, 88, 89] (by decide +kernel) (by decide +kernel)
set_option maxRecDepth 20000 in
theorem gX4_delayedAt_X4_isBlock : GoodIn wsX4_delayedAt (wsV RX4 66 RX4 yX4_isBlock wsX4_isBlock) := goodIn_app (goodIn_of _ (by decide +kernel)) ggX4_delayedAt_X4_isBlock
set_option maxRecDepth 20000 in
theorem ggX4_delayedAt_X4_asks : GoodIn wsX4_delayedAt wsX4_asks := goodIn_r _ [11, 12, 13, 14, 15, 5, 16, 7, 17, 18, 1, 19, 20, 21, 22, 23, 24, 25, 26, 27, 28, 29, 30, 31, 32, 33, 34, 35, 36, 37, 38, 39, 40, 41, 42, 43, 44, 45, 46, 47, 48, 49, 50, 51, 52, 53, 54, 55, 56, 57, 58, 59, 60, 61, 62, 63, 64, 65, 66, 67, 68, 69, 70, 71, 72, 73, 74, 75, 76, 77, 78, 79, 80, 81, 82, 83, 84, 85, 86, 87, 88, 89] (by decide +kernel) (by decide +kernel)
set_option maxRecDepth 20000 in
theorem gX4_delayedAt_X4_asks : GoodIn wsX4_delayedAt (wsV RX4 117 RX4 yX4_asks wsX4_asks) := goodIn_app (goodIn_of _ (by decide +kernel)) ggX4_delayedAt_X4_asks
theorem dX4_delayedAt_0 : decode cX4_delayedAt 0 = .ok (.aload_n 0, 1) := by decide +kernel
theorem dX4_delayedAt_1 : decode cX4_delayedAt 1 = .ok (.aload_n 0, 1) := by decide +kernel
theorem dX4_delayedAt_2 : decode cX4_delayedAt 2 = .ok (.iload_n 1, 1) := by decide +kernel
theorem dX4_delayedAt_3 : decode cX4_delayedAt 3 = .ok (.invokevirtual 66, 3) := by decide +kernel
theorem dX4_delayedAt_6 : decode cX4_delayedAt 6 = .ok (.invokevirtual 117, 3) := by decide +kernel
theorem dX4_delayedAt_9 : decode cX4_delayedAt 9 = .ok (.ifCond .eq 12, 3) := by decide +kernel
theorem dX4_delayedAt_12 : decode cX4_delayedAt 12 = .ok (.aload_n 0, 1) := by decide +kernel
theorem dX4_delayedAt_13 : decode cX4_delayedAt 13 = .ok (.getfield 41, 3) := by decide +kernel
theorem dX4_delayedAt_16 : decode cX4_delayedAt 16 = .ok (.iload_n 1, 1) := by decide +kernel
theorem dX4_delayedAt_17 : decode cX4_delayedAt 17 = .ok (.iaload, 1) := by decide +kernel
theorem dX4_delayedAt_18 : decode cX4_delayedAt 18 = .ok (.goto 4, 3) := by decide +kernel
theorem dX4_delayedAt_21 : decode cX4_delayedAt 21 = .ok (.iconst 0, 1) := by decide +kernel
theorem dX4_delayedAt_22 : decode cX4_delayedAt 22 = .ok (.ireturn, 1) := by decide +kernel
set_option maxRecDepth 20000 in
theorem ggX4_insertions_X4_isEdge : GoodIn wsX4_insertions wsX4_isEdge := goodIn_r _ [5, 6, 76, 77, 78, 79, 80, 81, 82, 83, 84, 85, 86, 87, 88, 89, 90, 91, 92, 93] (by decide +kernel) (by decide +kernel)
set_option maxRecDepth 20000 in
theorem gX4_insertions_X4_isEdge : GoodIn wsX4_insertions (wsV RX4 83 RX4 yX4_isEdge wsX4_isEdge) := goodIn_app (goodIn_of _ (by decide +kernel)) ggX4_insertions_X4_isEdge
set_option maxRecDepth 20000 in
theorem ggX4_insertions_X4_asks : GoodIn wsX4_insertions wsX4_asks := goodIn_r _ [10, 11, 12, 13, 14, 4, 15, 16, 17, 18, 19, 6, 20, 21, 22, 23, 24, 25, 26, 27, 28, 29, 30, 31, 32, 33, 34, 35, 36, 37, 38, 39, 40, 41, 42, 43, 44, 45, 46, 47, 48, 49, 50, 51, 52, 53, 54, 55, 56, 57, 58, 59, 60, 61, 62, 63, 64, 65, 66, 67, 68, 69, 70, 71, 76, 77, 78, 79, 80, 81, 82, 83, 84, 85, 86, 87, 88, 89, 90, 91, 92, 93] (by decide +kernel) (by decide +kernel)
set_option maxRecDepth 20000 in
theorem gX4_insertions_X4_asks : GoodIn wsX4_insertions (wsV RX4 117 RX4 yX4_asks wsX4_asks) := goodIn_app (goodIn_of _ (by decide +kernel)) ggX4_insertions_X4_asks
set_option maxRecDepth 20000 in
theorem ggX4_insertions_X4_insertedOn : GoodIn wsX4_insertions wsX4_insertedOn := goodIn_r _ [75, 19, 20, 64, 65, 66, 4, 67, 30, 68, 69, 70, 71, 17, 18, 31, 51, 52, 53, 54, 40, 21, 22, 23, 24, 25, 41, 42, 43, 44, 45, 46, 47, 48, 49, 50, 36, 37, 38, 39, 76, 77, 78, 79, 80, 81, 82, 83, 84, 85, 86, 87, 88, 89, 90, 91, 92, 93] (by decide +kernel) (by decide +kernel)
set_option maxRecDepth 20000 in
theorem gX4_insertions_X4_insertedOn : GoodIn wsX4_insertions (wsV RX4 121 RX4 yX4_insertedOn wsX4_insertedOn) := goodIn_app (goodIn_of _ (by decide +kernel)) ggX4_insertions_X4_insertedOn
theorem dX4_insertions_0 : decode cX4_insertions 0 = .ok (.aload_n 0, 1) := by decide +kernel
theorem dX4_insertions_1 : decode cX4_insertions 1 = .ok (.aload_n 0, 1) := by decide +kernel
theorem dX4_insertions_2 : decode cX4_insertions 2 = .ok (.iload_n 1, 1) := by decide +kernel
theorem dX4_insertions_3 : decode cX4_insertions 3 = .ok (.invokevirtual 83, 3) := by decide +kernel
theorem dX4_insertions_6 : decode cX4_insertions 6 = .ok (.invokevirtual 117, 3) := by decide +kernel
theorem dX4_insertions_9 : decode cX4_insertions 9 = .ok (.ifCond .eq 11, 3) := by decide +kernel
theorem dX4_insertions_12 : decode cX4_insertions 12 = .ok (.aload_n 0, 1) := by decide +kernel
theorem dX4_insertions_13 : decode cX4_insertions 13 = .ok (.iload_n 1, 1) := by decide +kernel
theorem dX4_insertions_14 : decode cX4_insertions 14 = .ok (.invokevirtual 121, 3) := by decide +kernel
theorem dX4_insertions_17 : decode cX4_insertions 17 = .ok (.goto 4, 3) := by decide +kernel
theorem dX4_insertions_20 : decode cX4_insertions 20 = .ok (.iconst 0, 1) := by decide +kernel
theorem dX4_insertions_21 : decode cX4_insertions 21 = .ok (.ireturn, 1) := by decide +kernel
set_option maxRecDepth 20000 in
theorem ggX4_deletions_X4_isBlock : GoodIn wsX4_deletions wsX4_isBlock := goodIn_r _ [5, 6, 76, 77, 78, 79, 80, 81, 82, 83, 84, 85, 86, 87, 88, 89, 90, 91, 92, 93] (by decide +kernel) (by decide +kernel)
set_option maxRecDepth 20000 in
theorem gX4_deletions_X4_isBlock : GoodIn wsX4_deletions (wsV RX4 66 RX4 yX4_isBlock wsX4_isBlock) := goodIn_app (goodIn_of _ (by decide +kernel)) ggX4_deletions_X4_isBlock
set_option maxRecDepth 20000 in
theorem ggX4_deletions_X4_asks : GoodIn wsX4_deletions wsX4_asks := goodIn_r _ [10, 11, 12, 13, 14, 4, 15, 6, 16, 17, 18, 19, 20, 21, 22, 23, 24, 25, 26, 27, 28, 29, 30, 31, 32, 33, 34, 35, 36, 37, 38, 39, 40, 41, 42, 43, 44, 45, 46, 47, 48, 49, 50, 51, 52, 53, 54, 55, 56, 57, 58, 59, 60, 61, 62, 63, 64, 65, 66, 67, 68, 69, 70, 71, 76, 77, 78, 79, 80, 81, 82, 83, 84, 85, 86, 87, 88, 89, 90, 91, 92, 93] (by decide +kernel) (by decide +kernel)
set_option maxRecDepth 20000 in
theorem gX4_deletions_X4_asks : GoodIn wsX4_deletions (wsV RX4 117 RX4 yX4_asks wsX4_asks) := goodIn_app (goodIn_of _ (by decide +kernel)) ggX4_deletions_X4_asks
set_option maxRecDepth 20000 in
theorem ggX4_deletions_X4_deletedIn : GoodIn wsX4_deletions wsX4_deletedIn := goodIn_r _ [75, 18, 36, 37, 38, 4, 39, 40, 41, 42, 43, 44, 45, 46, 47, 48, 49, 25, 50, 76, 77, 78, 79, 80, 81, 82, 83, 84, 85, 86, 87, 88, 89, 90, 91, 92, 93] (by decide +kernel) (by decide +kernel)
set_option maxRecDepth 20000 in
theorem gX4_deletions_X4_deletedIn : GoodIn wsX4_deletions (wsV RX4 124 RX4 yX4_deletedIn wsX4_deletedIn) := goodIn_app (goodIn_of _ (by decide +kernel)) ggX4_deletions_X4_deletedIn
theorem dX4_deletions_0 : decode cX4_deletions 0 = .ok (.aload_n 0, 1) := by decide +kernel
theorem dX4_deletions_1 : decode cX4_deletions 1 = .ok (.aload_n 0, 1) := by decide +kernel
theorem dX4_deletions_2 : decode cX4_deletions 2 = .ok (.iload_n 1, 1) := by decide +kernel
theorem dX4_deletions_3 : decode cX4_deletions 3 = .ok (.invokevirtual 66, 3) := by decide +kernel
theorem dX4_deletions_6 : decode cX4_deletions 6 = .ok (.invokevirtual 117, 3) := by decide +kernel
theorem dX4_deletions_9 : decode cX4_deletions 9 = .ok (.ifCond .eq 11, 3) := by decide +kernel
theorem dX4_deletions_12 : decode cX4_deletions 12 = .ok (.aload_n 0, 1) := by decide +kernel
theorem dX4_deletions_13 : decode cX4_deletions 13 = .ok (.iload_n 1, 1) := by decide +kernel
theorem dX4_deletions_14 : decode cX4_deletions 14 = .ok (.invokevirtual 124, 3) := by decide +kernel
theorem dX4_deletions_17 : decode cX4_deletions 17 = .ok (.goto 4, 3) := by decide +kernel
theorem dX4_deletions_20 : decode cX4_deletions 20 = .ok (.iconst 0, 1) := by decide +kernel
theorem dX4_deletions_21 : decode cX4_deletions 21 = .ok (.ireturn, 1) := by decide +kernel
set_option maxRecDepth 20000 in
theorem ggX4_move_X4_find : GoodIn wsX4_move wsX4_find := goodIn_r _ [9, 4, 10, 11, 12, 3, 13, 14, 15, 16, 8, 17, 18, 19, 20, 21, 22, 23, 24, 25, 26, 27, 28, 29, 30, 31, 32, 33, 34, 35, 36, 37, 38, 39, 40, 41, 42, 43, 44, 45, 46, 47, 48, 49, 50, 51, 52, 53, 54, 55, 56, 57, 58, 59, 60, 61, 62, 63, 64, 89, 90, 91, 92, 93, 94, 95, 96, 97, 98, 99, 100, 101, 102, 103, 104, 105, 106] (by decide +kernel) (by decide +kernel)
set_option maxRecDepth 20000 in
theorem gX4_move_X4_find : GoodIn wsX4_move (wsV RX4 114 RX4 yX4_find wsX4_find) := goodIn_app (goodIn_of _ (by decide +kernel)) ggX4_move_X4_find
set_option maxRecDepth 20000 in
theorem ggX4_move_X4_insertedOn : GoodIn wsX4_move wsX4_insertedOn := goodIn_r _ [68, 12, 13, 57, 58, 59, 8, 60, 23, 61, 62, 63, 64, 10, 11, 24, 44, 45, 46, 47, 33, 14, 15, 16, 17, 18, 34, 35, 36, 37, 38, 39, 40, 41, 42, 43, 29, 30, 31, 32, 89, 90, 91, 92, 93, 94, 95, 96, 97, 98, 99, 100, 101, 102, 103, 104, 105, 106] (by decide +kernel) (by decide +kernel)
set_option maxRecDepth 20000 in
theorem gX4_move_X4_insertedOn : GoodIn wsX4_move (wsV RX4 121 RX4 yX4_insertedOn wsX4_insertedOn) := goodIn_app (goodIn_of _ (by decide +kernel)) ggX4_move_X4_insertedOn
set_option maxRecDepth 20000 in
theorem ggX4_move_X4_no : GoodIn wsX4_move wsX4_no := goodIn_r _ [72, 1, 89, 90, 91, 92, 93, 94, 95, 96, 97, 98, 99, 100, 101, 102, 103, 104, 105, 106] (by decide +kernel) (by decide +kernel)
set_option maxRecDepth 20000 in
theorem gX4_move_X4_no : GoodIn wsX4_move (wsV RX4 62 RX4 yX4_no wsX4_no) := goodIn_app (goodIn_of _ (by decide +kernel)) ggX4_move_X4_no
set_option maxRecDepth 20000 in
theorem ggX4_move_X4_deletedIn : GoodIn wsX4_move wsX4_deletedIn := goodIn_r _ [76, 12, 29, 30, 31, 8, 32, 33, 34, 35, 36, 37, 38, 39, 40, 41, 42, 18, 43, 89, 90, 91, 92, 93, 94, 95, 96, 97, 98, 99, 100, 101, 102, 103, 104, 105, 106] (by decide +kernel) (by decide +kernel)
set_option maxRecDepth 20000 in
theorem gX4_move_X4_deletedIn : GoodIn wsX4_move (wsV RX4 124 RX4 yX4_deletedIn wsX4_deletedIn) := goodIn_app (goodIn_of _ (by decide +kernel)) ggX4_move_X4_deletedIn
set_option maxRecDepth 20000 in
theorem ggX4_move_X4_delete : GoodIn wsX4_move wsX4_delete := goodIn_r _ [80, 33, 38, 34, 35, 36, 8, 37, 89, 90, 91, 92, 93, 94, 95, 96, 97, 98, 99, 100, 101, 102, 103, 104, 105, 106] (by decide +kernel) (by decide +kernel)
set_option maxRecDepth 20000 in
theorem gX4_move_X4_delete : GoodIn wsX4_move (wsV RX4 127 RX4 yX4_delete wsX4_delete) := goodIn_app (goodIn_of _ (by decide +kernel)) ggX4_move_X4_delete
set_option maxRecDepth 20000 in
theorem ggX4_move_X4_insert : GoodIn wsX4_move wsX4_insert := goodIn_r _ [84, 4, 33, 18, 23, 3, 13, 85, 86, 87, 8, 88, 38, 69, 70, 71, 72, 1, 89, 90, 91, 92, 93, 94, 95, 96, 97, 98, 99, 100, 101, 102, 103, 104, 105, 106] (by decide +kernel) (by decide +kernel)
set_option maxRecDepth 20000 in
theorem gX4_move_X4_insert : GoodIn wsX4_move (wsV RX4 131 RX4 yX4_insert wsX4_insert) := goodIn_app (goodIn_of _ (by decide +kernel)) ggX4_move_X4_insert
theorem dX4_move_0 : decode cX4_move 0 = .ok (.aload_n 0, 1) := by decide +kernel
theorem dX4_move_1 : decode cX4_move 1 = .ok (.iconst 0, 1) := by decide +kernel
theorem dX4_move_2 : decode cX4_move 2 = .ok (.putfield 53, 3) := by decide +kernel
theorem dX4_move_5 : decode cX4_move 5 = .ok (.aload_n 0, 1) := by decide +kernel
theorem dX4_move_6 : decode cX4_move 6 = .ok (.invokevirtual 114, 3) := by decide +kernel
theorem dX4_move_9 : decode cX4_move 9 = .ok (.bipush 80, 2) := by decide +kernel
theorem dX4_move_11 : decode cX4_move 11 = .ok (.newarray .int, 2) := by decide +kernel
theorem dX4_move_13 : decode cX4_move 13 = .ok (.astore_n 1, 1) := by decide +kernel
theorem dX4_move_14 : decode cX4_move 14 = .ok (.iconst 0, 1) := by decide +kernel
theorem dX4_move_15 : decode cX4_move 15 = .ok (.istore_n 2, 1) := by decide +kernel
theorem dX4_move_16 : decode cX4_move 16 = .ok (.iconst 0, 1) := by decide +kernel
theorem dX4_move_17 : decode cX4_move 17 = .ok (.istore_n 3, 1) := by decide +kernel
theorem dX4_move_18 : decode cX4_move 18 = .ok (.iload_n 3, 1) := by decide +kernel
theorem dX4_move_19 : decode cX4_move 19 = .ok (.aload_n 0, 1) := by decide +kernel
theorem dX4_move_20 : decode cX4_move 20 = .ok (.getfield 56, 3) := by decide +kernel
theorem dX4_move_23 : decode cX4_move 23 = .ok (.if_icmp .ge 31, 3) := by decide +kernel
theorem dX4_move_26 : decode cX4_move 26 = .ok (.aload_n 1, 1) := by decide +kernel
theorem dX4_move_27 : decode cX4_move 27 = .ok (.iload_n 3, 1) := by decide +kernel
theorem dX4_move_28 : decode cX4_move 28 = .ok (.aload_n 0, 1) := by decide +kernel
theorem dX4_move_29 : decode cX4_move 29 = .ok (.iload_n 3, 1) := by decide +kernel
theorem dX4_move_30 : decode cX4_move 30 = .ok (.invokevirtual 121, 3) := by decide +kernel
theorem dX4_move_33 : decode cX4_move 33 = .ok (.iastore, 1) := by decide +kernel
theorem dX4_move_34 : decode cX4_move 34 = .ok (.iload_n 2, 1) := by decide +kernel
theorem dX4_move_35 : decode cX4_move 35 = .ok (.aload_n 1, 1) := by decide +kernel
theorem dX4_move_36 : decode cX4_move 36 = .ok (.iload_n 3, 1) := by decide +kernel
theorem dX4_move_37 : decode cX4_move 37 = .ok (.iaload, 1) := by decide +kernel
theorem dX4_move_38 : decode cX4_move 38 = .ok (.ifCond .ne 7, 3) := by decide +kernel
theorem dX4_move_41 : decode cX4_move 41 = .ok (.iconst 0, 1) := by decide +kernel
theorem dX4_move_42 : decode cX4_move 42 = .ok (.goto 4, 3) := by decide +kernel
theorem dX4_move_45 : decode cX4_move 45 = .ok (.iconst 1, 1) := by decide +kernel
theorem dX4_move_46 : decode cX4_move 46 = .ok (.iadd, 1) := by decide +kernel
theorem dX4_move_47 : decode cX4_move 47 = .ok (.istore_n 2, 1) := by decide +kernel
theorem dX4_move_48 : decode cX4_move 48 = .ok (.iinc 3 1, 3) := by decide +kernel
theorem dX4_move_51 : decode cX4_move 51 = .ok (.goto (-33), 3) := by decide +kernel
theorem dX4_move_54 : decode cX4_move 54 = .ok (.aload_n 0, 1) := by decide +kernel
theorem dX4_move_55 : decode cX4_move 55 = .ok (.getfield 13, 3) := by decide +kernel
theorem dX4_move_58 : decode cX4_move 58 = .ok (.iload_n 2, 1) := by decide +kernel
theorem dX4_move_59 : decode cX4_move 59 = .ok (.iadd, 1) := by decide +kernel
theorem dX4_move_60 : decode cX4_move 60 = .ok (.bipush 40, 2) := by decide +kernel
theorem dX4_move_62 : decode cX4_move 62 = .ok (.if_icmp .gt 14, 3) := by decide +kernel
theorem dX4_move_65 : decode cX4_move 65 = .ok (.aload_n 0, 1) := by decide +kernel
theorem dX4_move_66 : decode cX4_move 66 = .ok (.getfield 56, 3) := by decide +kernel
theorem dX4_move_69 : decode cX4_move 69 = .ok (.iload_n 2, 1) := by decide +kernel
theorem dX4_move_70 : decode cX4_move 70 = .ok (.iadd, 1) := by decide +kernel
theorem dX4_move_71 : decode cX4_move 71 = .ok (.bipush 80, 2) := by decide +kernel
theorem dX4_move_73 : decode cX4_move 73 = .ok (.if_icmp .le 9, 3) := by decide +kernel
theorem dX4_move_76 : decode cX4_move 76 = .ok (.aload_n 0, 1) := by decide +kernel
theorem dX4_move_77 : decode cX4_move 77 = .ok (.iconst 1, 1) := by decide +kernel
theorem dX4_move_78 : decode cX4_move 78 = .ok (.invokevirtual 62, 3) := by decide +kernel
theorem dX4_move_81 : decode cX4_move 81 = .ok (.ireturn, 1) := by decide +kernel
theorem dX4_move_82 : decode cX4_move 82 = .ok (.bipush 40, 2) := by decide +kernel
theorem dX4_move_84 : decode cX4_move 84 = .ok (.newarray .int, 2) := by decide +kernel
theorem dX4_move_86 : decode cX4_move 86 = .ok (.astore_n 3, 1) := by decide +kernel
theorem dX4_move_87 : decode cX4_move 87 = .ok (.iconst 0, 1) := by decide +kernel
theorem dX4_move_88 : decode cX4_move 88 = .ok (.istore 4, 2) := by decide +kernel
theorem dX4_move_90 : decode cX4_move 90 = .ok (.iload 4, 2) := by decide +kernel
theorem dX4_move_92 : decode cX4_move 92 = .ok (.aload_n 0, 1) := by decide +kernel
theorem dX4_move_93 : decode cX4_move 93 = .ok (.getfield 13, 3) := by decide +kernel
theorem dX4_move_96 : decode cX4_move 96 = .ok (.if_icmp .ge 19, 3) := by decide +kernel
theorem dX4_move_99 : decode cX4_move 99 = .ok (.aload_n 3, 1) := by decide +kernel
theorem dX4_move_100 : decode cX4_move 100 = .ok (.iload 4, 2) := by decide +kernel
theorem dX4_move_102 : decode cX4_move 102 = .ok (.aload_n 0, 1) := by decide +kernel
theorem dX4_move_103 : decode cX4_move 103 = .ok (.iload 4, 2) := by decide +kernel
theorem dX4_move_105 : decode cX4_move 105 = .ok (.invokevirtual 124, 3) := by decide +kernel
theorem dX4_move_108 : decode cX4_move 108 = .ok (.iastore, 1) := by decide +kernel
theorem dX4_move_109 : decode cX4_move 109 = .ok (.iinc 4 1, 3) := by decide +kernel
theorem dX4_move_112 : decode cX4_move 112 = .ok (.goto (-22), 3) := by decide +kernel
theorem dX4_move_115 : decode cX4_move 115 = .ok (.iconst 0, 1) := by decide +kernel
theorem dX4_move_116 : decode cX4_move 116 = .ok (.istore 4, 2) := by decide +kernel
theorem dX4_move_118 : decode cX4_move 118 = .ok (.iload 4, 2) := by decide +kernel
theorem dX4_move_120 : decode cX4_move 120 = .ok (.aload_n 0, 1) := by decide +kernel
theorem dX4_move_121 : decode cX4_move 121 = .ok (.getfield 13, 3) := by decide +kernel
theorem dX4_move_124 : decode cX4_move 124 = .ok (.if_icmp .ge 19, 3) := by decide +kernel
theorem dX4_move_127 : decode cX4_move 127 = .ok (.aload_n 0, 1) := by decide +kernel
theorem dX4_move_128 : decode cX4_move 128 = .ok (.iload 4, 2) := by decide +kernel
theorem dX4_move_130 : decode cX4_move 130 = .ok (.aload_n 3, 1) := by decide +kernel
theorem dX4_move_131 : decode cX4_move 131 = .ok (.iload 4, 2) := by decide +kernel
theorem dX4_move_133 : decode cX4_move 133 = .ok (.iaload, 1) := by decide +kernel
theorem dX4_move_134 : decode cX4_move 134 = .ok (.invokevirtual 127, 3) := by decide +kernel
theorem dX4_move_137 : decode cX4_move 137 = .ok (.iinc 4 1, 3) := by decide +kernel
theorem dX4_move_140 : decode cX4_move 140 = .ok (.goto (-22), 3) := by decide +kernel
theorem dX4_move_143 : decode cX4_move 143 = .ok (.aload_n 0, 1) := by decide +kernel
theorem dX4_move_144 : decode cX4_move 144 = .ok (.getfield 56, 3) := by decide +kernel
theorem dX4_move_147 : decode cX4_move 147 = .ok (.istore 4, 2) := by decide +kernel
theorem dX4_move_149 : decode cX4_move 149 = .ok (.iconst 0, 1) := by decide +kernel
theorem dX4_move_150 : decode cX4_move 150 = .ok (.istore 5, 2) := by decide +kernel
theorem dX4_move_152 : decode cX4_move 152 = .ok (.iload 5, 2) := by decide +kernel
theorem dX4_move_154 : decode cX4_move 154 = .ok (.iload 4, 2) := by decide +kernel
theorem dX4_move_156 : decode cX4_move 156 = .ok (.if_icmp .ge 26, 3) := by decide +kernel
theorem dX4_move_159 : decode cX4_move 159 = .ok (.aload_n 1, 1) := by decide +kernel
theorem dX4_move_160 : decode cX4_move 160 = .ok (.iload 5, 2) := by decide +kernel
theorem dX4_move_162 : decode cX4_move 162 = .ok (.iaload, 1) := by decide +kernel
theorem dX4_move_163 : decode cX4_move 163 = .ok (.ifCond .eq 13, 3) := by decide +kernel
theorem dX4_move_166 : decode cX4_move 166 = .ok (.aload_n 0, 1) := by decide +kernel
theorem dX4_move_167 : decode cX4_move 167 = .ok (.iload 5, 2) := by decide +kernel
theorem dX4_move_169 : decode cX4_move 169 = .ok (.aload_n 1, 1) := by decide +kernel
theorem dX4_move_170 : decode cX4_move 170 = .ok (.iload 5, 2) := by decide +kernel
theorem dX4_move_172 : decode cX4_move 172 = .ok (.iaload, 1) := by decide +kernel
theorem dX4_move_173 : decode cX4_move 173 = .ok (.invokevirtual 131, 3) := by decide +kernel
theorem dX4_move_176 : decode cX4_move 176 = .ok (.iinc 5 1, 3) := by decide +kernel
theorem dX4_move_179 : decode cX4_move 179 = .ok (.goto (-27), 3) := by decide +kernel
theorem dX4_move_182 : decode cX4_move 182 = .ok (.iload_n 2, 1) := by decide +kernel
theorem dX4_move_183 : decode cX4_move 183 = .ok (.ireturn, 1) := by decide +kernel
set_option maxRecDepth 20000 in
theorem ggX4_delete_X4_at : GoodIn wsX4_delete wsX4_at := goodIn_r _ [7, 2, 8, 9, 10, 11, 12, 13, 14, 15, 16, 17, 18, 19, 20, 21, 22, 23, 24, 25] (by decide +kernel) (by decide +kernel)
set_option maxRecDepth 20000 in
theorem gX4_delete_X4_at : GoodIn wsX4_delete (wsV RX4 80 RX4 yX4_at wsX4_at) := goodIn_app (goodIn_of _ (by decide +kernel)) ggX4_delete_X4_at
theorem dX4_delete_0 : decode cX4_delete 0 = .ok (.iload_n 2, 1) := by decide +kernel
theorem dX4_delete_1 : decode cX4_delete 1 = .ok (.istore_n 3, 1) := by decide +kernel
theorem dX4_delete_2 : decode cX4_delete 2 = .ok (.iconst 0, 1) := by decide +kernel
theorem dX4_delete_3 : decode cX4_delete 3 = .ok (.istore 4, 2) := by decide +kernel
theorem dX4_delete_5 : decode cX4_delete 5 = .ok (.iload 4, 2) := by decide +kernel
theorem dX4_delete_7 : decode cX4_delete 7 = .ok (.aload_n 0, 1) := by decide +kernel
theorem dX4_delete_8 : decode cX4_delete 8 = .ok (.getfield 17, 3) := by decide +kernel
theorem dX4_delete_11 : decode cX4_delete 11 = .ok (.iload_n 1, 1) := by decide +kernel
theorem dX4_delete_12 : decode cX4_delete 12 = .ok (.iaload, 1) := by decide +kernel
theorem dX4_delete_13 : decode cX4_delete 13 = .ok (.if_icmp .ge 66, 3) := by decide +kernel
theorem dX4_delete_16 : decode cX4_delete 16 = .ok (.aload_n 0, 1) := by decide +kernel
theorem dX4_delete_17 : decode cX4_delete 17 = .ok (.iload_n 1, 1) := by decide +kernel
theorem dX4_delete_18 : decode cX4_delete 18 = .ok (.iload 4, 2) := by decide +kernel
theorem dX4_delete_20 : decode cX4_delete 20 = .ok (.invokevirtual 80, 3) := by decide +kernel
theorem dX4_delete_23 : decode cX4_delete 23 = .ok (.istore 5, 2) := by decide +kernel
theorem dX4_delete_25 : decode cX4_delete 25 = .ok (.iload 5, 2) := by decide +kernel
theorem dX4_delete_27 : decode cX4_delete 27 = .ok (.iconst 3, 1) := by decide +kernel
theorem dX4_delete_28 : decode cX4_delete 28 = .ok (.irem, 1) := by decide +kernel
theorem dX4_delete_29 : decode cX4_delete 29 = .ok (.ifCond .ne 44, 3) := by decide +kernel
theorem dX4_delete_32 : decode cX4_delete 32 = .ok (.iload_n 3, 1) := by decide +kernel
theorem dX4_delete_33 : decode cX4_delete 33 = .ok (.iload 5, 2) := by decide +kernel
theorem dX4_delete_35 : decode cX4_delete 35 = .ok (.iconst 3, 1) := by decide +kernel
theorem dX4_delete_36 : decode cX4_delete 36 = .ok (.idiv, 1) := by decide +kernel
theorem dX4_delete_37 : decode cX4_delete 37 = .ok (.ishr, 1) := by decide +kernel
theorem dX4_delete_38 : decode cX4_delete 38 = .ok (.iconst 1, 1) := by decide +kernel
theorem dX4_delete_39 : decode cX4_delete 39 = .ok (.iand, 1) := by decide +kernel
theorem dX4_delete_40 : decode cX4_delete 40 = .ok (.ifCond .ne 6, 3) := by decide +kernel
theorem dX4_delete_43 : decode cX4_delete 43 = .ok (.goto 30, 3) := by decide +kernel
theorem dX4_delete_46 : decode cX4_delete 46 = .ok (.iload_n 3, 1) := by decide +kernel
theorem dX4_delete_47 : decode cX4_delete 47 = .ok (.iconst 1, 1) := by decide +kernel
theorem dX4_delete_48 : decode cX4_delete 48 = .ok (.iload 5, 2) := by decide +kernel
theorem dX4_delete_50 : decode cX4_delete 50 = .ok (.iconst 3, 1) := by decide +kernel
theorem dX4_delete_51 : decode cX4_delete 51 = .ok (.idiv, 1) := by decide +kernel
theorem dX4_delete_52 : decode cX4_delete 52 = .ok (.ishl, 1) := by decide +kernel
theorem dX4_delete_53 : decode cX4_delete 53 = .ok (.iconst (-1), 1) := by decide +kernel
theorem dX4_delete_54 : decode cX4_delete 54 = .ok (.ixor, 1) := by decide +kernel
theorem dX4_delete_55 : decode cX4_delete 55 = .ok (.iand, 1) := by decide +kernel
theorem dX4_delete_56 : decode cX4_delete 56 = .ok (.istore_n 3, 1) := by decide +kernel
theorem dX4_delete_57 : decode cX4_delete 57 = .ok (.aload_n 0, 1) := by decide +kernel
theorem dX4_delete_58 : decode cX4_delete 58 = .ok (.getfield 20, 3) := by decide +kernel
theorem dX4_delete_61 : decode cX4_delete 61 = .ok (.bipush 12, 2) := by decide +kernel
theorem dX4_delete_63 : decode cX4_delete 63 = .ok (.iload_n 1, 1) := by decide +kernel
theorem dX4_delete_64 : decode cX4_delete 64 = .ok (.imul, 1) := by decide +kernel
theorem dX4_delete_65 : decode cX4_delete 65 = .ok (.iload 4, 2) := by decide +kernel
theorem dX4_delete_67 : decode cX4_delete 67 = .ok (.iadd, 1) := by decide +kernel
theorem dX4_delete_68 : decode cX4_delete 68 = .ok (.iload 5, 2) := by decide +kernel
theorem dX4_delete_70 : decode cX4_delete 70 = .ok (.iconst 1, 1) := by decide +kernel
theorem dX4_delete_71 : decode cX4_delete 71 = .ok (.iadd, 1) := by decide +kernel
theorem dX4_delete_72 : decode cX4_delete 72 = .ok (.iastore, 1) := by decide +kernel
theorem dX4_delete_73 : decode cX4_delete 73 = .ok (.iinc 4 1, 3) := by decide +kernel
theorem dX4_delete_76 : decode cX4_delete 76 = .ok (.goto (-71), 3) := by decide +kernel
theorem dX4_delete_79 : decode cX4_delete 79 = .ok (.return_, 1) := by decide +kernel
set_option maxRecDepth 20000 in
theorem ggX4_insert_X4_append : GoodIn wsX4_insert wsX4_append := goodIn_r _ [11, 2, 12, 13, 14, 15, 10, 16, 17, 18, 19, 20, 21, 22, 23, 24, 25, 26, 27, 28, 29, 30, 31, 32, 33, 34, 35] (by decide +kernel) (by decide +kernel)
set_option maxRecDepth 20000 in
theorem gX4_insert_X4_append : GoodIn wsX4_insert (wsV RX4 76 RX4 yX4_append wsX4_append) := goodIn_app (goodIn_of _ (by decide +kernel)) ggX4_insert_X4_append
theorem dX4_insert_0 : decode cX4_insert 0 = .ok (.aload_n 0, 1) := by decide +kernel
theorem dX4_insert_1 : decode cX4_insert 1 = .ok (.getfield 13, 3) := by decide +kernel
theorem dX4_insert_4 : decode cX4_insert 4 = .ok (.istore_n 3, 1) := by decide +kernel
theorem dX4_insert_5 : decode cX4_insert 5 = .ok (.aload_n 0, 1) := by decide +kernel
theorem dX4_insert_6 : decode cX4_insert 6 = .ok (.dup, 1) := by decide +kernel
theorem dX4_insert_7 : decode cX4_insert 7 = .ok (.getfield 13, 3) := by decide +kernel
theorem dX4_insert_10 : decode cX4_insert 10 = .ok (.iconst 1, 1) := by decide +kernel
theorem dX4_insert_11 : decode cX4_insert 11 = .ok (.iadd, 1) := by decide +kernel
theorem dX4_insert_12 : decode cX4_insert 12 = .ok (.putfield 13, 3) := by decide +kernel
theorem dX4_insert_15 : decode cX4_insert 15 = .ok (.aload_n 0, 1) := by decide +kernel
theorem dX4_insert_16 : decode cX4_insert 16 = .ok (.getfield 17, 3) := by decide +kernel
theorem dX4_insert_19 : decode cX4_insert 19 = .ok (.iload_n 3, 1) := by decide +kernel
theorem dX4_insert_20 : decode cX4_insert 20 = .ok (.iconst 0, 1) := by decide +kernel
theorem dX4_insert_21 : decode cX4_insert 21 = .ok (.iastore, 1) := by decide +kernel
theorem dX4_insert_22 : decode cX4_insert 22 = .ok (.iconst 0, 1) := by decide +kernel
theorem dX4_insert_23 : decode cX4_insert 23 = .ok (.istore 4, 2) := by decide +kernel
theorem dX4_insert_25 : decode cX4_insert 25 = .ok (.iload 4, 2) := by decide +kernel
theorem dX4_insert_27 : decode cX4_insert 27 = .ok (.aload_n 0, 1) := by decide +kernel
theorem dX4_insert_28 : decode cX4_insert 28 = .ok (.getfield 59, 3) := by decide +kernel
theorem dX4_insert_31 : decode cX4_insert 31 = .ok (.if_icmp .ge 31, 3) := by decide +kernel
theorem dX4_insert_34 : decode cX4_insert 34 = .ok (.iload_n 2, 1) := by decide +kernel
theorem dX4_insert_35 : decode cX4_insert 35 = .ok (.iload 4, 2) := by decide +kernel
theorem dX4_insert_37 : decode cX4_insert 37 = .ok (.ishr, 1) := by decide +kernel
theorem dX4_insert_38 : decode cX4_insert 38 = .ok (.iconst 1, 1) := by decide +kernel
theorem dX4_insert_39 : decode cX4_insert 39 = .ok (.iand, 1) := by decide +kernel
theorem dX4_insert_40 : decode cX4_insert 40 = .ok (.iconst 1, 1) := by decide +kernel
theorem dX4_insert_41 : decode cX4_insert 41 = .ok (.if_icmp .ne 15, 3) := by decide +kernel
theorem dX4_insert_44 : decode cX4_insert 44 = .ok (.aload_n 0, 1) := by decide +kernel
theorem dX4_insert_45 : decode cX4_insert 45 = .ok (.iload_n 3, 1) := by decide +kernel
theorem dX4_insert_46 : decode cX4_insert 46 = .ok (.iconst 3, 1) := by decide +kernel
theorem dX4_insert_47 : decode cX4_insert 47 = .ok (.iload 4, 2) := by decide +kernel
theorem dX4_insert_49 : decode cX4_insert 49 = .ok (.imul, 1) := by decide +kernel
theorem dX4_insert_50 : decode cX4_insert 50 = .ok (.iconst 0, 1) := by decide +kernel
theorem dX4_insert_51 : decode cX4_insert 51 = .ok (.iadd, 1) := by decide +kernel
theorem dX4_insert_52 : decode cX4_insert 52 = .ok (.invokevirtual 76, 3) := by decide +kernel
theorem dX4_insert_55 : decode cX4_insert 55 = .ok (.pop, 1) := by decide +kernel
theorem dX4_insert_56 : decode cX4_insert 56 = .ok (.iinc 4 1, 3) := by decide +kernel
theorem dX4_insert_59 : decode cX4_insert 59 = .ok (.goto (-34), 3) := by decide +kernel
theorem dX4_insert_62 : decode cX4_insert 62 = .ok (.aload_n 0, 1) := by decide +kernel
theorem dX4_insert_63 : decode cX4_insert 63 = .ok (.getfield 23, 3) := by decide +kernel
theorem dX4_insert_66 : decode cX4_insert 66 = .ok (.aload_n 0, 1) := by decide +kernel
theorem dX4_insert_67 : decode cX4_insert 67 = .ok (.getfield 56, 3) := by decide +kernel
theorem dX4_insert_70 : decode cX4_insert 70 = .ok (.iload_n 3, 1) := by decide +kernel
theorem dX4_insert_71 : decode cX4_insert 71 = .ok (.iastore, 1) := by decide +kernel
theorem dX4_insert_72 : decode cX4_insert 72 = .ok (.aload_n 0, 1) := by decide +kernel
theorem dX4_insert_73 : decode cX4_insert 73 = .ok (.getfield 26, 3) := by decide +kernel
theorem dX4_insert_76 : decode cX4_insert 76 = .ok (.aload_n 0, 1) := by decide +kernel
theorem dX4_insert_77 : decode cX4_insert 77 = .ok (.getfield 56, 3) := by decide +kernel
theorem dX4_insert_80 : decode cX4_insert 80 = .ok (.aload_n 0, 1) := by decide +kernel
theorem dX4_insert_81 : decode cX4_insert 81 = .ok (.getfield 26, 3) := by decide +kernel
theorem dX4_insert_84 : decode cX4_insert 84 = .ok (.iload_n 1, 1) := by decide +kernel
theorem dX4_insert_85 : decode cX4_insert 85 = .ok (.iaload, 1) := by decide +kernel
theorem dX4_insert_86 : decode cX4_insert 86 = .ok (.iastore, 1) := by decide +kernel
theorem dX4_insert_87 : decode cX4_insert 87 = .ok (.aload_n 0, 1) := by decide +kernel
theorem dX4_insert_88 : decode cX4_insert 88 = .ok (.dup, 1) := by decide +kernel
theorem dX4_insert_89 : decode cX4_insert 89 = .ok (.getfield 56, 3) := by decide +kernel
theorem dX4_insert_92 : decode cX4_insert 92 = .ok (.iconst 1, 1) := by decide +kernel
theorem dX4_insert_93 : decode cX4_insert 93 = .ok (.iadd, 1) := by decide +kernel
theorem dX4_insert_94 : decode cX4_insert 94 = .ok (.putfield 56, 3) := by decide +kernel
theorem dX4_insert_97 : decode cX4_insert 97 = .ok (.aload_n 0, 1) := by decide +kernel
theorem dX4_insert_98 : decode cX4_insert 98 = .ok (.getfield 26, 3) := by decide +kernel
theorem dX4_insert_101 : decode cX4_insert 101 = .ok (.iload_n 1, 1) := by decide +kernel
theorem dX4_insert_102 : decode cX4_insert 102 = .ok (.iload_n 3, 1) := by decide +kernel
theorem dX4_insert_103 : decode cX4_insert 103 = .ok (.iastore, 1) := by decide +kernel
theorem dX4_insert_104 : decode cX4_insert 104 = .ok (.return_, 1) := by decide +kernel
set_option maxRecDepth 20000 in
theorem ggX4_walk_X4_no : GoodIn wsX4_walk wsX4_no := goodIn_r _ [11, 1, 34, 35, 36, 37, 38, 39, 40, 41, 42, 43, 44, 45, 46, 47, 48, 49, 50, 51] (by decide +kernel) (by decide +kernel)
set_option maxRecDepth 20000 in
theorem gX4_walk_X4_no : GoodIn wsX4_walk (wsV RX4 62 RX4 yX4_no wsX4_no) := goodIn_app (goodIn_of _ (by decide +kernel)) ggX4_walk_X4_no
set_option maxRecDepth 20000 in
theorem ggX4_walk_X4_at : GoodIn wsX4_walk wsX4_at := goodIn_r _ [15, 16, 34, 35, 36, 37, 38, 39, 40, 41, 42, 43, 44, 45, 46, 47, 48, 49, 50, 51] (by decide +kernel) (by decide +kernel)
set_option maxRecDepth 20000 in
theorem gX4_walk_X4_at : GoodIn wsX4_walk (wsV RX4 80 RX4 yX4_at wsX4_at) := goodIn_app (goodIn_of _ (by decide +kernel)) ggX4_walk_X4_at
set_option maxRecDepth 20000 in
theorem ggX4_walk_X4_go : GoodIn wsX4_walk wsX4_go := goodIn_r _ [20, 21, 3, 4, 2, 22, 23, 24, 10, 25, 26, 34, 35, 36, 37, 38, 39, 40, 41, 42, 43, 44, 45, 46, 47, 48, 49, 50, 51] (by decide +kernel) (by decide +kernel)
set_option maxRecDepth 20000 in
theorem gX4_walk_X4_go : GoodIn wsX4_walk (wsV RX4 137 RX4 yX4_go wsX4_go) := goodIn_app (goodIn_of _ (by decide +kernel)) ggX4_walk_X4_go
set_option maxRecDepth 20000 in
theorem ggX4_walk_X4_exit : GoodIn wsX4_walk wsX4_exit := goodIn_r _ [30, 31, 32, 33, 34, 35, 36, 37, 38, 39, 40, 41, 42, 43, 44, 45, 46, 47, 48, 49, 50, 51] (by decide +kernel) (by decide +kernel)
set_option maxRecDepth 20000 in
theorem gX4_walk_X4_exit : GoodIn wsX4_walk (wsV RX4 140 RX4 yX4_exit wsX4_exit) := goodIn_app (goodIn_of _ (by decide +kernel)) ggX4_walk_X4_exit
theorem dX4_walk_0 : decode cX4_walk 0 = .ok (.aload_n 0, 1) := by decide +kernel
theorem dX4_walk_1 : decode cX4_walk 1 = .ok (.iconst 0, 1) := by decide +kernel
theorem dX4_walk_2 : decode cX4_walk 2 = .ok (.putfield 53, 3) := by decide +kernel
theorem dX4_walk_5 : decode cX4_walk 5 = .ok (.iload_n 3, 1) := by decide +kernel
theorem dX4_walk_6 : decode cX4_walk 6 = .ok (.iconst 1, 1) := by decide +kernel
theorem dX4_walk_7 : decode cX4_walk 7 = .ok (.if_icmp .lt 10, 3) := by decide +kernel
theorem dX4_walk_10 : decode cX4_walk 10 = .ok (.iload_n 3, 1) := by decide +kernel
theorem dX4_walk_11 : decode cX4_walk 11 = .ok (.sipush 1000, 3) := by decide +kernel
theorem dX4_walk_14 : decode cX4_walk 14 = .ok (.if_icmp .le 9, 3) := by decide +kernel
theorem dX4_walk_17 : decode cX4_walk 17 = .ok (.aload_n 0, 1) := by decide +kernel
theorem dX4_walk_18 : decode cX4_walk 18 = .ok (.iconst 1, 1) := by decide +kernel
theorem dX4_walk_19 : decode cX4_walk 19 = .ok (.invokevirtual 62, 3) := by decide +kernel
theorem dX4_walk_22 : decode cX4_walk 22 = .ok (.ireturn, 1) := by decide +kernel
theorem dX4_walk_23 : decode cX4_walk 23 = .ok (.iconst 0, 1) := by decide +kernel
theorem dX4_walk_24 : decode cX4_walk 24 = .ok (.istore 4, 2) := by decide +kernel
theorem dX4_walk_26 : decode cX4_walk 26 = .ok (.iload 4, 2) := by decide +kernel
theorem dX4_walk_28 : decode cX4_walk 28 = .ok (.bipush 8, 2) := by decide +kernel
theorem dX4_walk_30 : decode cX4_walk 30 = .ok (.if_icmp .ge 25, 3) := by decide +kernel
theorem dX4_walk_33 : decode cX4_walk 33 = .ok (.aload_n 0, 1) := by decide +kernel
theorem dX4_walk_34 : decode cX4_walk 34 = .ok (.getfield 44, 3) := by decide +kernel
theorem dX4_walk_37 : decode cX4_walk 37 = .ok (.iload 4, 2) := by decide +kernel
theorem dX4_walk_39 : decode cX4_walk 39 = .ok (.iconst 0, 1) := by decide +kernel
theorem dX4_walk_40 : decode cX4_walk 40 = .ok (.iastore, 1) := by decide +kernel
theorem dX4_walk_41 : decode cX4_walk 41 = .ok (.aload_n 0, 1) := by decide +kernel
theorem dX4_walk_42 : decode cX4_walk 42 = .ok (.getfield 47, 3) := by decide +kernel
theorem dX4_walk_45 : decode cX4_walk 45 = .ok (.iload 4, 2) := by decide +kernel
theorem dX4_walk_47 : decode cX4_walk 47 = .ok (.iconst 0, 1) := by decide +kernel
theorem dX4_walk_48 : decode cX4_walk 48 = .ok (.iastore, 1) := by decide +kernel
theorem dX4_walk_49 : decode cX4_walk 49 = .ok (.iinc 4 1, 3) := by decide +kernel
theorem dX4_walk_52 : decode cX4_walk 52 = .ok (.goto (-26), 3) := by decide +kernel
theorem dX4_walk_55 : decode cX4_walk 55 = .ok (.aload_n 0, 1) := by decide +kernel
theorem dX4_walk_56 : decode cX4_walk 56 = .ok (.iconst 0, 1) := by decide +kernel
theorem dX4_walk_57 : decode cX4_walk 57 = .ok (.putfield 134, 3) := by decide +kernel
theorem dX4_walk_60 : decode cX4_walk 60 = .ok (.iconst 0, 1) := by decide +kernel
theorem dX4_walk_61 : decode cX4_walk 61 = .ok (.istore 4, 2) := by decide +kernel
theorem dX4_walk_63 : decode cX4_walk 63 = .ok (.iconst 0, 1) := by decide +kernel
theorem dX4_walk_64 : decode cX4_walk 64 = .ok (.istore 5, 2) := by decide +kernel
theorem dX4_walk_66 : decode cX4_walk 66 = .ok (.iconst 0, 1) := by decide +kernel
theorem dX4_walk_67 : decode cX4_walk 67 = .ok (.istore 6, 2) := by decide +kernel
theorem dX4_walk_69 : decode cX4_walk 69 = .ok (.iconst 0, 1) := by decide +kernel
theorem dX4_walk_70 : decode cX4_walk 70 = .ok (.istore 7, 2) := by decide +kernel
theorem dX4_walk_72 : decode cX4_walk 72 = .ok (.iload 7, 2) := by decide +kernel
theorem dX4_walk_74 : decode cX4_walk 74 = .ok (.iconst (-1), 1) := by decide +kernel
theorem dX4_walk_75 : decode cX4_walk 75 = .ok (.if_icmp .eq 121, 3) := by decide +kernel
theorem dX4_walk_78 : decode cX4_walk 78 = .ok (.iload 6, 2) := by decide +kernel
theorem dX4_walk_80 : decode cX4_walk 80 = .ok (.iload_n 3, 1) := by decide +kernel
theorem dX4_walk_81 : decode cX4_walk 81 = .ok (.if_icmp .ge 115, 3) := by decide +kernel
theorem dX4_walk_84 : decode cX4_walk 84 = .ok (.aload_n 0, 1) := by decide +kernel
theorem dX4_walk_85 : decode cX4_walk 85 = .ok (.iload 7, 2) := by decide +kernel
theorem dX4_walk_87 : decode cX4_walk 87 = .ok (.putfield 50, 3) := by decide +kernel
theorem dX4_walk_90 : decode cX4_walk 90 = .ok (.iinc 6 1, 3) := by decide +kernel
theorem dX4_walk_93 : decode cX4_walk 93 = .ok (.iconst 0, 1) := by decide +kernel
theorem dX4_walk_94 : decode cX4_walk 94 = .ok (.istore 8, 2) := by decide +kernel
theorem dX4_walk_96 : decode cX4_walk 96 = .ok (.iload 8, 2) := by decide +kernel
theorem dX4_walk_98 : decode cX4_walk 98 = .ok (.aload_n 0, 1) := by decide +kernel
theorem dX4_walk_99 : decode cX4_walk 99 = .ok (.getfield 17, 3) := by decide +kernel
theorem dX4_walk_102 : decode cX4_walk 102 = .ok (.aload_n 0, 1) := by decide +kernel
theorem dX4_walk_103 : decode cX4_walk 103 = .ok (.getfield 50, 3) := by decide +kernel
theorem dX4_walk_106 : decode cX4_walk 106 = .ok (.iaload, 1) := by decide +kernel
theorem dX4_walk_107 : decode cX4_walk 107 = .ok (.if_icmp .ge 27, 3) := by decide +kernel
theorem dX4_walk_110 : decode cX4_walk 110 = .ok (.aload_n 0, 1) := by decide +kernel
theorem dX4_walk_111 : decode cX4_walk 111 = .ok (.aload_n 0, 1) := by decide +kernel
theorem dX4_walk_112 : decode cX4_walk 112 = .ok (.aload_n 0, 1) := by decide +kernel
theorem dX4_walk_113 : decode cX4_walk 113 = .ok (.getfield 50, 3) := by decide +kernel
theorem dX4_walk_116 : decode cX4_walk 116 = .ok (.iload 8, 2) := by decide +kernel
theorem dX4_walk_118 : decode cX4_walk 118 = .ok (.invokevirtual 80, 3) := by decide +kernel
theorem dX4_walk_121 : decode cX4_walk 121 = .ok (.iload 4, 2) := by decide +kernel
theorem dX4_walk_123 : decode cX4_walk 123 = .ok (.invokevirtual 137, 3) := by decide +kernel
theorem dX4_walk_126 : decode cX4_walk 126 = .ok (.istore 4, 2) := by decide +kernel
theorem dX4_walk_128 : decode cX4_walk 128 = .ok (.iinc 8 1, 3) := by decide +kernel
theorem dX4_walk_131 : decode cX4_walk 131 = .ok (.goto (-35), 3) := by decide +kernel
theorem dX4_walk_134 : decode cX4_walk 134 = .ok (.aload_n 0, 1) := by decide +kernel
theorem dX4_walk_135 : decode cX4_walk 135 = .ok (.aload_n 0, 1) := by decide +kernel
theorem dX4_walk_136 : decode cX4_walk 136 = .ok (.getfield 50, 3) := by decide +kernel
theorem dX4_walk_139 : decode cX4_walk 139 = .ok (.iconst 0, 1) := by decide +kernel
theorem dX4_walk_140 : decode cX4_walk 140 = .ok (.invokevirtual 140, 3) := by decide +kernel
theorem dX4_walk_143 : decode cX4_walk 143 = .ok (.istore 8, 2) := by decide +kernel
theorem dX4_walk_145 : decode cX4_walk 145 = .ok (.aload_n 0, 1) := by decide +kernel
theorem dX4_walk_146 : decode cX4_walk 146 = .ok (.aload_n 0, 1) := by decide +kernel
theorem dX4_walk_147 : decode cX4_walk 147 = .ok (.getfield 50, 3) := by decide +kernel
theorem dX4_walk_150 : decode cX4_walk 150 = .ok (.iconst 1, 1) := by decide +kernel
theorem dX4_walk_151 : decode cX4_walk 151 = .ok (.invokevirtual 140, 3) := by decide +kernel
theorem dX4_walk_154 : decode cX4_walk 154 = .ok (.istore 9, 2) := by decide +kernel
theorem dX4_walk_156 : decode cX4_walk 156 = .ok (.iload 8, 2) := by decide +kernel
theorem dX4_walk_158 : decode cX4_walk 158 = .ok (.istore 7, 2) := by decide +kernel
theorem dX4_walk_160 : decode cX4_walk 160 = .ok (.iload 9, 2) := by decide +kernel
theorem dX4_walk_162 : decode cX4_walk 162 = .ok (.iconst (-1), 1) := by decide +kernel
theorem dX4_walk_163 : decode cX4_walk 163 = .ok (.if_icmp .ne 6, 3) := by decide +kernel
theorem dX4_walk_166 : decode cX4_walk 166 = .ok (.goto (-94), 3) := by decide +kernel
theorem dX4_walk_169 : decode cX4_walk 169 = .ok (.lload_n 1, 1) := by decide +kernel
theorem dX4_walk_170 : decode cX4_walk 170 = .ok (.iload 5, 2) := by decide +kernel
theorem dX4_walk_172 : decode cX4_walk 172 = .ok (.lshr, 1) := by decide +kernel
theorem dX4_walk_173 : decode cX4_walk 173 = .ok (.lconst 1, 1) := by decide +kernel
theorem dX4_walk_174 : decode cX4_walk 174 = .ok (.land, 1) := by decide +kernel
theorem dX4_walk_175 : decode cX4_walk 175 = .ok (.lconst 1, 1) := by decide +kernel
theorem dX4_walk_176 : decode cX4_walk 176 = .ok (.lcmp, 1) := by decide +kernel
theorem dX4_walk_177 : decode cX4_walk 177 = .ok (.ifCond .ne 7, 3) := by decide +kernel
theorem dX4_walk_180 : decode cX4_walk 180 = .ok (.iload 9, 2) := by decide +kernel
theorem dX4_walk_182 : decode cX4_walk 182 = .ok (.istore 7, 2) := by decide +kernel
theorem dX4_walk_184 : decode cX4_walk 184 = .ok (.iload 5, 2) := by decide +kernel
theorem dX4_walk_186 : decode cX4_walk 186 = .ok (.iconst 1, 1) := by decide +kernel
theorem dX4_walk_187 : decode cX4_walk 187 = .ok (.iadd, 1) := by decide +kernel
theorem dX4_walk_188 : decode cX4_walk 188 = .ok (.bipush 64, 2) := by decide +kernel
theorem dX4_walk_190 : decode cX4_walk 190 = .ok (.irem, 1) := by decide +kernel
theorem dX4_walk_191 : decode cX4_walk 191 = .ok (.istore 5, 2) := by decide +kernel
theorem dX4_walk_193 : decode cX4_walk 193 = .ok (.goto (-121), 3) := by decide +kernel
theorem dX4_walk_196 : decode cX4_walk 196 = .ok (.iload 6, 2) := by decide +kernel
theorem dX4_walk_198 : decode cX4_walk 198 = .ok (.ireturn, 1) := by decide +kernel
set_option maxRecDepth 20000 in
theorem ggX4_go_X4_dependent : GoodIn wsX4_go wsX4_dependent := goodIn_r _ [9, 1, 10, 11, 12, 13, 14, 15, 16, 17, 18, 19, 20, 21, 22, 23, 24, 25, 26, 27, 28] (by decide +kernel) (by decide +kernel)
set_option maxRecDepth 20000 in
theorem gX4_go_X4_dependent : GoodIn wsX4_go (wsV RX4 90 RX4 yX4_dependent wsX4_dependent) := goodIn_app (goodIn_of _ (by decide +kernel)) ggX4_go_X4_dependent
theorem dX4_go_0 : decode cX4_go 0 = .ok (.iconst 0, 1) := by decide +kernel
theorem dX4_go_1 : decode cX4_go 1 = .ok (.istore_n 3, 1) := by decide +kernel
theorem dX4_go_2 : decode cX4_go 2 = .ok (.iload_n 3, 1) := by decide +kernel
theorem dX4_go_3 : decode cX4_go 3 = .ok (.aload_n 0, 1) := by decide +kernel
theorem dX4_go_4 : decode cX4_go 4 = .ok (.getfield 59, 3) := by decide +kernel
theorem dX4_go_7 : decode cX4_go 7 = .ok (.if_icmp .ge 23, 3) := by decide +kernel
theorem dX4_go_10 : decode cX4_go 10 = .ok (.aload_n 0, 1) := by decide +kernel
theorem dX4_go_11 : decode cX4_go 11 = .ok (.getfield 47, 3) := by decide +kernel
theorem dX4_go_14 : decode cX4_go 14 = .ok (.iload_n 3, 1) := by decide +kernel
theorem dX4_go_15 : decode cX4_go 15 = .ok (.dup2, 1) := by decide +kernel
theorem dX4_go_16 : decode cX4_go 16 = .ok (.iaload, 1) := by decide +kernel
theorem dX4_go_17 : decode cX4_go 17 = .ok (.iload_n 2, 1) := by decide +kernel
theorem dX4_go_18 : decode cX4_go 18 = .ok (.iload_n 3, 1) := by decide +kernel
theorem dX4_go_19 : decode cX4_go 19 = .ok (.ishr, 1) := by decide +kernel
theorem dX4_go_20 : decode cX4_go 20 = .ok (.iconst 1, 1) := by decide +kernel
theorem dX4_go_21 : decode cX4_go 21 = .ok (.iand, 1) := by decide +kernel
theorem dX4_go_22 : decode cX4_go 22 = .ok (.iadd, 1) := by decide +kernel
theorem dX4_go_23 : decode cX4_go 23 = .ok (.iastore, 1) := by decide +kernel
theorem dX4_go_24 : decode cX4_go 24 = .ok (.iinc 3 1, 3) := by decide +kernel
theorem dX4_go_27 : decode cX4_go 27 = .ok (.goto (-25), 3) := by decide +kernel
theorem dX4_go_30 : decode cX4_go 30 = .ok (.iload_n 1, 1) := by decide +kernel
theorem dX4_go_31 : decode cX4_go 31 = .ok (.iconst 3, 1) := by decide +kernel
theorem dX4_go_32 : decode cX4_go 32 = .ok (.irem, 1) := by decide +kernel
theorem dX4_go_33 : decode cX4_go 33 = .ok (.iconst 2, 1) := by decide +kernel
theorem dX4_go_34 : decode cX4_go 34 = .ok (.if_icmp .ne 15, 3) := by decide +kernel
theorem dX4_go_37 : decode cX4_go 37 = .ok (.iload_n 2, 1) := by decide +kernel
theorem dX4_go_38 : decode cX4_go 38 = .ok (.aload_n 0, 1) := by decide +kernel
theorem dX4_go_39 : decode cX4_go 39 = .ok (.iload_n 1, 1) := by decide +kernel
theorem dX4_go_40 : decode cX4_go 40 = .ok (.iconst 3, 1) := by decide +kernel
theorem dX4_go_41 : decode cX4_go 41 = .ok (.idiv, 1) := by decide +kernel
theorem dX4_go_42 : decode cX4_go 42 = .ok (.invokevirtual 90, 3) := by decide +kernel
theorem dX4_go_45 : decode cX4_go 45 = .ok (.iconst (-1), 1) := by decide +kernel
theorem dX4_go_46 : decode cX4_go 46 = .ok (.ixor, 1) := by decide +kernel
theorem dX4_go_47 : decode cX4_go 47 = .ok (.iand, 1) := by decide +kernel
theorem dX4_go_48 : decode cX4_go 48 = .ok (.ireturn, 1) := by decide +kernel
theorem dX4_go_49 : decode cX4_go 49 = .ok (.iload_n 1, 1) := by decide +kernel
theorem dX4_go_50 : decode cX4_go 50 = .ok (.iconst 3, 1) := by decide +kernel
theorem dX4_go_51 : decode cX4_go 51 = .ok (.irem, 1) := by decide +kernel
theorem dX4_go_52 : decode cX4_go 52 = .ok (.iconst 1, 1) := by decide +kernel
theorem dX4_go_53 : decode cX4_go 53 = .ok (.if_icmp .ne 29, 3) := by decide +kernel
theorem dX4_go_56 : decode cX4_go 56 = .ok (.aload_n 0, 1) := by decide +kernel
theorem dX4_go_57 : decode cX4_go 57 = .ok (.dup, 1) := by decide +kernel
theorem dX4_go_58 : decode cX4_go 58 = .ok (.getfield 134, 3) := by decide +kernel
theorem dX4_go_61 : decode cX4_go 61 = .ok (.iload_n 2, 1) := by decide +kernel
theorem dX4_go_62 : decode cX4_go 62 = .ok (.iload_n 1, 1) := by decide +kernel
theorem dX4_go_63 : decode cX4_go 63 = .ok (.iconst 3, 1) := by decide +kernel
theorem dX4_go_64 : decode cX4_go 64 = .ok (.idiv, 1) := by decide +kernel
theorem dX4_go_65 : decode cX4_go 65 = .ok (.ishr, 1) := by decide +kernel
theorem dX4_go_66 : decode cX4_go 66 = .ok (.iconst 1, 1) := by decide +kernel
theorem dX4_go_67 : decode cX4_go 67 = .ok (.iand, 1) := by decide +kernel
theorem dX4_go_68 : decode cX4_go 68 = .ok (.ifCond .ne 7, 3) := by decide +kernel
theorem dX4_go_71 : decode cX4_go 71 = .ok (.iconst 1, 1) := by decide +kernel
theorem dX4_go_72 : decode cX4_go 72 = .ok (.goto 4, 3) := by decide +kernel
theorem dX4_go_75 : decode cX4_go 75 = .ok (.iconst 0, 1) := by decide +kernel
theorem dX4_go_76 : decode cX4_go 76 = .ok (.iadd, 1) := by decide +kernel
theorem dX4_go_77 : decode cX4_go 77 = .ok (.putfield 134, 3) := by decide +kernel
theorem dX4_go_80 : decode cX4_go 80 = .ok (.iload_n 2, 1) := by decide +kernel
theorem dX4_go_81 : decode cX4_go 81 = .ok (.ireturn, 1) := by decide +kernel
theorem dX4_go_82 : decode cX4_go 82 = .ok (.aload_n 0, 1) := by decide +kernel
theorem dX4_go_83 : decode cX4_go 83 = .ok (.getfield 44, 3) := by decide +kernel
theorem dX4_go_86 : decode cX4_go 86 = .ok (.iload_n 1, 1) := by decide +kernel
theorem dX4_go_87 : decode cX4_go 87 = .ok (.iconst 3, 1) := by decide +kernel
theorem dX4_go_88 : decode cX4_go 88 = .ok (.idiv, 1) := by decide +kernel
theorem dX4_go_89 : decode cX4_go 89 = .ok (.dup2, 1) := by decide +kernel
theorem dX4_go_90 : decode cX4_go 90 = .ok (.iaload, 1) := by decide +kernel
theorem dX4_go_91 : decode cX4_go 91 = .ok (.iconst 1, 1) := by decide +kernel
theorem dX4_go_92 : decode cX4_go 92 = .ok (.iadd, 1) := by decide +kernel
theorem dX4_go_93 : decode cX4_go 93 = .ok (.iastore, 1) := by decide +kernel
theorem dX4_go_94 : decode cX4_go 94 = .ok (.iload_n 2, 1) := by decide +kernel
theorem dX4_go_95 : decode cX4_go 95 = .ok (.iconst 1, 1) := by decide +kernel
theorem dX4_go_96 : decode cX4_go 96 = .ok (.iload_n 1, 1) := by decide +kernel
theorem dX4_go_97 : decode cX4_go 97 = .ok (.iconst 3, 1) := by decide +kernel
theorem dX4_go_98 : decode cX4_go 98 = .ok (.idiv, 1) := by decide +kernel
theorem dX4_go_99 : decode cX4_go 99 = .ok (.ishl, 1) := by decide +kernel
theorem dX4_go_100 : decode cX4_go 100 = .ok (.ior, 1) := by decide +kernel
theorem dX4_go_101 : decode cX4_go 101 = .ok (.ireturn, 1) := by decide +kernel
theorem dX4_exit_0 : decode cX4_exit 0 = .ok (.iload_n 2, 1) := by decide +kernel
theorem dX4_exit_1 : decode cX4_exit 1 = .ok (.istore_n 3, 1) := by decide +kernel
theorem dX4_exit_2 : decode cX4_exit 2 = .ok (.iconst 0, 1) := by decide +kernel
theorem dX4_exit_3 : decode cX4_exit 3 = .ok (.istore 4, 2) := by decide +kernel
theorem dX4_exit_5 : decode cX4_exit 5 = .ok (.iload 4, 2) := by decide +kernel
theorem dX4_exit_7 : decode cX4_exit 7 = .ok (.aload_n 0, 1) := by decide +kernel
theorem dX4_exit_8 : decode cX4_exit 8 = .ok (.getfield 56, 3) := by decide +kernel
theorem dX4_exit_11 : decode cX4_exit 11 = .ok (.if_icmp .ge 38, 3) := by decide +kernel
theorem dX4_exit_14 : decode cX4_exit 14 = .ok (.aload_n 0, 1) := by decide +kernel
theorem dX4_exit_15 : decode cX4_exit 15 = .ok (.getfield 23, 3) := by decide +kernel
theorem dX4_exit_18 : decode cX4_exit 18 = .ok (.iload 4, 2) := by decide +kernel
theorem dX4_exit_20 : decode cX4_exit 20 = .ok (.iaload, 1) := by decide +kernel
theorem dX4_exit_21 : decode cX4_exit 21 = .ok (.iload_n 1, 1) := by decide +kernel
theorem dX4_exit_22 : decode cX4_exit 22 = .ok (.if_icmp .eq 6, 3) := by decide +kernel
theorem dX4_exit_25 : decode cX4_exit 25 = .ok (.goto 18, 3) := by decide +kernel
theorem dX4_exit_28 : decode cX4_exit 28 = .ok (.iload_n 3, 1) := by decide +kernel
theorem dX4_exit_29 : decode cX4_exit 29 = .ok (.ifCond .ne 11, 3) := by decide +kernel
theorem dX4_exit_32 : decode cX4_exit 32 = .ok (.aload_n 0, 1) := by decide +kernel
theorem dX4_exit_33 : decode cX4_exit 33 = .ok (.getfield 26, 3) := by decide +kernel
theorem dX4_exit_36 : decode cX4_exit 36 = .ok (.iload 4, 2) := by decide +kernel
theorem dX4_exit_38 : decode cX4_exit 38 = .ok (.iaload, 1) := by decide +kernel
theorem dX4_exit_39 : decode cX4_exit 39 = .ok (.ireturn, 1) := by decide +kernel
theorem dX4_exit_40 : decode cX4_exit 40 = .ok (.iinc 3 (-1), 3) := by decide +kernel
theorem dX4_exit_43 : decode cX4_exit 43 = .ok (.iinc 4 1, 3) := by decide +kernel
theorem dX4_exit_46 : decode cX4_exit 46 = .ok (.goto (-41), 3) := by decide +kernel
theorem dX4_exit_49 : decode cX4_exit 49 = .ok (.iconst (-1), 1) := by decide +kernel
theorem dX4_exit_50 : decode cX4_exit 50 = .ok (.ireturn, 1) := by decide +kernel
set_option maxRecDepth 20000 in
theorem ggX4_computed_X4_isExpression : GoodIn wsX4_computed wsX4_isExpression := goodIn_r _ [7, 8, 13, 14, 15, 16, 17, 18, 19, 20, 21, 22, 23, 24, 25, 26, 27, 28, 29, 30] (by decide +kernel) (by decide +kernel)
set_option maxRecDepth 20000 in
theorem gX4_computed_X4_isExpression : GoodIn wsX4_computed (wsV RX4 73 RX4 yX4_isExpression wsX4_isExpression) := goodIn_app (goodIn_of _ (by decide +kernel)) ggX4_computed_X4_isExpression
set_option maxRecDepth 20000 in
theorem ggX4_computed_X4_no : GoodIn wsX4_computed wsX4_no := goodIn_r _ [12, 1, 13, 14, 15, 16, 17, 18, 19, 20, 21, 22, 23, 24, 25, 26, 27, 28, 29, 30] (by decide +kernel) (by decide +kernel)
set_option maxRecDepth 20000 in
theorem gX4_computed_X4_no : GoodIn wsX4_computed (wsV RX4 62 RX4 yX4_no wsX4_no) := goodIn_app (goodIn_of _ (by decide +kernel)) ggX4_computed_X4_no
theorem dX4_computed_0 : decode cX4_computed 0 = .ok (.aload_n 0, 1) := by decide +kernel
theorem dX4_computed_1 : decode cX4_computed 1 = .ok (.iconst 0, 1) := by decide +kernel
theorem dX4_computed_2 : decode cX4_computed 2 = .ok (.putfield 53, 3) := by decide +kernel
theorem dX4_computed_5 : decode cX4_computed 5 = .ok (.aload_n 0, 1) := by decide +kernel
theorem dX4_computed_6 : decode cX4_computed 6 = .ok (.iload_n 1, 1) := by decide +kernel
theorem dX4_computed_7 : decode cX4_computed 7 = .ok (.invokevirtual 73, 3) := by decide +kernel
theorem dX4_computed_10 : decode cX4_computed 10 = .ok (.ifCond .eq 12, 3) := by decide +kernel
theorem dX4_computed_13 : decode cX4_computed 13 = .ok (.aload_n 0, 1) := by decide +kernel
theorem dX4_computed_14 : decode cX4_computed 14 = .ok (.getfield 44, 3) := by decide +kernel
theorem dX4_computed_17 : decode cX4_computed 17 = .ok (.iload_n 1, 1) := by decide +kernel
theorem dX4_computed_18 : decode cX4_computed 18 = .ok (.iaload, 1) := by decide +kernel
theorem dX4_computed_19 : decode cX4_computed 19 = .ok (.goto 8, 3) := by decide +kernel
theorem dX4_computed_22 : decode cX4_computed 22 = .ok (.aload_n 0, 1) := by decide +kernel
theorem dX4_computed_23 : decode cX4_computed 23 = .ok (.iconst 1, 1) := by decide +kernel
theorem dX4_computed_24 : decode cX4_computed 24 = .ok (.invokevirtual 62, 3) := by decide +kernel
theorem dX4_computed_27 : decode cX4_computed 27 = .ok (.ireturn, 1) := by decide +kernel
theorem dX4_misses_0 : decode cX4_misses 0 = .ok (.aload_n 0, 1) := by decide +kernel
theorem dX4_misses_1 : decode cX4_misses 1 = .ok (.iconst 0, 1) := by decide +kernel
theorem dX4_misses_2 : decode cX4_misses 2 = .ok (.putfield 53, 3) := by decide +kernel
theorem dX4_misses_5 : decode cX4_misses 5 = .ok (.aload_n 0, 1) := by decide +kernel
theorem dX4_misses_6 : decode cX4_misses 6 = .ok (.getfield 134, 3) := by decide +kernel
theorem dX4_misses_9 : decode cX4_misses 9 = .ok (.ireturn, 1) := by decide +kernel
theorem dX4_lastBlock_0 : decode cX4_lastBlock 0 = .ok (.aload_n 0, 1) := by decide +kernel
theorem dX4_lastBlock_1 : decode cX4_lastBlock 1 = .ok (.iconst 0, 1) := by decide +kernel
theorem dX4_lastBlock_2 : decode cX4_lastBlock 2 = .ok (.putfield 53, 3) := by decide +kernel
theorem dX4_lastBlock_5 : decode cX4_lastBlock 5 = .ok (.aload_n 0, 1) := by decide +kernel
theorem dX4_lastBlock_6 : decode cX4_lastBlock 6 = .ok (.getfield 50, 3) := by decide +kernel
theorem dX4_lastBlock_9 : decode cX4_lastBlock 9 = .ok (.ireturn, 1) := by decide +kernel
set_option maxRecDepth 20000 in
theorem ggX4_heldFor_X4_isExpression : GoodIn wsX4_heldFor wsX4_isExpression := goodIn_r _ [7, 8, 13, 14, 15, 16, 17, 18, 19, 20, 21, 22, 23, 24, 25, 26, 27, 28, 29, 30] (by decide +kernel) (by decide +kernel)
set_option maxRecDepth 20000 in
theorem gX4_heldFor_X4_isExpression : GoodIn wsX4_heldFor (wsV RX4 73 RX4 yX4_isExpression wsX4_isExpression) := goodIn_app (goodIn_of _ (by decide +kernel)) ggX4_heldFor_X4_isExpression
set_option maxRecDepth 20000 in
theorem ggX4_heldFor_X4_no : GoodIn wsX4_heldFor wsX4_no := goodIn_r _ [12, 1, 13, 14, 15, 16, 17, 18, 19, 20, 21, 22, 23, 24, 25, 26, 27, 28, 29, 30] (by decide +kernel) (by decide +kernel)
set_option maxRecDepth 20000 in
theorem gX4_heldFor_X4_no : GoodIn wsX4_heldFor (wsV RX4 62 RX4 yX4_no wsX4_no) := goodIn_app (goodIn_of _ (by decide +kernel)) ggX4_heldFor_X4_no
theorem dX4_heldFor_0 : decode cX4_heldFor 0 = .ok (.aload_n 0, 1) := by decide +kernel
theorem dX4_heldFor_1 : decode cX4_heldFor 1 = .ok (.iconst 0, 1) := by decide +kernel
theorem dX4_heldFor_2 : decode cX4_heldFor 2 = .ok (.putfield 53, 3) := by decide +kernel
theorem dX4_heldFor_5 : decode cX4_heldFor 5 = .ok (.aload_n 0, 1) := by decide +kernel
theorem dX4_heldFor_6 : decode cX4_heldFor 6 = .ok (.iload_n 1, 1) := by decide +kernel
theorem dX4_heldFor_7 : decode cX4_heldFor 7 = .ok (.invokevirtual 73, 3) := by decide +kernel
theorem dX4_heldFor_10 : decode cX4_heldFor 10 = .ok (.ifCond .eq 12, 3) := by decide +kernel
theorem dX4_heldFor_13 : decode cX4_heldFor 13 = .ok (.aload_n 0, 1) := by decide +kernel
theorem dX4_heldFor_14 : decode cX4_heldFor 14 = .ok (.getfield 47, 3) := by decide +kernel
theorem dX4_heldFor_17 : decode cX4_heldFor 17 = .ok (.iload_n 1, 1) := by decide +kernel
theorem dX4_heldFor_18 : decode cX4_heldFor 18 = .ok (.iaload, 1) := by decide +kernel
theorem dX4_heldFor_19 : decode cX4_heldFor 19 = .ok (.goto 8, 3) := by decide +kernel
theorem dX4_heldFor_22 : decode cX4_heldFor 22 = .ok (.aload_n 0, 1) := by decide +kernel
theorem dX4_heldFor_23 : decode cX4_heldFor 23 = .ok (.iconst 1, 1) := by decide +kernel
theorem dX4_heldFor_24 : decode cX4_heldFor 24 = .ok (.invokevirtual 62, 3) := by decide +kernel
theorem dX4_heldFor_27 : decode cX4_heldFor 27 = .ok (.ireturn, 1) := by decide +kernel
set_option maxRecDepth 20000 in
theorem ggX4_digest_X4_at : GoodIn wsX4_digest wsX4_at := goodIn_r _ [17, 18, 19, 20, 21, 22, 23, 24, 25, 26, 27, 28, 29, 30, 31, 32, 33, 34, 35, 36] (by decide +kernel) (by decide +kernel)
set_option maxRecDepth 20000 in
theorem gX4_digest_X4_at : GoodIn wsX4_digest (wsV RX4 80 RX4 yX4_at wsX4_at) := goodIn_app (goodIn_of _ (by decide +kernel)) ggX4_digest_X4_at
theorem dX4_digest_0 : decode cX4_digest 0 = .ok (.aload_n 0, 1) := by decide +kernel
theorem dX4_digest_1 : decode cX4_digest 1 = .ok (.iconst 0, 1) := by decide +kernel
theorem dX4_digest_2 : decode cX4_digest 2 = .ok (.putfield 53, 3) := by decide +kernel
theorem dX4_digest_5 : decode cX4_digest 5 = .ok (.ldc2_w 143, 3) := by decide +kernel
theorem dX4_digest_8 : decode cX4_digest 8 = .ok (.aload_n 0, 1) := by decide +kernel
theorem dX4_digest_9 : decode cX4_digest 9 = .ok (.getfield 59, 3) := by decide +kernel
theorem dX4_digest_12 : decode cX4_digest 12 = .ok (.i2l, 1) := by decide +kernel
theorem dX4_digest_13 : decode cX4_digest 13 = .ok (.ladd, 1) := by decide +kernel
theorem dX4_digest_14 : decode cX4_digest 14 = .ok (.lstore_n 1, 1) := by decide +kernel
theorem dX4_digest_15 : decode cX4_digest 15 = .ok (.iconst 0, 1) := by decide +kernel
theorem dX4_digest_16 : decode cX4_digest 16 = .ok (.istore_n 3, 1) := by decide +kernel
theorem dX4_digest_17 : decode cX4_digest 17 = .ok (.iload_n 3, 1) := by decide +kernel
theorem dX4_digest_18 : decode cX4_digest 18 = .ok (.aload_n 0, 1) := by decide +kernel
theorem dX4_digest_19 : decode cX4_digest 19 = .ok (.getfield 59, 3) := by decide +kernel
theorem dX4_digest_22 : decode cX4_digest 22 = .ok (.if_icmp .ge 23, 3) := by decide +kernel
theorem dX4_digest_25 : decode cX4_digest 25 = .ok (.lload_n 1, 1) := by decide +kernel
theorem dX4_digest_26 : decode cX4_digest 26 = .ok (.ldc2_w 145, 3) := by decide +kernel
theorem dX4_digest_29 : decode cX4_digest 29 = .ok (.lmul, 1) := by decide +kernel
theorem dX4_digest_30 : decode cX4_digest 30 = .ok (.aload_n 0, 1) := by decide +kernel
theorem dX4_digest_31 : decode cX4_digest 31 = .ok (.getfield 9, 3) := by decide +kernel
theorem dX4_digest_34 : decode cX4_digest 34 = .ok (.iload_n 3, 1) := by decide +kernel
theorem dX4_digest_35 : decode cX4_digest 35 = .ok (.iaload, 1) := by decide +kernel
theorem dX4_digest_36 : decode cX4_digest 36 = .ok (.i2l, 1) := by decide +kernel
theorem dX4_digest_37 : decode cX4_digest 37 = .ok (.ladd, 1) := by decide +kernel
theorem dX4_digest_38 : decode cX4_digest 38 = .ok (.lstore_n 1, 1) := by decide +kernel
theorem dX4_digest_39 : decode cX4_digest 39 = .ok (.iinc 3 1, 3) := by decide +kernel
theorem dX4_digest_42 : decode cX4_digest 42 = .ok (.goto (-25), 3) := by decide +kernel
theorem dX4_digest_45 : decode cX4_digest 45 = .ok (.lload_n 1, 1) := by decide +kernel
theorem dX4_digest_46 : decode cX4_digest 46 = .ok (.ldc2_w 145, 3) := by decide +kernel
theorem dX4_digest_49 : decode cX4_digest 49 = .ok (.lmul, 1) := by decide +kernel
theorem dX4_digest_50 : decode cX4_digest 50 = .ok (.aload_n 0, 1) := by decide +kernel
theorem dX4_digest_51 : decode cX4_digest 51 = .ok (.getfield 13, 3) := by decide +kernel
theorem dX4_digest_54 : decode cX4_digest 54 = .ok (.i2l, 1) := by decide +kernel
theorem dX4_digest_55 : decode cX4_digest 55 = .ok (.ladd, 1) := by decide +kernel
theorem dX4_digest_56 : decode cX4_digest 56 = .ok (.lstore_n 1, 1) := by decide +kernel
theorem dX4_digest_57 : decode cX4_digest 57 = .ok (.iconst 0, 1) := by decide +kernel
theorem dX4_digest_58 : decode cX4_digest 58 = .ok (.istore_n 3, 1) := by decide +kernel
theorem dX4_digest_59 : decode cX4_digest 59 = .ok (.iload_n 3, 1) := by decide +kernel
theorem dX4_digest_60 : decode cX4_digest 60 = .ok (.aload_n 0, 1) := by decide +kernel
theorem dX4_digest_61 : decode cX4_digest 61 = .ok (.getfield 13, 3) := by decide +kernel
theorem dX4_digest_64 : decode cX4_digest 64 = .ok (.if_icmp .ge 58, 3) := by decide +kernel
theorem dX4_digest_67 : decode cX4_digest 67 = .ok (.lload_n 1, 1) := by decide +kernel
theorem dX4_digest_68 : decode cX4_digest 68 = .ok (.ldc2_w 145, 3) := by decide +kernel
theorem dX4_digest_71 : decode cX4_digest 71 = .ok (.lmul, 1) := by decide +kernel
theorem dX4_digest_72 : decode cX4_digest 72 = .ok (.aload_n 0, 1) := by decide +kernel
theorem dX4_digest_73 : decode cX4_digest 73 = .ok (.getfield 17, 3) := by decide +kernel
theorem dX4_digest_76 : decode cX4_digest 76 = .ok (.iload_n 3, 1) := by decide +kernel
theorem dX4_digest_77 : decode cX4_digest 77 = .ok (.iaload, 1) := by decide +kernel
theorem dX4_digest_78 : decode cX4_digest 78 = .ok (.i2l, 1) := by decide +kernel
theorem dX4_digest_79 : decode cX4_digest 79 = .ok (.ladd, 1) := by decide +kernel
theorem dX4_digest_80 : decode cX4_digest 80 = .ok (.lstore_n 1, 1) := by decide +kernel
theorem dX4_digest_81 : decode cX4_digest 81 = .ok (.iconst 0, 1) := by decide +kernel
theorem dX4_digest_82 : decode cX4_digest 82 = .ok (.istore 4, 2) := by decide +kernel
theorem dX4_digest_84 : decode cX4_digest 84 = .ok (.iload 4, 2) := by decide +kernel
theorem dX4_digest_86 : decode cX4_digest 86 = .ok (.aload_n 0, 1) := by decide +kernel
theorem dX4_digest_87 : decode cX4_digest 87 = .ok (.getfield 17, 3) := by decide +kernel
theorem dX4_digest_90 : decode cX4_digest 90 = .ok (.iload_n 3, 1) := by decide +kernel
theorem dX4_digest_91 : decode cX4_digest 91 = .ok (.iaload, 1) := by decide +kernel
theorem dX4_digest_92 : decode cX4_digest 92 = .ok (.if_icmp .ge 24, 3) := by decide +kernel
theorem dX4_digest_95 : decode cX4_digest 95 = .ok (.lload_n 1, 1) := by decide +kernel
theorem dX4_digest_96 : decode cX4_digest 96 = .ok (.ldc2_w 145, 3) := by decide +kernel
theorem dX4_digest_99 : decode cX4_digest 99 = .ok (.lmul, 1) := by decide +kernel
theorem dX4_digest_100 : decode cX4_digest 100 = .ok (.aload_n 0, 1) := by decide +kernel
theorem dX4_digest_101 : decode cX4_digest 101 = .ok (.iload_n 3, 1) := by decide +kernel
theorem dX4_digest_102 : decode cX4_digest 102 = .ok (.iload 4, 2) := by decide +kernel
theorem dX4_digest_104 : decode cX4_digest 104 = .ok (.invokevirtual 80, 3) := by decide +kernel
theorem dX4_digest_107 : decode cX4_digest 107 = .ok (.i2l, 1) := by decide +kernel
theorem dX4_digest_108 : decode cX4_digest 108 = .ok (.ladd, 1) := by decide +kernel
theorem dX4_digest_109 : decode cX4_digest 109 = .ok (.lstore_n 1, 1) := by decide +kernel
theorem dX4_digest_110 : decode cX4_digest 110 = .ok (.iinc 4 1, 3) := by decide +kernel
theorem dX4_digest_113 : decode cX4_digest 113 = .ok (.goto (-29), 3) := by decide +kernel
theorem dX4_digest_116 : decode cX4_digest 116 = .ok (.iinc 3 1, 3) := by decide +kernel
theorem dX4_digest_119 : decode cX4_digest 119 = .ok (.goto (-60), 3) := by decide +kernel
theorem dX4_digest_122 : decode cX4_digest 122 = .ok (.lload_n 1, 1) := by decide +kernel
theorem dX4_digest_123 : decode cX4_digest 123 = .ok (.ldc2_w 145, 3) := by decide +kernel
theorem dX4_digest_126 : decode cX4_digest 126 = .ok (.lmul, 1) := by decide +kernel
theorem dX4_digest_127 : decode cX4_digest 127 = .ok (.aload_n 0, 1) := by decide +kernel
theorem dX4_digest_128 : decode cX4_digest 128 = .ok (.getfield 56, 3) := by decide +kernel
theorem dX4_digest_131 : decode cX4_digest 131 = .ok (.i2l, 1) := by decide +kernel
theorem dX4_digest_132 : decode cX4_digest 132 = .ok (.ladd, 1) := by decide +kernel
theorem dX4_digest_133 : decode cX4_digest 133 = .ok (.lstore_n 1, 1) := by decide +kernel
theorem dX4_digest_134 : decode cX4_digest 134 = .ok (.iconst 0, 1) := by decide +kernel
theorem dX4_digest_135 : decode cX4_digest 135 = .ok (.istore_n 3, 1) := by decide +kernel
theorem dX4_digest_136 : decode cX4_digest 136 = .ok (.iload_n 3, 1) := by decide +kernel
theorem dX4_digest_137 : decode cX4_digest 137 = .ok (.aload_n 0, 1) := by decide +kernel
theorem dX4_digest_138 : decode cX4_digest 138 = .ok (.getfield 56, 3) := by decide +kernel
theorem dX4_digest_141 : decode cX4_digest 141 = .ok (.if_icmp .ge 33, 3) := by decide +kernel
theorem dX4_digest_144 : decode cX4_digest 144 = .ok (.lload_n 1, 1) := by decide +kernel
theorem dX4_digest_145 : decode cX4_digest 145 = .ok (.ldc2_w 145, 3) := by decide +kernel
theorem dX4_digest_148 : decode cX4_digest 148 = .ok (.lmul, 1) := by decide +kernel
theorem dX4_digest_149 : decode cX4_digest 149 = .ok (.bipush 40, 2) := by decide +kernel
theorem dX4_digest_151 : decode cX4_digest 151 = .ok (.aload_n 0, 1) := by decide +kernel
theorem dX4_digest_152 : decode cX4_digest 152 = .ok (.getfield 23, 3) := by decide +kernel
theorem dX4_digest_155 : decode cX4_digest 155 = .ok (.iload_n 3, 1) := by decide +kernel
theorem dX4_digest_156 : decode cX4_digest 156 = .ok (.iaload, 1) := by decide +kernel
theorem dX4_digest_157 : decode cX4_digest 157 = .ok (.imul, 1) := by decide +kernel
theorem dX4_digest_158 : decode cX4_digest 158 = .ok (.aload_n 0, 1) := by decide +kernel
theorem dX4_digest_159 : decode cX4_digest 159 = .ok (.getfield 26, 3) := by decide +kernel
theorem dX4_digest_162 : decode cX4_digest 162 = .ok (.iload_n 3, 1) := by decide +kernel
theorem dX4_digest_163 : decode cX4_digest 163 = .ok (.iaload, 1) := by decide +kernel
theorem dX4_digest_164 : decode cX4_digest 164 = .ok (.iadd, 1) := by decide +kernel
theorem dX4_digest_165 : decode cX4_digest 165 = .ok (.i2l, 1) := by decide +kernel
theorem dX4_digest_166 : decode cX4_digest 166 = .ok (.ladd, 1) := by decide +kernel
theorem dX4_digest_167 : decode cX4_digest 167 = .ok (.lstore_n 1, 1) := by decide +kernel
theorem dX4_digest_168 : decode cX4_digest 168 = .ok (.iinc 3 1, 3) := by decide +kernel
theorem dX4_digest_171 : decode cX4_digest 171 = .ok (.goto (-35), 3) := by decide +kernel
theorem dX4_digest_174 : decode cX4_digest 174 = .ok (.lload_n 1, 1) := by decide +kernel
theorem dX4_digest_175 : decode cX4_digest 175 = .ok (.ldc2_w 145, 3) := by decide +kernel
theorem dX4_digest_178 : decode cX4_digest 178 = .ok (.lmul, 1) := by decide +kernel
theorem dX4_digest_179 : decode cX4_digest 179 = .ok (.aload_n 0, 1) := by decide +kernel
theorem dX4_digest_180 : decode cX4_digest 180 = .ok (.getfield 134, 3) := by decide +kernel
theorem dX4_digest_183 : decode cX4_digest 183 = .ok (.i2l, 1) := by decide +kernel
theorem dX4_digest_184 : decode cX4_digest 184 = .ok (.ladd, 1) := by decide +kernel
theorem dX4_digest_185 : decode cX4_digest 185 = .ok (.ldc2_w 145, 3) := by decide +kernel
theorem dX4_digest_188 : decode cX4_digest 188 = .ok (.lmul, 1) := by decide +kernel
theorem dX4_digest_189 : decode cX4_digest 189 = .ok (.aload_n 0, 1) := by decide +kernel
theorem dX4_digest_190 : decode cX4_digest 190 = .ok (.getfield 50, 3) := by decide +kernel
theorem dX4_digest_193 : decode cX4_digest 193 = .ok (.i2l, 1) := by decide +kernel
theorem dX4_digest_194 : decode cX4_digest 194 = .ok (.ladd, 1) := by decide +kernel
theorem dX4_digest_195 : decode cX4_digest 195 = .ok (.lreturn, 1) := by decide +kernel
set_option maxRecDepth 20000 in
theorem ggL_addExpression_X3_addExpression : GoodIn wsL_addExpression wsX3_addExpression := goodIn_ca (goodIn_ca (goodIn_r _ [7, 8, 9, 10, 11, 12, 13, 14, 15, 16, 17, 18, 19, 20, 21, 22, 23, 24, 25, 26, 27, 28, 29, 30, 31, 32, 33, 34, 35, 36, 37] (by decide +kernel) (by decide +kernel)) (goodIn_sub (fun _ h => List.mem_cons_of_mem _ (List.mem_append_left _ (List.mem_append_right _ h))) (by decide +kernel))) (goodIn_sub (fun _ h => List.mem_cons_of_mem _ (List.mem_append_right _ h)) (by decide +kernel))
set_option maxRecDepth 20000 in
theorem gL_addExpression_X3_addExpression : GoodIn wsL_addExpression (wsV RL 7 RX3 yX3_addExpression wsX3_addExpression) := goodIn_app (goodIn_of _ (by decide +kernel)) ggL_addExpression_X3_addExpression
