theorem dX0_init_0 : decode cX0_init 0 = .ok (.aload_n 0, 1) := by decide +kernel
theorem dX0_init_1 : decode cX0_init 1 = .ok (.invokespecial 3, 3) := by decide +kernel
theorem dX0_init_4 : decode cX0_init 4 = .ok (.aload_n 0, 1) := by decide +kernel
theorem dX0_init_5 : decode cX0_init 5 = .ok (.bipush 8, 2) := by decide +kernel
theorem dX0_init_7 : decode cX0_init 7 = .ok (.newarray .int, 2) := by decide +kernel
theorem dX0_init_9 : decode cX0_init 9 = .ok (.putfield 9, 3) := by decide +kernel
theorem dX0_init_12 : decode cX0_init 12 = .ok (.aload_n 0, 1) := by decide +kernel
theorem dX0_init_13 : decode cX0_init 13 = .ok (.bipush 8, 2) := by decide +kernel
theorem dX0_init_15 : decode cX0_init 15 = .ok (.newarray .int, 2) := by decide +kernel
theorem dX0_init_17 : decode cX0_init 17 = .ok (.putfield 15, 3) := by decide +kernel
theorem dX0_init_20 : decode cX0_init 20 = .ok (.aload_n 0, 1) := by decide +kernel
theorem dX0_init_21 : decode cX0_init 21 = .ok (.iconst 0, 1) := by decide +kernel
theorem dX0_init_22 : decode cX0_init 22 = .ok (.putfield 18, 3) := by decide +kernel
theorem dX0_init_25 : decode cX0_init 25 = .ok (.aload_n 0, 1) := by decide +kernel
theorem dX0_init_26 : decode cX0_init 26 = .ok (.iconst (-1), 1) := by decide +kernel
theorem dX0_init_27 : decode cX0_init 27 = .ok (.putfield 22, 3) := by decide +kernel
theorem dX0_init_30 : decode cX0_init 30 = .ok (.aload_n 0, 1) := by decide +kernel
theorem dX0_init_31 : decode cX0_init 31 = .ok (.iconst 0, 1) := by decide +kernel
theorem dX0_init_32 : decode cX0_init 32 = .ok (.putfield 25, 3) := by decide +kernel
theorem dX0_init_35 : decode cX0_init 35 = .ok (.aload_n 0, 1) := by decide +kernel
theorem dX0_init_36 : decode cX0_init 36 = .ok (.bipush 8, 2) := by decide +kernel
theorem dX0_init_38 : decode cX0_init 38 = .ok (.newarray .int, 2) := by decide +kernel
theorem dX0_init_40 : decode cX0_init 40 = .ok (.putfield 28, 3) := by decide +kernel
theorem dX0_init_43 : decode cX0_init 43 = .ok (.aload_n 0, 1) := by decide +kernel
theorem dX0_init_44 : decode cX0_init 44 = .ok (.iconst 0, 1) := by decide +kernel
theorem dX0_init_45 : decode cX0_init 45 = .ok (.putfield 31, 3) := by decide +kernel
theorem dX0_init_48 : decode cX0_init 48 = .ok (.aload_n 0, 1) := by decide +kernel
theorem dX0_init_49 : decode cX0_init 49 = .ok (.iconst 0, 1) := by decide +kernel
theorem dX0_init_50 : decode cX0_init 50 = .ok (.putfield 34, 3) := by decide +kernel
theorem dX0_init_53 : decode cX0_init 53 = .ok (.aload_n 0, 1) := by decide +kernel
theorem dX0_init_54 : decode cX0_init 54 = .ok (.aload_n 1, 1) := by decide +kernel
theorem dX0_init_55 : decode cX0_init 55 = .ok (.putfield 37, 3) := by decide +kernel
theorem dX0_init_58 : decode cX0_init 58 = .ok (.return_, 1) := by decide +kernel
set_option maxRecDepth 20000 in
theorem ggX0_goThrough_X0_begin : GoodIn wsX0_goThrough wsX0_begin := goodIn_r _ [7, 8, 9, 10, 2, 11, 12, 43, 44, 45, 46, 47, 48, 49, 50, 51] (by decide +kernel) (by decide +kernel)
set_option maxRecDepth 20000 in
theorem gX0_goThrough_X0_begin : GoodIn wsX0_goThrough (wsV RX0 41 RX0 yX0_begin wsX0_begin) := goodIn_app (goodIn_of _ (by decide +kernel)) ggX0_goThrough_X0_begin
set_option maxRecDepth 20000 in
theorem ggX0_goThrough_X0_goThroughBlock : GoodIn wsX0_goThrough wsX0_goThroughBlock := goodIn_r _ [16, 17, 18, 11, 2, 19, 10, 20, 21, 22, 23, 24, 25, 26, 27, 28, 6, 29, 8, 30, 31, 32, 33, 34, 35, 9, 43, 44, 45, 46, 47, 48, 49, 50, 51, 52, 53, 54, 55, 56, 57, 58, 59, 60, 61, 62, 63] (by decide +kernel) (by decide +kernel)
set_option maxRecDepth 20000 in
theorem gX0_goThrough_X0_goThroughBlock : GoodIn wsX0_goThrough (wsV RX0 44 RX0 yX0_goThroughBlock wsX0_goThroughBlock) := goodIn_app (goodIn_of _ (by decide +kernel)) ggX0_goThrough_X0_goThroughBlock
set_option maxRecDepth 20000 in
theorem ggX0_goThrough_X0_blockBehind : GoodIn wsX0_goThrough wsX0_blockBehind := goodIn_r _ [39, 17, 40, 41, 12, 42, 43, 44, 45, 46, 47, 48, 49, 50, 51, 52, 53, 54, 55, 56, 57, 58, 59, 60, 61, 62, 63] (by decide +kernel) (by decide +kernel)
set_option maxRecDepth 20000 in
theorem gX0_goThrough_X0_blockBehind : GoodIn wsX0_goThrough (wsV RX0 48 RX0 yX0_blockBehind wsX0_blockBehind) := goodIn_app (goodIn_of _ (by decide +kernel)) ggX0_goThrough_X0_blockBehind
set_option maxRecDepth 20000 in
theorem ggX0_goThrough_X0_letGo : GoodIn wsX0_goThrough wsX0_letGo := goodIn_r _ [34, 17, 35, 9, 11, 30, 2, 43, 44, 45, 46, 47, 48, 49, 50, 51, 52, 53, 54, 55, 56, 57, 58, 59, 60, 61, 62, 63] (by decide +kernel) (by decide +kernel)
set_option maxRecDepth 20000 in
theorem gX0_goThrough_X0_letGo : GoodIn wsX0_goThrough (wsV RX0 52 RX0 yX0_letGo wsX0_letGo) := goodIn_app (goodIn_of _ (by decide +kernel)) ggX0_goThrough_X0_letGo
theorem dX0_goThrough_0 : decode cX0_goThrough 0 = .ok (.aload_n 0, 1) := by decide +kernel
theorem dX0_goThrough_1 : decode cX0_goThrough 1 = .ok (.invokevirtual 41, 3) := by decide +kernel
theorem dX0_goThrough_4 : decode cX0_goThrough 4 = .ok (.iconst 0, 1) := by decide +kernel
theorem dX0_goThrough_5 : decode cX0_goThrough 5 = .ok (.istore 4, 2) := by decide +kernel
theorem dX0_goThrough_7 : decode cX0_goThrough 7 = .ok (.iconst 0, 1) := by decide +kernel
theorem dX0_goThrough_8 : decode cX0_goThrough 8 = .ok (.istore 5, 2) := by decide +kernel
theorem dX0_goThrough_10 : decode cX0_goThrough 10 = .ok (.iload 4, 2) := by decide +kernel
theorem dX0_goThrough_12 : decode cX0_goThrough 12 = .ok (.iload_n 3, 1) := by decide +kernel
theorem dX0_goThrough_13 : decode cX0_goThrough 13 = .ok (.if_icmp .ge 36, 3) := by decide +kernel
theorem dX0_goThrough_16 : decode cX0_goThrough 16 = .ok (.iload 5, 2) := by decide +kernel
theorem dX0_goThrough_18 : decode cX0_goThrough 18 = .ok (.iconst (-1), 1) := by decide +kernel
theorem dX0_goThrough_19 : decode cX0_goThrough 19 = .ok (.if_icmp .eq 30, 3) := by decide +kernel
theorem dX0_goThrough_22 : decode cX0_goThrough 22 = .ok (.aload_n 0, 1) := by decide +kernel
theorem dX0_goThrough_23 : decode cX0_goThrough 23 = .ok (.iload 5, 2) := by decide +kernel
theorem dX0_goThrough_25 : decode cX0_goThrough 25 = .ok (.invokevirtual 44, 3) := by decide +kernel
theorem dX0_goThrough_28 : decode cX0_goThrough 28 = .ok (.aload_n 0, 1) := by decide +kernel
theorem dX0_goThrough_29 : decode cX0_goThrough 29 = .ok (.iload 5, 2) := by decide +kernel
theorem dX0_goThrough_31 : decode cX0_goThrough 31 = .ok (.putfield 22, 3) := by decide +kernel
theorem dX0_goThrough_34 : decode cX0_goThrough 34 = .ok (.aload_n 0, 1) := by decide +kernel
theorem dX0_goThrough_35 : decode cX0_goThrough 35 = .ok (.iload 5, 2) := by decide +kernel
theorem dX0_goThrough_37 : decode cX0_goThrough 37 = .ok (.lload_n 1, 1) := by decide +kernel
theorem dX0_goThrough_38 : decode cX0_goThrough 38 = .ok (.invokevirtual 48, 3) := by decide +kernel
theorem dX0_goThrough_41 : decode cX0_goThrough 41 = .ok (.istore 5, 2) := by decide +kernel
theorem dX0_goThrough_43 : decode cX0_goThrough 43 = .ok (.iinc 4 1, 3) := by decide +kernel
theorem dX0_goThrough_46 : decode cX0_goThrough 46 = .ok (.goto (-36), 3) := by decide +kernel
theorem dX0_goThrough_49 : decode cX0_goThrough 49 = .ok (.aload_n 0, 1) := by decide +kernel
theorem dX0_goThrough_50 : decode cX0_goThrough 50 = .ok (.aload_n 0, 1) := by decide +kernel
theorem dX0_goThrough_51 : decode cX0_goThrough 51 = .ok (.getfield 25, 3) := by decide +kernel
theorem dX0_goThrough_54 : decode cX0_goThrough 54 = .ok (.invokevirtual 52, 3) := by decide +kernel
theorem dX0_goThrough_57 : decode cX0_goThrough 57 = .ok (.iload 4, 2) := by decide +kernel
theorem dX0_goThrough_59 : decode cX0_goThrough 59 = .ok (.ireturn, 1) := by decide +kernel
theorem dX0_begin_0 : decode cX0_begin 0 = .ok (.iconst 0, 1) := by decide +kernel
theorem dX0_begin_1 : decode cX0_begin 1 = .ok (.istore_n 1, 1) := by decide +kernel
theorem dX0_begin_2 : decode cX0_begin 2 = .ok (.iload_n 1, 1) := by decide +kernel
theorem dX0_begin_3 : decode cX0_begin 3 = .ok (.bipush 8, 2) := by decide +kernel
theorem dX0_begin_5 : decode cX0_begin 5 = .ok (.if_icmp .ge 23, 3) := by decide +kernel
theorem dX0_begin_8 : decode cX0_begin 8 = .ok (.aload_n 0, 1) := by decide +kernel
theorem dX0_begin_9 : decode cX0_begin 9 = .ok (.getfield 9, 3) := by decide +kernel
theorem dX0_begin_12 : decode cX0_begin 12 = .ok (.iload_n 1, 1) := by decide +kernel
theorem dX0_begin_13 : decode cX0_begin 13 = .ok (.iconst 0, 1) := by decide +kernel
theorem dX0_begin_14 : decode cX0_begin 14 = .ok (.iastore, 1) := by decide +kernel
theorem dX0_begin_15 : decode cX0_begin 15 = .ok (.aload_n 0, 1) := by decide +kernel
theorem dX0_begin_16 : decode cX0_begin 16 = .ok (.getfield 15, 3) := by decide +kernel
theorem dX0_begin_19 : decode cX0_begin 19 = .ok (.iload_n 1, 1) := by decide +kernel
theorem dX0_begin_20 : decode cX0_begin 20 = .ok (.iconst 0, 1) := by decide +kernel
theorem dX0_begin_21 : decode cX0_begin 21 = .ok (.iastore, 1) := by decide +kernel
theorem dX0_begin_22 : decode cX0_begin 22 = .ok (.iinc 1 1, 3) := by decide +kernel
theorem dX0_begin_25 : decode cX0_begin 25 = .ok (.goto (-23), 3) := by decide +kernel
theorem dX0_begin_28 : decode cX0_begin 28 = .ok (.aload_n 0, 1) := by decide +kernel
theorem dX0_begin_29 : decode cX0_begin 29 = .ok (.iconst 0, 1) := by decide +kernel
theorem dX0_begin_30 : decode cX0_begin 30 = .ok (.putfield 18, 3) := by decide +kernel
theorem dX0_begin_33 : decode cX0_begin 33 = .ok (.aload_n 0, 1) := by decide +kernel
theorem dX0_begin_34 : decode cX0_begin 34 = .ok (.iconst 0, 1) := by decide +kernel
theorem dX0_begin_35 : decode cX0_begin 35 = .ok (.putfield 25, 3) := by decide +kernel
theorem dX0_begin_38 : decode cX0_begin 38 = .ok (.aload_n 0, 1) := by decide +kernel
theorem dX0_begin_39 : decode cX0_begin 39 = .ok (.iconst 0, 1) := by decide +kernel
theorem dX0_begin_40 : decode cX0_begin 40 = .ok (.putfield 31, 3) := by decide +kernel
theorem dX0_begin_43 : decode cX0_begin 43 = .ok (.aload_n 0, 1) := by decide +kernel
theorem dX0_begin_44 : decode cX0_begin 44 = .ok (.iconst 0, 1) := by decide +kernel
theorem dX0_begin_45 : decode cX0_begin 45 = .ok (.putfield 34, 3) := by decide +kernel
theorem dX0_begin_48 : decode cX0_begin 48 = .ok (.return_, 1) := by decide +kernel
set_option maxRecDepth 20000 in
theorem ggX0_goThroughBlock_X1_codeAt : GoodIn wsX0_goThroughBlock wsX1_codeAt := goodIn_r _ [11, 12, 35, 36, 37, 38, 39, 40, 41, 42, 43, 44, 45, 46] (by decide +kernel) (by decide +kernel)
set_option maxRecDepth 20000 in
theorem gX0_goThroughBlock_X1_codeAt : GoodIn wsX0_goThroughBlock (wsV RX0 60 RX1 yX1_codeAt wsX1_codeAt) := goodIn_app (goodIn_of _ (by decide +kernel)) ggX0_goThroughBlock_X1_codeAt
set_option maxRecDepth 20000 in
theorem ggX0_goThroughBlock_X0_hold : GoodIn wsX0_goThroughBlock wsX0_hold := goodIn_r _ [17, 18, 4, 19, 3, 26, 27, 28, 29, 30, 31, 32, 33, 34] (by decide +kernel) (by decide +kernel)
set_option maxRecDepth 20000 in
theorem gX0_goThroughBlock_X0_hold : GoodIn wsX0_goThroughBlock (wsV RX0 64 RX0 yX0_hold wsX0_hold) := goodIn_app (goodIn_of _ (by decide +kernel)) ggX0_goThroughBlock_X0_hold
set_option maxRecDepth 20000 in
theorem ggX0_goThroughBlock_X0_letGo : GoodIn wsX0_goThroughBlock wsX0_letGo := goodIn_r _ [23, 1, 24, 25, 3, 19, 4, 26, 27, 28, 29, 30, 31, 32, 33, 34, 35, 36, 37, 38, 39, 40, 41, 42, 43, 44, 45, 46] (by decide +kernel) (by decide +kernel)
set_option maxRecDepth 20000 in
theorem gX0_goThroughBlock_X0_letGo : GoodIn wsX0_goThroughBlock (wsV RX0 52 RX0 yX0_letGo wsX0_letGo) := goodIn_app (goodIn_of _ (by decide +kernel)) ggX0_goThroughBlock_X0_letGo
theorem dX0_goThroughBlock_0 : decode cX0_goThroughBlock 0 = .ok (.iconst 0, 1) := by decide +kernel
theorem dX0_goThroughBlock_1 : decode cX0_goThroughBlock 1 = .ok (.istore_n 2, 1) := by decide +kernel
theorem dX0_goThroughBlock_2 : decode cX0_goThroughBlock 2 = .ok (.iload_n 2, 1) := by decide +kernel
theorem dX0_goThroughBlock_3 : decode cX0_goThroughBlock 3 = .ok (.aload_n 0, 1) := by decide +kernel
theorem dX0_goThroughBlock_4 : decode cX0_goThroughBlock 4 = .ok (.getfield 37, 3) := by decide +kernel
theorem dX0_goThroughBlock_7 : decode cX0_goThroughBlock 7 = .ok (.getfield 55, 3) := by decide +kernel
theorem dX0_goThroughBlock_10 : decode cX0_goThroughBlock 10 = .ok (.iload_n 1, 1) := by decide +kernel
theorem dX0_goThroughBlock_11 : decode cX0_goThroughBlock 11 = .ok (.iaload, 1) := by decide +kernel
theorem dX0_goThroughBlock_12 : decode cX0_goThroughBlock 12 = .ok (.if_icmp .ge 103, 3) := by decide +kernel
theorem dX0_goThroughBlock_15 : decode cX0_goThroughBlock 15 = .ok (.aload_n 0, 1) := by decide +kernel
theorem dX0_goThroughBlock_16 : decode cX0_goThroughBlock 16 = .ok (.getfield 37, 3) := by decide +kernel
theorem dX0_goThroughBlock_19 : decode cX0_goThroughBlock 19 = .ok (.iload_n 1, 1) := by decide +kernel
theorem dX0_goThroughBlock_20 : decode cX0_goThroughBlock 20 = .ok (.iload_n 2, 1) := by decide +kernel
theorem dX0_goThroughBlock_21 : decode cX0_goThroughBlock 21 = .ok (.invokevirtual 60, 3) := by decide +kernel
theorem dX0_goThroughBlock_24 : decode cX0_goThroughBlock 24 = .ok (.istore_n 3, 1) := by decide +kernel
theorem dX0_goThroughBlock_25 : decode cX0_goThroughBlock 25 = .ok (.iload_n 3, 1) := by decide +kernel
theorem dX0_goThroughBlock_26 : decode cX0_goThroughBlock 26 = .ok (.iconst 3, 1) := by decide +kernel
theorem dX0_goThroughBlock_27 : decode cX0_goThroughBlock 27 = .ok (.idiv, 1) := by decide +kernel
theorem dX0_goThroughBlock_28 : decode cX0_goThroughBlock 28 = .ok (.istore 4, 2) := by decide +kernel
theorem dX0_goThroughBlock_30 : decode cX0_goThroughBlock 30 = .ok (.iload_n 3, 1) := by decide +kernel
theorem dX0_goThroughBlock_31 : decode cX0_goThroughBlock 31 = .ok (.iconst 3, 1) := by decide +kernel
theorem dX0_goThroughBlock_32 : decode cX0_goThroughBlock 32 = .ok (.irem, 1) := by decide +kernel
theorem dX0_goThroughBlock_33 : decode cX0_goThroughBlock 33 = .ok (.istore 5, 2) := by decide +kernel
theorem dX0_goThroughBlock_35 : decode cX0_goThroughBlock 35 = .ok (.aload_n 0, 1) := by decide +kernel
theorem dX0_goThroughBlock_36 : decode cX0_goThroughBlock 36 = .ok (.dup, 1) := by decide +kernel
theorem dX0_goThroughBlock_37 : decode cX0_goThroughBlock 37 = .ok (.getfield 31, 3) := by decide +kernel
theorem dX0_goThroughBlock_40 : decode cX0_goThroughBlock 40 = .ok (.iconst 1, 1) := by decide +kernel
theorem dX0_goThroughBlock_41 : decode cX0_goThroughBlock 41 = .ok (.iadd, 1) := by decide +kernel
theorem dX0_goThroughBlock_42 : decode cX0_goThroughBlock 42 = .ok (.putfield 31, 3) := by decide +kernel
theorem dX0_goThroughBlock_45 : decode cX0_goThroughBlock 45 = .ok (.iload 5, 2) := by decide +kernel
theorem dX0_goThroughBlock_47 : decode cX0_goThroughBlock 47 = .ok (.ifCond .ne 12, 3) := by decide +kernel
theorem dX0_goThroughBlock_50 : decode cX0_goThroughBlock 50 = .ok (.aload_n 0, 1) := by decide +kernel
theorem dX0_goThroughBlock_51 : decode cX0_goThroughBlock 51 = .ok (.iload 4, 2) := by decide +kernel
theorem dX0_goThroughBlock_53 : decode cX0_goThroughBlock 53 = .ok (.invokevirtual 64, 3) := by decide +kernel
theorem dX0_goThroughBlock_56 : decode cX0_goThroughBlock 56 = .ok (.goto 53, 3) := by decide +kernel
theorem dX0_goThroughBlock_59 : decode cX0_goThroughBlock 59 = .ok (.iload 5, 2) := by decide +kernel
theorem dX0_goThroughBlock_61 : decode cX0_goThroughBlock 61 = .ok (.iconst 2, 1) := by decide +kernel
theorem dX0_goThroughBlock_62 : decode cX0_goThroughBlock 62 = .ok (.if_icmp .ne 25, 3) := by decide +kernel
theorem dX0_goThroughBlock_65 : decode cX0_goThroughBlock 65 = .ok (.aload_n 0, 1) := by decide +kernel
theorem dX0_goThroughBlock_66 : decode cX0_goThroughBlock 66 = .ok (.aload_n 0, 1) := by decide +kernel
theorem dX0_goThroughBlock_67 : decode cX0_goThroughBlock 67 = .ok (.getfield 25, 3) := by decide +kernel
theorem dX0_goThroughBlock_70 : decode cX0_goThroughBlock 70 = .ok (.aload_n 0, 1) := by decide +kernel
theorem dX0_goThroughBlock_71 : decode cX0_goThroughBlock 71 = .ok (.getfield 37, 3) := by decide +kernel
theorem dX0_goThroughBlock_74 : decode cX0_goThroughBlock 74 = .ok (.getfield 67, 3) := by decide +kernel
theorem dX0_goThroughBlock_77 : decode cX0_goThroughBlock 77 = .ok (.iload 4, 2) := by decide +kernel
theorem dX0_goThroughBlock_79 : decode cX0_goThroughBlock 79 = .ok (.iaload, 1) := by decide +kernel
theorem dX0_goThroughBlock_80 : decode cX0_goThroughBlock 80 = .ok (.iand, 1) := by decide +kernel
theorem dX0_goThroughBlock_81 : decode cX0_goThroughBlock 81 = .ok (.invokevirtual 52, 3) := by decide +kernel
theorem dX0_goThroughBlock_84 : decode cX0_goThroughBlock 84 = .ok (.goto 25, 3) := by decide +kernel
theorem dX0_goThroughBlock_87 : decode cX0_goThroughBlock 87 = .ok (.aload_n 0, 1) := by decide +kernel
theorem dX0_goThroughBlock_88 : decode cX0_goThroughBlock 88 = .ok (.getfield 25, 3) := by decide +kernel
theorem dX0_goThroughBlock_91 : decode cX0_goThroughBlock 91 = .ok (.iload 4, 2) := by decide +kernel
theorem dX0_goThroughBlock_93 : decode cX0_goThroughBlock 93 = .ok (.ishr, 1) := by decide +kernel
theorem dX0_goThroughBlock_94 : decode cX0_goThroughBlock 94 = .ok (.iconst 1, 1) := by decide +kernel
theorem dX0_goThroughBlock_95 : decode cX0_goThroughBlock 95 = .ok (.iand, 1) := by decide +kernel
theorem dX0_goThroughBlock_96 : decode cX0_goThroughBlock 96 = .ok (.ifCond .ne 13, 3) := by decide +kernel
theorem dX0_goThroughBlock_99 : decode cX0_goThroughBlock 99 = .ok (.aload_n 0, 1) := by decide +kernel
theorem dX0_goThroughBlock_100 : decode cX0_goThroughBlock 100 = .ok (.dup, 1) := by decide +kernel
theorem dX0_goThroughBlock_101 : decode cX0_goThroughBlock 101 = .ok (.getfield 18, 3) := by decide +kernel
theorem dX0_goThroughBlock_104 : decode cX0_goThroughBlock 104 = .ok (.iconst 1, 1) := by decide +kernel
theorem dX0_goThroughBlock_105 : decode cX0_goThroughBlock 105 = .ok (.iadd, 1) := by decide +kernel
theorem dX0_goThroughBlock_106 : decode cX0_goThroughBlock 106 = .ok (.putfield 18, 3) := by decide +kernel
theorem dX0_goThroughBlock_109 : decode cX0_goThroughBlock 109 = .ok (.iinc 2 1, 3) := by decide +kernel
theorem dX0_goThroughBlock_112 : decode cX0_goThroughBlock 112 = .ok (.goto (-110), 3) := by decide +kernel
theorem dX0_goThroughBlock_115 : decode cX0_goThroughBlock 115 = .ok (.return_, 1) := by decide +kernel
theorem dX0_hold_0 : decode cX0_hold 0 = .ok (.aload_n 0, 1) := by decide +kernel
theorem dX0_hold_1 : decode cX0_hold 1 = .ok (.getfield 9, 3) := by decide +kernel
theorem dX0_hold_4 : decode cX0_hold 4 = .ok (.iload_n 1, 1) := by decide +kernel
theorem dX0_hold_5 : decode cX0_hold 5 = .ok (.dup2, 1) := by decide +kernel
theorem dX0_hold_6 : decode cX0_hold 6 = .ok (.iaload, 1) := by decide +kernel
theorem dX0_hold_7 : decode cX0_hold 7 = .ok (.iconst 1, 1) := by decide +kernel
theorem dX0_hold_8 : decode cX0_hold 8 = .ok (.iadd, 1) := by decide +kernel
theorem dX0_hold_9 : decode cX0_hold 9 = .ok (.iastore, 1) := by decide +kernel
theorem dX0_hold_10 : decode cX0_hold 10 = .ok (.aload_n 0, 1) := by decide +kernel
theorem dX0_hold_11 : decode cX0_hold 11 = .ok (.getfield 25, 3) := by decide +kernel
theorem dX0_hold_14 : decode cX0_hold 14 = .ok (.iload_n 1, 1) := by decide +kernel
theorem dX0_hold_15 : decode cX0_hold 15 = .ok (.ishr, 1) := by decide +kernel
theorem dX0_hold_16 : decode cX0_hold 16 = .ok (.iconst 1, 1) := by decide +kernel
theorem dX0_hold_17 : decode cX0_hold 17 = .ok (.iand, 1) := by decide +kernel
theorem dX0_hold_18 : decode cX0_hold 18 = .ok (.ifCond .ne 25, 3) := by decide +kernel
theorem dX0_hold_21 : decode cX0_hold 21 = .ok (.aload_n 0, 1) := by decide +kernel
theorem dX0_hold_22 : decode cX0_hold 22 = .ok (.dup, 1) := by decide +kernel
theorem dX0_hold_23 : decode cX0_hold 23 = .ok (.getfield 25, 3) := by decide +kernel
theorem dX0_hold_26 : decode cX0_hold 26 = .ok (.iconst 1, 1) := by decide +kernel
theorem dX0_hold_27 : decode cX0_hold 27 = .ok (.iload_n 1, 1) := by decide +kernel
theorem dX0_hold_28 : decode cX0_hold 28 = .ok (.ishl, 1) := by decide +kernel
theorem dX0_hold_29 : decode cX0_hold 29 = .ok (.ior, 1) := by decide +kernel
theorem dX0_hold_30 : decode cX0_hold 30 = .ok (.putfield 25, 3) := by decide +kernel
theorem dX0_hold_33 : decode cX0_hold 33 = .ok (.aload_n 0, 1) := by decide +kernel
theorem dX0_hold_34 : decode cX0_hold 34 = .ok (.getfield 28, 3) := by decide +kernel
theorem dX0_hold_37 : decode cX0_hold 37 = .ok (.iload_n 1, 1) := by decide +kernel
theorem dX0_hold_38 : decode cX0_hold 38 = .ok (.aload_n 0, 1) := by decide +kernel
theorem dX0_hold_39 : decode cX0_hold 39 = .ok (.getfield 31, 3) := by decide +kernel
theorem dX0_hold_42 : decode cX0_hold 42 = .ok (.iastore, 1) := by decide +kernel
theorem dX0_hold_43 : decode cX0_hold 43 = .ok (.return_, 1) := by decide +kernel
theorem dX0_letGo_0 : decode cX0_letGo 0 = .ok (.iconst 0, 1) := by decide +kernel
theorem dX0_letGo_1 : decode cX0_letGo 1 = .ok (.istore_n 2, 1) := by decide +kernel
theorem dX0_letGo_2 : decode cX0_letGo 2 = .ok (.iload_n 2, 1) := by decide +kernel
theorem dX0_letGo_3 : decode cX0_letGo 3 = .ok (.aload_n 0, 1) := by decide +kernel
theorem dX0_letGo_4 : decode cX0_letGo 4 = .ok (.getfield 37, 3) := by decide +kernel
theorem dX0_letGo_7 : decode cX0_letGo 7 = .ok (.getfield 70, 3) := by decide +kernel
theorem dX0_letGo_10 : decode cX0_letGo 10 = .ok (.if_icmp .ge 37, 3) := by decide +kernel
theorem dX0_letGo_13 : decode cX0_letGo 13 = .ok (.iload_n 1, 1) := by decide +kernel
theorem dX0_letGo_14 : decode cX0_letGo 14 = .ok (.iload_n 2, 1) := by decide +kernel
theorem dX0_letGo_15 : decode cX0_letGo 15 = .ok (.ishr, 1) := by decide +kernel
theorem dX0_letGo_16 : decode cX0_letGo 16 = .ok (.iconst 1, 1) := by decide +kernel
theorem dX0_letGo_17 : decode cX0_letGo 17 = .ok (.iand, 1) := by decide +kernel
theorem dX0_letGo_18 : decode cX0_letGo 18 = .ok (.ifCond .eq 23, 3) := by decide +kernel
theorem dX0_letGo_21 : decode cX0_letGo 21 = .ok (.aload_n 0, 1) := by decide +kernel
theorem dX0_letGo_22 : decode cX0_letGo 22 = .ok (.getfield 15, 3) := by decide +kernel
theorem dX0_letGo_25 : decode cX0_letGo 25 = .ok (.iload_n 2, 1) := by decide +kernel
theorem dX0_letGo_26 : decode cX0_letGo 26 = .ok (.dup2, 1) := by decide +kernel
theorem dX0_letGo_27 : decode cX0_letGo 27 = .ok (.iaload, 1) := by decide +kernel
theorem dX0_letGo_28 : decode cX0_letGo 28 = .ok (.aload_n 0, 1) := by decide +kernel
theorem dX0_letGo_29 : decode cX0_letGo 29 = .ok (.getfield 31, 3) := by decide +kernel
theorem dX0_letGo_32 : decode cX0_letGo 32 = .ok (.aload_n 0, 1) := by decide +kernel
theorem dX0_letGo_33 : decode cX0_letGo 33 = .ok (.getfield 28, 3) := by decide +kernel
theorem dX0_letGo_36 : decode cX0_letGo 36 = .ok (.iload_n 2, 1) := by decide +kernel
theorem dX0_letGo_37 : decode cX0_letGo 37 = .ok (.iaload, 1) := by decide +kernel
theorem dX0_letGo_38 : decode cX0_letGo 38 = .ok (.isub, 1) := by decide +kernel
theorem dX0_letGo_39 : decode cX0_letGo 39 = .ok (.iadd, 1) := by decide +kernel
theorem dX0_letGo_40 : decode cX0_letGo 40 = .ok (.iastore, 1) := by decide +kernel
theorem dX0_letGo_41 : decode cX0_letGo 41 = .ok (.iinc 2 1, 3) := by decide +kernel
theorem dX0_letGo_44 : decode cX0_letGo 44 = .ok (.goto (-42), 3) := by decide +kernel
theorem dX0_letGo_47 : decode cX0_letGo 47 = .ok (.aload_n 0, 1) := by decide +kernel
theorem dX0_letGo_48 : decode cX0_letGo 48 = .ok (.dup, 1) := by decide +kernel
theorem dX0_letGo_49 : decode cX0_letGo 49 = .ok (.getfield 25, 3) := by decide +kernel
theorem dX0_letGo_52 : decode cX0_letGo 52 = .ok (.iload_n 1, 1) := by decide +kernel
theorem dX0_letGo_53 : decode cX0_letGo 53 = .ok (.iconst (-1), 1) := by decide +kernel
theorem dX0_letGo_54 : decode cX0_letGo 54 = .ok (.ixor, 1) := by decide +kernel
theorem dX0_letGo_55 : decode cX0_letGo 55 = .ok (.iand, 1) := by decide +kernel
theorem dX0_letGo_56 : decode cX0_letGo 56 = .ok (.putfield 25, 3) := by decide +kernel
theorem dX0_letGo_59 : decode cX0_letGo 59 = .ok (.return_, 1) := by decide +kernel
theorem dX0_blockBehind_0 : decode cX0_blockBehind 0 = .ok (.aload_n 0, 1) := by decide +kernel
theorem dX0_blockBehind_1 : decode cX0_blockBehind 1 = .ok (.getfield 37, 3) := by decide +kernel
theorem dX0_blockBehind_4 : decode cX0_blockBehind 4 = .ok (.getfield 73, 3) := by decide +kernel
theorem dX0_blockBehind_7 : decode cX0_blockBehind 7 = .ok (.iload_n 1, 1) := by decide +kernel
theorem dX0_blockBehind_8 : decode cX0_blockBehind 8 = .ok (.iaload, 1) := by decide +kernel
theorem dX0_blockBehind_9 : decode cX0_blockBehind 9 = .ok (.istore 4, 2) := by decide +kernel
theorem dX0_blockBehind_11 : decode cX0_blockBehind 11 = .ok (.aload_n 0, 1) := by decide +kernel
theorem dX0_blockBehind_12 : decode cX0_blockBehind 12 = .ok (.getfield 37, 3) := by decide +kernel
theorem dX0_blockBehind_15 : decode cX0_blockBehind 15 = .ok (.getfield 76, 3) := by decide +kernel
theorem dX0_blockBehind_18 : decode cX0_blockBehind 18 = .ok (.iload_n 1, 1) := by decide +kernel
theorem dX0_blockBehind_19 : decode cX0_blockBehind 19 = .ok (.iaload, 1) := by decide +kernel
theorem dX0_blockBehind_20 : decode cX0_blockBehind 20 = .ok (.iconst (-1), 1) := by decide +kernel
theorem dX0_blockBehind_21 : decode cX0_blockBehind 21 = .ok (.if_icmp .eq 40, 3) := by decide +kernel
theorem dX0_blockBehind_24 : decode cX0_blockBehind 24 = .ok (.lload_n 2, 1) := by decide +kernel
theorem dX0_blockBehind_25 : decode cX0_blockBehind 25 = .ok (.aload_n 0, 1) := by decide +kernel
theorem dX0_blockBehind_26 : decode cX0_blockBehind 26 = .ok (.getfield 34, 3) := by decide +kernel
theorem dX0_blockBehind_29 : decode cX0_blockBehind 29 = .ok (.bipush 63, 2) := by decide +kernel
theorem dX0_blockBehind_31 : decode cX0_blockBehind 31 = .ok (.iand, 1) := by decide +kernel
theorem dX0_blockBehind_32 : decode cX0_blockBehind 32 = .ok (.lushr, 1) := by decide +kernel
theorem dX0_blockBehind_33 : decode cX0_blockBehind 33 = .ok (.lconst 1, 1) := by decide +kernel
theorem dX0_blockBehind_34 : decode cX0_blockBehind 34 = .ok (.land, 1) := by decide +kernel
theorem dX0_blockBehind_35 : decode cX0_blockBehind 35 = .ok (.lconst 0, 1) := by decide +kernel
theorem dX0_blockBehind_36 : decode cX0_blockBehind 36 = .ok (.lcmp, 1) := by decide +kernel
theorem dX0_blockBehind_37 : decode cX0_blockBehind 37 = .ok (.ifCond .eq 14, 3) := by decide +kernel
theorem dX0_blockBehind_40 : decode cX0_blockBehind 40 = .ok (.aload_n 0, 1) := by decide +kernel
theorem dX0_blockBehind_41 : decode cX0_blockBehind 41 = .ok (.getfield 37, 3) := by decide +kernel
theorem dX0_blockBehind_44 : decode cX0_blockBehind 44 = .ok (.getfield 76, 3) := by decide +kernel
theorem dX0_blockBehind_47 : decode cX0_blockBehind 47 = .ok (.iload_n 1, 1) := by decide +kernel
theorem dX0_blockBehind_48 : decode cX0_blockBehind 48 = .ok (.iaload, 1) := by decide +kernel
theorem dX0_blockBehind_49 : decode cX0_blockBehind 49 = .ok (.istore 4, 2) := by decide +kernel
theorem dX0_blockBehind_51 : decode cX0_blockBehind 51 = .ok (.aload_n 0, 1) := by decide +kernel
theorem dX0_blockBehind_52 : decode cX0_blockBehind 52 = .ok (.dup, 1) := by decide +kernel
theorem dX0_blockBehind_53 : decode cX0_blockBehind 53 = .ok (.getfield 34, 3) := by decide +kernel
theorem dX0_blockBehind_56 : decode cX0_blockBehind 56 = .ok (.iconst 1, 1) := by decide +kernel
theorem dX0_blockBehind_57 : decode cX0_blockBehind 57 = .ok (.iadd, 1) := by decide +kernel
theorem dX0_blockBehind_58 : decode cX0_blockBehind 58 = .ok (.putfield 34, 3) := by decide +kernel
theorem dX0_blockBehind_61 : decode cX0_blockBehind 61 = .ok (.iload 4, 2) := by decide +kernel
theorem dX0_blockBehind_63 : decode cX0_blockBehind 63 = .ok (.iconst (-1), 1) := by decide +kernel
theorem dX0_blockBehind_64 : decode cX0_blockBehind 64 = .ok (.if_icmp .ne 7, 3) := by decide +kernel
theorem dX0_blockBehind_67 : decode cX0_blockBehind 67 = .ok (.iconst (-1), 1) := by decide +kernel
theorem dX0_blockBehind_68 : decode cX0_blockBehind 68 = .ok (.goto 13, 3) := by decide +kernel
theorem dX0_blockBehind_71 : decode cX0_blockBehind 71 = .ok (.aload_n 0, 1) := by decide +kernel
theorem dX0_blockBehind_72 : decode cX0_blockBehind 72 = .ok (.getfield 37, 3) := by decide +kernel
theorem dX0_blockBehind_75 : decode cX0_blockBehind 75 = .ok (.getfield 79, 3) := by decide +kernel
theorem dX0_blockBehind_78 : decode cX0_blockBehind 78 = .ok (.iload 4, 2) := by decide +kernel
theorem dX0_blockBehind_80 : decode cX0_blockBehind 80 = .ok (.iaload, 1) := by decide +kernel
theorem dX0_blockBehind_81 : decode cX0_blockBehind 81 = .ok (.ireturn, 1) := by decide +kernel
theorem dX1_init_0 : decode cX1_init 0 = .ok (.aload_n 0, 1) := by decide +kernel
theorem dX1_init_1 : decode cX1_init 1 = .ok (.invokespecial 3, 3) := by decide +kernel
theorem dX1_init_4 : decode cX1_init 4 = .ok (.aload_n 0, 1) := by decide +kernel
theorem dX1_init_5 : decode cX1_init 5 = .ok (.iconst 0, 1) := by decide +kernel
theorem dX1_init_6 : decode cX1_init 6 = .ok (.putfield 9, 3) := by decide +kernel
theorem dX1_init_9 : decode cX1_init 9 = .ok (.aload_n 0, 1) := by decide +kernel
theorem dX1_init_10 : decode cX1_init 10 = .ok (.bipush 8, 2) := by decide +kernel
theorem dX1_init_12 : decode cX1_init 12 = .ok (.newarray .int, 2) := by decide +kernel
theorem dX1_init_14 : decode cX1_init 14 = .ok (.putfield 15, 3) := by decide +kernel
theorem dX1_init_17 : decode cX1_init 17 = .ok (.aload_n 0, 1) := by decide +kernel
theorem dX1_init_18 : decode cX1_init 18 = .ok (.bipush 6, 2) := by decide +kernel
theorem dX1_init_20 : decode cX1_init 20 = .ok (.newarray .int, 2) := by decide +kernel
theorem dX1_init_22 : decode cX1_init 22 = .ok (.putfield 19, 3) := by decide +kernel
theorem dX1_init_25 : decode cX1_init 25 = .ok (.aload_n 0, 1) := by decide +kernel
theorem dX1_init_26 : decode cX1_init 26 = .ok (.iconst 1, 1) := by decide +kernel
theorem dX1_init_27 : decode cX1_init 27 = .ok (.putfield 22, 3) := by decide +kernel
theorem dX1_init_30 : decode cX1_init 30 = .ok (.aload_n 0, 1) := by decide +kernel
theorem dX1_init_31 : decode cX1_init 31 = .ok (.bipush 40, 2) := by decide +kernel
theorem dX1_init_33 : decode cX1_init 33 = .ok (.newarray .int, 2) := by decide +kernel
theorem dX1_init_35 : decode cX1_init 35 = .ok (.putfield 25, 3) := by decide +kernel
theorem dX1_init_38 : decode cX1_init 38 = .ok (.aload_n 0, 1) := by decide +kernel
theorem dX1_init_39 : decode cX1_init 39 = .ok (.sipush 480, 3) := by decide +kernel
theorem dX1_init_42 : decode cX1_init 42 = .ok (.newarray .int, 2) := by decide +kernel
theorem dX1_init_44 : decode cX1_init 44 = .ok (.putfield 28, 3) := by decide +kernel
theorem dX1_init_47 : decode cX1_init 47 = .ok (.aload_n 0, 1) := by decide +kernel
theorem dX1_init_48 : decode cX1_init 48 = .ok (.iconst 0, 1) := by decide +kernel
theorem dX1_init_49 : decode cX1_init 49 = .ok (.putfield 31, 3) := by decide +kernel
theorem dX1_init_52 : decode cX1_init 52 = .ok (.aload_n 0, 1) := by decide +kernel
theorem dX1_init_53 : decode cX1_init 53 = .ok (.bipush 80, 2) := by decide +kernel
theorem dX1_init_55 : decode cX1_init 55 = .ok (.newarray .int, 2) := by decide +kernel
theorem dX1_init_57 : decode cX1_init 57 = .ok (.putfield 34, 3) := by decide +kernel
theorem dX1_init_60 : decode cX1_init 60 = .ok (.aload_n 0, 1) := by decide +kernel
theorem dX1_init_61 : decode cX1_init 61 = .ok (.bipush 80, 2) := by decide +kernel
theorem dX1_init_63 : decode cX1_init 63 = .ok (.newarray .int, 2) := by decide +kernel
theorem dX1_init_65 : decode cX1_init 65 = .ok (.putfield 37, 3) := by decide +kernel
theorem dX1_init_68 : decode cX1_init 68 = .ok (.aload_n 0, 1) := by decide +kernel
theorem dX1_init_69 : decode cX1_init 69 = .ok (.bipush 40, 2) := by decide +kernel
theorem dX1_init_71 : decode cX1_init 71 = .ok (.newarray .int, 2) := by decide +kernel
theorem dX1_init_73 : decode cX1_init 73 = .ok (.putfield 40, 3) := by decide +kernel
theorem dX1_init_76 : decode cX1_init 76 = .ok (.aload_n 0, 1) := by decide +kernel
theorem dX1_init_77 : decode cX1_init 77 = .ok (.bipush 40, 2) := by decide +kernel
theorem dX1_init_79 : decode cX1_init 79 = .ok (.newarray .int, 2) := by decide +kernel
theorem dX1_init_81 : decode cX1_init 81 = .ok (.putfield 43, 3) := by decide +kernel
theorem dX1_init_84 : decode cX1_init 84 = .ok (.aload_n 0, 1) := by decide +kernel
theorem dX1_init_85 : decode cX1_init 85 = .ok (.iconst 1, 1) := by decide +kernel
theorem dX1_init_86 : decode cX1_init 86 = .ok (.putfield 46, 3) := by decide +kernel
theorem dX1_init_89 : decode cX1_init 89 = .ok (.iconst 0, 1) := by decide +kernel
theorem dX1_init_90 : decode cX1_init 90 = .ok (.istore_n 1, 1) := by decide +kernel
theorem dX1_init_91 : decode cX1_init 91 = .ok (.iload_n 1, 1) := by decide +kernel
theorem dX1_init_92 : decode cX1_init 92 = .ok (.bipush 40, 2) := by decide +kernel
theorem dX1_init_94 : decode cX1_init 94 = .ok (.if_icmp .ge 23, 3) := by decide +kernel
theorem dX1_init_97 : decode cX1_init 97 = .ok (.aload_n 0, 1) := by decide +kernel
theorem dX1_init_98 : decode cX1_init 98 = .ok (.getfield 40, 3) := by decide +kernel
theorem dX1_init_101 : decode cX1_init 101 = .ok (.iload_n 1, 1) := by decide +kernel
theorem dX1_init_102 : decode cX1_init 102 = .ok (.iconst (-1), 1) := by decide +kernel
theorem dX1_init_103 : decode cX1_init 103 = .ok (.iastore, 1) := by decide +kernel
theorem dX1_init_104 : decode cX1_init 104 = .ok (.aload_n 0, 1) := by decide +kernel
theorem dX1_init_105 : decode cX1_init 105 = .ok (.getfield 43, 3) := by decide +kernel
theorem dX1_init_108 : decode cX1_init 108 = .ok (.iload_n 1, 1) := by decide +kernel
theorem dX1_init_109 : decode cX1_init 109 = .ok (.iconst (-1), 1) := by decide +kernel
theorem dX1_init_110 : decode cX1_init 110 = .ok (.iastore, 1) := by decide +kernel
theorem dX1_init_111 : decode cX1_init 111 = .ok (.iinc 1 1, 3) := by decide +kernel
theorem dX1_init_114 : decode cX1_init 114 = .ok (.goto (-23), 3) := by decide +kernel
theorem dX1_init_117 : decode cX1_init 117 = .ok (.return_, 1) := by decide +kernel
theorem dX1_allExpressions_0 : decode cX1_allExpressions 0 = .ok (.iconst 1, 1) := by decide +kernel
theorem dX1_allExpressions_1 : decode cX1_allExpressions 1 = .ok (.aload_n 0, 1) := by decide +kernel
theorem dX1_allExpressions_2 : decode cX1_allExpressions 2 = .ok (.getfield 9, 3) := by decide +kernel
theorem dX1_allExpressions_5 : decode cX1_allExpressions 5 = .ok (.ishl, 1) := by decide +kernel
theorem dX1_allExpressions_6 : decode cX1_allExpressions 6 = .ok (.iconst 1, 1) := by decide +kernel
theorem dX1_allExpressions_7 : decode cX1_allExpressions 7 = .ok (.isub, 1) := by decide +kernel
theorem dX1_allExpressions_8 : decode cX1_allExpressions 8 = .ok (.ireturn, 1) := by decide +kernel
theorem dX1_newExpression_0 : decode cX1_newExpression 0 = .ok (.aload_n 0, 1) := by decide +kernel
theorem dX1_newExpression_1 : decode cX1_newExpression 1 = .ok (.getfield 9, 3) := by decide +kernel
theorem dX1_newExpression_4 : decode cX1_newExpression 4 = .ok (.istore_n 2, 1) := by decide +kernel
theorem dX1_newExpression_5 : decode cX1_newExpression 5 = .ok (.aload_n 0, 1) := by decide +kernel
theorem dX1_newExpression_6 : decode cX1_newExpression 6 = .ok (.getfield 15, 3) := by decide +kernel
theorem dX1_newExpression_9 : decode cX1_newExpression 9 = .ok (.iload_n 2, 1) := by decide +kernel
theorem dX1_newExpression_10 : decode cX1_newExpression 10 = .ok (.iload_n 1, 1) := by decide +kernel
theorem dX1_newExpression_11 : decode cX1_newExpression 11 = .ok (.iastore, 1) := by decide +kernel
theorem dX1_newExpression_12 : decode cX1_newExpression 12 = .ok (.iconst 0, 1) := by decide +kernel
theorem dX1_newExpression_13 : decode cX1_newExpression 13 = .ok (.istore_n 3, 1) := by decide +kernel
theorem dX1_newExpression_14 : decode cX1_newExpression 14 = .ok (.iload_n 3, 1) := by decide +kernel
theorem dX1_newExpression_15 : decode cX1_newExpression 15 = .ok (.bipush 6, 2) := by decide +kernel
theorem dX1_newExpression_17 : decode cX1_newExpression 17 = .ok (.if_icmp .ge 29, 3) := by decide +kernel
theorem dX1_newExpression_20 : decode cX1_newExpression 20 = .ok (.iload_n 1, 1) := by decide +kernel
theorem dX1_newExpression_21 : decode cX1_newExpression 21 = .ok (.iload_n 3, 1) := by decide +kernel
theorem dX1_newExpression_22 : decode cX1_newExpression 22 = .ok (.ishr, 1) := by decide +kernel
theorem dX1_newExpression_23 : decode cX1_newExpression 23 = .ok (.iconst 1, 1) := by decide +kernel
theorem dX1_newExpression_24 : decode cX1_newExpression 24 = .ok (.iand, 1) := by decide +kernel
theorem dX1_newExpression_25 : decode cX1_newExpression 25 = .ok (.ifCond .eq 15, 3) := by decide +kernel
theorem dX1_newExpression_28 : decode cX1_newExpression 28 = .ok (.aload_n 0, 1) := by decide +kernel
theorem dX1_newExpression_29 : decode cX1_newExpression 29 = .ok (.getfield 19, 3) := by decide +kernel
theorem dX1_newExpression_32 : decode cX1_newExpression 32 = .ok (.iload_n 3, 1) := by decide +kernel
theorem dX1_newExpression_33 : decode cX1_newExpression 33 = .ok (.dup2, 1) := by decide +kernel
theorem dX1_newExpression_34 : decode cX1_newExpression 34 = .ok (.iaload, 1) := by decide +kernel
theorem dX1_newExpression_35 : decode cX1_newExpression 35 = .ok (.iconst 1, 1) := by decide +kernel
theorem dX1_newExpression_36 : decode cX1_newExpression 36 = .ok (.iload_n 2, 1) := by decide +kernel
theorem dX1_newExpression_37 : decode cX1_newExpression 37 = .ok (.ishl, 1) := by decide +kernel
theorem dX1_newExpression_38 : decode cX1_newExpression 38 = .ok (.ior, 1) := by decide +kernel
theorem dX1_newExpression_39 : decode cX1_newExpression 39 = .ok (.iastore, 1) := by decide +kernel
theorem dX1_newExpression_40 : decode cX1_newExpression 40 = .ok (.iinc 3 1, 3) := by decide +kernel
theorem dX1_newExpression_43 : decode cX1_newExpression 43 = .ok (.goto (-29), 3) := by decide +kernel
theorem dX1_newExpression_46 : decode cX1_newExpression 46 = .ok (.aload_n 0, 1) := by decide +kernel
theorem dX1_newExpression_47 : decode cX1_newExpression 47 = .ok (.dup, 1) := by decide +kernel
theorem dX1_newExpression_48 : decode cX1_newExpression 48 = .ok (.getfield 9, 3) := by decide +kernel
theorem dX1_newExpression_51 : decode cX1_newExpression 51 = .ok (.iconst 1, 1) := by decide +kernel
theorem dX1_newExpression_52 : decode cX1_newExpression 52 = .ok (.iadd, 1) := by decide +kernel
theorem dX1_newExpression_53 : decode cX1_newExpression 53 = .ok (.putfield 9, 3) := by decide +kernel
theorem dX1_newExpression_56 : decode cX1_newExpression 56 = .ok (.aload_n 0, 1) := by decide +kernel
theorem dX1_newExpression_57 : decode cX1_newExpression 57 = .ok (.iconst 1, 1) := by decide +kernel
theorem dX1_newExpression_58 : decode cX1_newExpression 58 = .ok (.putfield 46, 3) := by decide +kernel
theorem dX1_newExpression_61 : decode cX1_newExpression 61 = .ok (.iload_n 2, 1) := by decide +kernel
theorem dX1_newExpression_62 : decode cX1_newExpression 62 = .ok (.ireturn, 1) := by decide +kernel
theorem dX1_newBlock_0 : decode cX1_newBlock 0 = .ok (.aload_n 0, 1) := by decide +kernel
theorem dX1_newBlock_1 : decode cX1_newBlock 1 = .ok (.getfield 22, 3) := by decide +kernel
theorem dX1_newBlock_4 : decode cX1_newBlock 4 = .ok (.istore_n 1, 1) := by decide +kernel
theorem dX1_newBlock_5 : decode cX1_newBlock 5 = .ok (.aload_n 0, 1) := by decide +kernel
theorem dX1_newBlock_6 : decode cX1_newBlock 6 = .ok (.dup, 1) := by decide +kernel
theorem dX1_newBlock_7 : decode cX1_newBlock 7 = .ok (.getfield 22, 3) := by decide +kernel
theorem dX1_newBlock_10 : decode cX1_newBlock 10 = .ok (.iconst 1, 1) := by decide +kernel
theorem dX1_newBlock_11 : decode cX1_newBlock 11 = .ok (.iadd, 1) := by decide +kernel
theorem dX1_newBlock_12 : decode cX1_newBlock 12 = .ok (.putfield 22, 3) := by decide +kernel
theorem dX1_newBlock_15 : decode cX1_newBlock 15 = .ok (.aload_n 0, 1) := by decide +kernel
theorem dX1_newBlock_16 : decode cX1_newBlock 16 = .ok (.iconst 1, 1) := by decide +kernel
theorem dX1_newBlock_17 : decode cX1_newBlock 17 = .ok (.putfield 46, 3) := by decide +kernel
theorem dX1_newBlock_20 : decode cX1_newBlock 20 = .ok (.iload_n 1, 1) := by decide +kernel
theorem dX1_newBlock_21 : decode cX1_newBlock 21 = .ok (.ireturn, 1) := by decide +kernel
theorem dX1_hasEdge_0 : decode cX1_hasEdge 0 = .ok (.aload_n 0, 1) := by decide +kernel
theorem dX1_hasEdge_1 : decode cX1_hasEdge 1 = .ok (.getfield 40, 3) := by decide +kernel
theorem dX1_hasEdge_4 : decode cX1_hasEdge 4 = .ok (.iload_n 1, 1) := by decide +kernel
theorem dX1_hasEdge_5 : decode cX1_hasEdge 5 = .ok (.iaload, 1) := by decide +kernel
theorem dX1_hasEdge_6 : decode cX1_hasEdge 6 = .ok (.istore_n 3, 1) := by decide +kernel
theorem dX1_hasEdge_7 : decode cX1_hasEdge 7 = .ok (.aload_n 0, 1) := by decide +kernel
theorem dX1_hasEdge_8 : decode cX1_hasEdge 8 = .ok (.getfield 43, 3) := by decide +kernel
theorem dX1_hasEdge_11 : decode cX1_hasEdge 11 = .ok (.iload_n 1, 1) := by decide +kernel
theorem dX1_hasEdge_12 : decode cX1_hasEdge 12 = .ok (.iaload, 1) := by decide +kernel
theorem dX1_hasEdge_13 : decode cX1_hasEdge 13 = .ok (.istore 4, 2) := by decide +kernel
theorem dX1_hasEdge_15 : decode cX1_hasEdge 15 = .ok (.iload_n 3, 1) := by decide +kernel
theorem dX1_hasEdge_16 : decode cX1_hasEdge 16 = .ok (.iconst (-1), 1) := by decide +kernel
theorem dX1_hasEdge_17 : decode cX1_hasEdge 17 = .ok (.if_icmp .eq 13, 3) := by decide +kernel
theorem dX1_hasEdge_20 : decode cX1_hasEdge 20 = .ok (.aload_n 0, 1) := by decide +kernel
theorem dX1_hasEdge_21 : decode cX1_hasEdge 21 = .ok (.getfield 37, 3) := by decide +kernel
theorem dX1_hasEdge_24 : decode cX1_hasEdge 24 = .ok (.iload_n 3, 1) := by decide +kernel
theorem dX1_hasEdge_25 : decode cX1_hasEdge 25 = .ok (.iaload, 1) := by decide +kernel
theorem dX1_hasEdge_26 : decode cX1_hasEdge 26 = .ok (.iload_n 2, 1) := by decide +kernel
theorem dX1_hasEdge_27 : decode cX1_hasEdge 27 = .ok (.if_icmp .eq 20, 3) := by decide +kernel
theorem dX1_hasEdge_30 : decode cX1_hasEdge 30 = .ok (.iload 4, 2) := by decide +kernel
theorem dX1_hasEdge_32 : decode cX1_hasEdge 32 = .ok (.iconst (-1), 1) := by decide +kernel
theorem dX1_hasEdge_33 : decode cX1_hasEdge 33 = .ok (.if_icmp .eq 18, 3) := by decide +kernel
theorem dX1_hasEdge_36 : decode cX1_hasEdge 36 = .ok (.aload_n 0, 1) := by decide +kernel
theorem dX1_hasEdge_37 : decode cX1_hasEdge 37 = .ok (.getfield 37, 3) := by decide +kernel
theorem dX1_hasEdge_40 : decode cX1_hasEdge 40 = .ok (.iload 4, 2) := by decide +kernel
theorem dX1_hasEdge_42 : decode cX1_hasEdge 42 = .ok (.iaload, 1) := by decide +kernel
theorem dX1_hasEdge_43 : decode cX1_hasEdge 43 = .ok (.iload_n 2, 1) := by decide +kernel
theorem dX1_hasEdge_44 : decode cX1_hasEdge 44 = .ok (.if_icmp .ne 7, 3) := by decide +kernel
theorem dX1_hasEdge_47 : decode cX1_hasEdge 47 = .ok (.iconst 1, 1) := by decide +kernel
theorem dX1_hasEdge_48 : decode cX1_hasEdge 48 = .ok (.goto 4, 3) := by decide +kernel
theorem dX1_hasEdge_51 : decode cX1_hasEdge 51 = .ok (.iconst 0, 1) := by decide +kernel
theorem dX1_hasEdge_52 : decode cX1_hasEdge 52 = .ok (.ireturn, 1) := by decide +kernel
theorem dX1_newEdge_0 : decode cX1_newEdge 0 = .ok (.aload_n 0, 1) := by decide +kernel
theorem dX1_newEdge_1 : decode cX1_newEdge 1 = .ok (.getfield 31, 3) := by decide +kernel
theorem dX1_newEdge_4 : decode cX1_newEdge 4 = .ok (.istore_n 3, 1) := by decide +kernel
theorem dX1_newEdge_5 : decode cX1_newEdge 5 = .ok (.aload_n 0, 1) := by decide +kernel
theorem dX1_newEdge_6 : decode cX1_newEdge 6 = .ok (.getfield 34, 3) := by decide +kernel
theorem dX1_newEdge_9 : decode cX1_newEdge 9 = .ok (.iload_n 3, 1) := by decide +kernel
theorem dX1_newEdge_10 : decode cX1_newEdge 10 = .ok (.iload_n 1, 1) := by decide +kernel
theorem dX1_newEdge_11 : decode cX1_newEdge 11 = .ok (.iastore, 1) := by decide +kernel
theorem dX1_newEdge_12 : decode cX1_newEdge 12 = .ok (.aload_n 0, 1) := by decide +kernel
theorem dX1_newEdge_13 : decode cX1_newEdge 13 = .ok (.getfield 37, 3) := by decide +kernel
theorem dX1_newEdge_16 : decode cX1_newEdge 16 = .ok (.iload_n 3, 1) := by decide +kernel
theorem dX1_newEdge_17 : decode cX1_newEdge 17 = .ok (.iload_n 2, 1) := by decide +kernel
theorem dX1_newEdge_18 : decode cX1_newEdge 18 = .ok (.iastore, 1) := by decide +kernel
theorem dX1_newEdge_19 : decode cX1_newEdge 19 = .ok (.aload_n 0, 1) := by decide +kernel
theorem dX1_newEdge_20 : decode cX1_newEdge 20 = .ok (.getfield 40, 3) := by decide +kernel
theorem dX1_newEdge_23 : decode cX1_newEdge 23 = .ok (.iload_n 1, 1) := by decide +kernel
theorem dX1_newEdge_24 : decode cX1_newEdge 24 = .ok (.iaload, 1) := by decide +kernel
theorem dX1_newEdge_25 : decode cX1_newEdge 25 = .ok (.iconst (-1), 1) := by decide +kernel
theorem dX1_newEdge_26 : decode cX1_newEdge 26 = .ok (.if_icmp .ne 13, 3) := by decide +kernel
theorem dX1_newEdge_29 : decode cX1_newEdge 29 = .ok (.aload_n 0, 1) := by decide +kernel
theorem dX1_newEdge_30 : decode cX1_newEdge 30 = .ok (.getfield 40, 3) := by decide +kernel
theorem dX1_newEdge_33 : decode cX1_newEdge 33 = .ok (.iload_n 1, 1) := by decide +kernel
theorem dX1_newEdge_34 : decode cX1_newEdge 34 = .ok (.iload_n 3, 1) := by decide +kernel
theorem dX1_newEdge_35 : decode cX1_newEdge 35 = .ok (.iastore, 1) := by decide +kernel
theorem dX1_newEdge_36 : decode cX1_newEdge 36 = .ok (.goto 10, 3) := by decide +kernel
theorem dX1_newEdge_39 : decode cX1_newEdge 39 = .ok (.aload_n 0, 1) := by decide +kernel
theorem dX1_newEdge_40 : decode cX1_newEdge 40 = .ok (.getfield 43, 3) := by decide +kernel
theorem dX1_newEdge_43 : decode cX1_newEdge 43 = .ok (.iload_n 1, 1) := by decide +kernel
theorem dX1_newEdge_44 : decode cX1_newEdge 44 = .ok (.iload_n 3, 1) := by decide +kernel
theorem dX1_newEdge_45 : decode cX1_newEdge 45 = .ok (.iastore, 1) := by decide +kernel
theorem dX1_newEdge_46 : decode cX1_newEdge 46 = .ok (.aload_n 0, 1) := by decide +kernel
theorem dX1_newEdge_47 : decode cX1_newEdge 47 = .ok (.dup, 1) := by decide +kernel
theorem dX1_newEdge_48 : decode cX1_newEdge 48 = .ok (.getfield 31, 3) := by decide +kernel
theorem dX1_newEdge_51 : decode cX1_newEdge 51 = .ok (.iconst 1, 1) := by decide +kernel
theorem dX1_newEdge_52 : decode cX1_newEdge 52 = .ok (.iadd, 1) := by decide +kernel
theorem dX1_newEdge_53 : decode cX1_newEdge 53 = .ok (.putfield 31, 3) := by decide +kernel
theorem dX1_newEdge_56 : decode cX1_newEdge 56 = .ok (.aload_n 0, 1) := by decide +kernel
theorem dX1_newEdge_57 : decode cX1_newEdge 57 = .ok (.iconst 1, 1) := by decide +kernel
theorem dX1_newEdge_58 : decode cX1_newEdge 58 = .ok (.putfield 46, 3) := by decide +kernel
theorem dX1_newEdge_61 : decode cX1_newEdge 61 = .ok (.iload_n 3, 1) := by decide +kernel
theorem dX1_newEdge_62 : decode cX1_newEdge 62 = .ok (.ireturn, 1) := by decide +kernel
theorem dX1_endsOf_0 : decode cX1_endsOf 0 = .ok (.bipush 40, 2) := by decide +kernel
theorem dX1_endsOf_2 : decode cX1_endsOf 2 = .ok (.aload_n 0, 1) := by decide +kernel
theorem dX1_endsOf_3 : decode cX1_endsOf 3 = .ok (.getfield 34, 3) := by decide +kernel
theorem dX1_endsOf_6 : decode cX1_endsOf 6 = .ok (.iload_n 1, 1) := by decide +kernel
theorem dX1_endsOf_7 : decode cX1_endsOf 7 = .ok (.iaload, 1) := by decide +kernel
theorem dX1_endsOf_8 : decode cX1_endsOf 8 = .ok (.imul, 1) := by decide +kernel
theorem dX1_endsOf_9 : decode cX1_endsOf 9 = .ok (.aload_n 0, 1) := by decide +kernel
theorem dX1_endsOf_10 : decode cX1_endsOf 10 = .ok (.getfield 37, 3) := by decide +kernel
theorem dX1_endsOf_13 : decode cX1_endsOf 13 = .ok (.iload_n 1, 1) := by decide +kernel
theorem dX1_endsOf_14 : decode cX1_endsOf 14 = .ok (.iaload, 1) := by decide +kernel
theorem dX1_endsOf_15 : decode cX1_endsOf 15 = .ok (.iadd, 1) := by decide +kernel
theorem dX1_endsOf_16 : decode cX1_endsOf 16 = .ok (.ireturn, 1) := by decide +kernel
theorem dX1_codeAt_0 : decode cX1_codeAt 0 = .ok (.aload_n 0, 1) := by decide +kernel
theorem dX1_codeAt_1 : decode cX1_codeAt 1 = .ok (.getfield 28, 3) := by decide +kernel
theorem dX1_codeAt_4 : decode cX1_codeAt 4 = .ok (.iload_n 1, 1) := by decide +kernel
theorem dX1_codeAt_5 : decode cX1_codeAt 5 = .ok (.bipush 12, 2) := by decide +kernel
theorem dX1_codeAt_7 : decode cX1_codeAt 7 = .ok (.imul, 1) := by decide +kernel
theorem dX1_codeAt_8 : decode cX1_codeAt 8 = .ok (.iload_n 2, 1) := by decide +kernel
theorem dX1_codeAt_9 : decode cX1_codeAt 9 = .ok (.iadd, 1) := by decide +kernel
theorem dX1_codeAt_10 : decode cX1_codeAt 10 = .ok (.iaload, 1) := by decide +kernel
theorem dX1_codeAt_11 : decode cX1_codeAt 11 = .ok (.ireturn, 1) := by decide +kernel
theorem dX1_append_0 : decode cX1_append 0 = .ok (.aload_n 0, 1) := by decide +kernel
theorem dX1_append_1 : decode cX1_append 1 = .ok (.getfield 28, 3) := by decide +kernel
theorem dX1_append_4 : decode cX1_append 4 = .ok (.iload_n 1, 1) := by decide +kernel
theorem dX1_append_5 : decode cX1_append 5 = .ok (.bipush 12, 2) := by decide +kernel
theorem dX1_append_7 : decode cX1_append 7 = .ok (.imul, 1) := by decide +kernel
theorem dX1_append_8 : decode cX1_append 8 = .ok (.aload_n 0, 1) := by decide +kernel
theorem dX1_append_9 : decode cX1_append 9 = .ok (.getfield 25, 3) := by decide +kernel
theorem dX1_append_12 : decode cX1_append 12 = .ok (.iload_n 1, 1) := by decide +kernel
theorem dX1_append_13 : decode cX1_append 13 = .ok (.iaload, 1) := by decide +kernel
theorem dX1_append_14 : decode cX1_append 14 = .ok (.iadd, 1) := by decide +kernel
theorem dX1_append_15 : decode cX1_append 15 = .ok (.iconst 3, 1) := by decide +kernel
theorem dX1_append_16 : decode cX1_append 16 = .ok (.iload_n 3, 1) := by decide +kernel
theorem dX1_append_17 : decode cX1_append 17 = .ok (.imul, 1) := by decide +kernel
theorem dX1_append_18 : decode cX1_append 18 = .ok (.iload_n 2, 1) := by decide +kernel
theorem dX1_append_19 : decode cX1_append 19 = .ok (.iadd, 1) := by decide +kernel
theorem dX1_append_20 : decode cX1_append 20 = .ok (.iastore, 1) := by decide +kernel
theorem dX1_append_21 : decode cX1_append 21 = .ok (.aload_n 0, 1) := by decide +kernel
theorem dX1_append_22 : decode cX1_append 22 = .ok (.getfield 25, 3) := by decide +kernel
theorem dX1_append_25 : decode cX1_append 25 = .ok (.iload_n 1, 1) := by decide +kernel
theorem dX1_append_26 : decode cX1_append 26 = .ok (.dup2, 1) := by decide +kernel
theorem dX1_append_27 : decode cX1_append 27 = .ok (.iaload, 1) := by decide +kernel
theorem dX1_append_28 : decode cX1_append 28 = .ok (.iconst 1, 1) := by decide +kernel
theorem dX1_append_29 : decode cX1_append 29 = .ok (.iadd, 1) := by decide +kernel
theorem dX1_append_30 : decode cX1_append 30 = .ok (.iastore, 1) := by decide +kernel
theorem dX1_append_31 : decode cX1_append 31 = .ok (.aload_n 0, 1) := by decide +kernel
theorem dX1_append_32 : decode cX1_append 32 = .ok (.iconst 1, 1) := by decide +kernel
theorem dX1_append_33 : decode cX1_append 33 = .ok (.putfield 46, 3) := by decide +kernel
theorem dX1_append_36 : decode cX1_append 36 = .ok (.aload_n 0, 1) := by decide +kernel
theorem dX1_append_37 : decode cX1_append 37 = .ok (.getfield 25, 3) := by decide +kernel
theorem dX1_append_40 : decode cX1_append 40 = .ok (.iload_n 1, 1) := by decide +kernel
theorem dX1_append_41 : decode cX1_append 41 = .ok (.iaload, 1) := by decide +kernel
theorem dX1_append_42 : decode cX1_append 42 = .ok (.ireturn, 1) := by decide +kernel
theorem dX1_removeLast_0 : decode cX1_removeLast 0 = .ok (.aload_n 0, 1) := by decide +kernel
theorem dX1_removeLast_1 : decode cX1_removeLast 1 = .ok (.getfield 25, 3) := by decide +kernel
theorem dX1_removeLast_4 : decode cX1_removeLast 4 = .ok (.iload_n 1, 1) := by decide +kernel
theorem dX1_removeLast_5 : decode cX1_removeLast 5 = .ok (.dup2, 1) := by decide +kernel
theorem dX1_removeLast_6 : decode cX1_removeLast 6 = .ok (.iaload, 1) := by decide +kernel
theorem dX1_removeLast_7 : decode cX1_removeLast 7 = .ok (.iconst 1, 1) := by decide +kernel
theorem dX1_removeLast_8 : decode cX1_removeLast 8 = .ok (.isub, 1) := by decide +kernel
theorem dX1_removeLast_9 : decode cX1_removeLast 9 = .ok (.iastore, 1) := by decide +kernel
theorem dX1_removeLast_10 : decode cX1_removeLast 10 = .ok (.aload_n 0, 1) := by decide +kernel
theorem dX1_removeLast_11 : decode cX1_removeLast 11 = .ok (.iconst 1, 1) := by decide +kernel
theorem dX1_removeLast_12 : decode cX1_removeLast 12 = .ok (.putfield 46, 3) := by decide +kernel
theorem dX1_removeLast_15 : decode cX1_removeLast 15 = .ok (.aload_n 0, 1) := by decide +kernel
theorem dX1_removeLast_16 : decode cX1_removeLast 16 = .ok (.getfield 25, 3) := by decide +kernel
theorem dX1_removeLast_19 : decode cX1_removeLast 19 = .ok (.iload_n 1, 1) := by decide +kernel
theorem dX1_removeLast_20 : decode cX1_removeLast 20 = .ok (.iaload, 1) := by decide +kernel
theorem dX1_removeLast_21 : decode cX1_removeLast 21 = .ok (.ireturn, 1) := by decide +kernel
set_option maxRecDepth 20000 in
theorem ggX1_turnFirstComputesToUses_X1_codeAt : GoodIn wsX1_turnFirstComputesToUses wsX1_codeAt := goodIn_r _ [8, 2, 9, 10, 11, 12, 13, 14, 15, 16, 17, 18, 19, 20] (by decide +kernel) (by decide +kernel)
set_option maxRecDepth 20000 in
theorem gX1_turnFirstComputesToUses_X1_codeAt : GoodIn wsX1_turnFirstComputesToUses (wsV RX1 50 RX1 yX1_codeAt wsX1_codeAt) := goodIn_app (goodIn_of _ (by decide +kernel)) ggX1_turnFirstComputesToUses_X1_codeAt
theorem dX1_turnFirstComputesToUses_0 : decode cX1_turnFirstComputesToUses 0 = .ok (.iload_n 2, 1) := by decide +kernel
theorem dX1_turnFirstComputesToUses_1 : decode cX1_turnFirstComputesToUses 1 = .ok (.istore_n 3, 1) := by decide +kernel
theorem dX1_turnFirstComputesToUses_2 : decode cX1_turnFirstComputesToUses 2 = .ok (.iconst 0, 1) := by decide +kernel
theorem dX1_turnFirstComputesToUses_3 : decode cX1_turnFirstComputesToUses 3 = .ok (.istore 4, 2) := by decide +kernel
theorem dX1_turnFirstComputesToUses_5 : decode cX1_turnFirstComputesToUses 5 = .ok (.iload 4, 2) := by decide +kernel
theorem dX1_turnFirstComputesToUses_7 : decode cX1_turnFirstComputesToUses 7 = .ok (.aload_n 0, 1) := by decide +kernel
theorem dX1_turnFirstComputesToUses_8 : decode cX1_turnFirstComputesToUses 8 = .ok (.getfield 25, 3) := by decide +kernel
theorem dX1_turnFirstComputesToUses_11 : decode cX1_turnFirstComputesToUses 11 = .ok (.iload_n 1, 1) := by decide +kernel
theorem dX1_turnFirstComputesToUses_12 : decode cX1_turnFirstComputesToUses 12 = .ok (.iaload, 1) := by decide +kernel
theorem dX1_turnFirstComputesToUses_13 : decode cX1_turnFirstComputesToUses 13 = .ok (.if_icmp .ge 70, 3) := by decide +kernel
theorem dX1_turnFirstComputesToUses_16 : decode cX1_turnFirstComputesToUses 16 = .ok (.aload_n 0, 1) := by decide +kernel
theorem dX1_turnFirstComputesToUses_17 : decode cX1_turnFirstComputesToUses 17 = .ok (.iload_n 1, 1) := by decide +kernel
theorem dX1_turnFirstComputesToUses_18 : decode cX1_turnFirstComputesToUses 18 = .ok (.iload 4, 2) := by decide +kernel
theorem dX1_turnFirstComputesToUses_20 : decode cX1_turnFirstComputesToUses 20 = .ok (.invokevirtual 50, 3) := by decide +kernel
theorem dX1_turnFirstComputesToUses_23 : decode cX1_turnFirstComputesToUses 23 = .ok (.istore 5, 2) := by decide +kernel
theorem dX1_turnFirstComputesToUses_25 : decode cX1_turnFirstComputesToUses 25 = .ok (.iconst 1, 1) := by decide +kernel
theorem dX1_turnFirstComputesToUses_26 : decode cX1_turnFirstComputesToUses 26 = .ok (.iload 5, 2) := by decide +kernel
theorem dX1_turnFirstComputesToUses_28 : decode cX1_turnFirstComputesToUses 28 = .ok (.iconst 3, 1) := by decide +kernel
theorem dX1_turnFirstComputesToUses_29 : decode cX1_turnFirstComputesToUses 29 = .ok (.idiv, 1) := by decide +kernel
theorem dX1_turnFirstComputesToUses_30 : decode cX1_turnFirstComputesToUses 30 = .ok (.ishl, 1) := by decide +kernel
theorem dX1_turnFirstComputesToUses_31 : decode cX1_turnFirstComputesToUses 31 = .ok (.istore 6, 2) := by decide +kernel
theorem dX1_turnFirstComputesToUses_33 : decode cX1_turnFirstComputesToUses 33 = .ok (.iload 5, 2) := by decide +kernel
theorem dX1_turnFirstComputesToUses_35 : decode cX1_turnFirstComputesToUses 35 = .ok (.iconst 3, 1) := by decide +kernel
theorem dX1_turnFirstComputesToUses_36 : decode cX1_turnFirstComputesToUses 36 = .ok (.irem, 1) := by decide +kernel
theorem dX1_turnFirstComputesToUses_37 : decode cX1_turnFirstComputesToUses 37 = .ok (.ifCond .ne 40, 3) := by decide +kernel
theorem dX1_turnFirstComputesToUses_40 : decode cX1_turnFirstComputesToUses 40 = .ok (.iload_n 3, 1) := by decide +kernel
theorem dX1_turnFirstComputesToUses_41 : decode cX1_turnFirstComputesToUses 41 = .ok (.iload 6, 2) := by decide +kernel
theorem dX1_turnFirstComputesToUses_43 : decode cX1_turnFirstComputesToUses 43 = .ok (.iand, 1) := by decide +kernel
theorem dX1_turnFirstComputesToUses_44 : decode cX1_turnFirstComputesToUses 44 = .ok (.ifCond .eq 33, 3) := by decide +kernel
theorem dX1_turnFirstComputesToUses_47 : decode cX1_turnFirstComputesToUses 47 = .ok (.aload_n 0, 1) := by decide +kernel
theorem dX1_turnFirstComputesToUses_48 : decode cX1_turnFirstComputesToUses 48 = .ok (.getfield 28, 3) := by decide +kernel
theorem dX1_turnFirstComputesToUses_51 : decode cX1_turnFirstComputesToUses 51 = .ok (.iload_n 1, 1) := by decide +kernel
theorem dX1_turnFirstComputesToUses_52 : decode cX1_turnFirstComputesToUses 52 = .ok (.bipush 12, 2) := by decide +kernel
theorem dX1_turnFirstComputesToUses_54 : decode cX1_turnFirstComputesToUses 54 = .ok (.imul, 1) := by decide +kernel
theorem dX1_turnFirstComputesToUses_55 : decode cX1_turnFirstComputesToUses 55 = .ok (.iload 4, 2) := by decide +kernel
theorem dX1_turnFirstComputesToUses_57 : decode cX1_turnFirstComputesToUses 57 = .ok (.iadd, 1) := by decide +kernel
theorem dX1_turnFirstComputesToUses_58 : decode cX1_turnFirstComputesToUses 58 = .ok (.iload 5, 2) := by decide +kernel
theorem dX1_turnFirstComputesToUses_60 : decode cX1_turnFirstComputesToUses 60 = .ok (.iconst 0, 1) := by decide +kernel
theorem dX1_turnFirstComputesToUses_61 : decode cX1_turnFirstComputesToUses 61 = .ok (.isub, 1) := by decide +kernel
theorem dX1_turnFirstComputesToUses_62 : decode cX1_turnFirstComputesToUses 62 = .ok (.iconst 1, 1) := by decide +kernel
theorem dX1_turnFirstComputesToUses_63 : decode cX1_turnFirstComputesToUses 63 = .ok (.iadd, 1) := by decide +kernel
theorem dX1_turnFirstComputesToUses_64 : decode cX1_turnFirstComputesToUses 64 = .ok (.iastore, 1) := by decide +kernel
theorem dX1_turnFirstComputesToUses_65 : decode cX1_turnFirstComputesToUses 65 = .ok (.iload_n 3, 1) := by decide +kernel
theorem dX1_turnFirstComputesToUses_66 : decode cX1_turnFirstComputesToUses 66 = .ok (.iload 6, 2) := by decide +kernel
theorem dX1_turnFirstComputesToUses_68 : decode cX1_turnFirstComputesToUses 68 = .ok (.iconst (-1), 1) := by decide +kernel
theorem dX1_turnFirstComputesToUses_69 : decode cX1_turnFirstComputesToUses 69 = .ok (.ixor, 1) := by decide +kernel
theorem dX1_turnFirstComputesToUses_70 : decode cX1_turnFirstComputesToUses 70 = .ok (.iand, 1) := by decide +kernel
theorem dX1_turnFirstComputesToUses_71 : decode cX1_turnFirstComputesToUses 71 = .ok (.istore_n 3, 1) := by decide +kernel
theorem dX1_turnFirstComputesToUses_72 : decode cX1_turnFirstComputesToUses 72 = .ok (.aload_n 0, 1) := by decide +kernel
theorem dX1_turnFirstComputesToUses_73 : decode cX1_turnFirstComputesToUses 73 = .ok (.iconst 1, 1) := by decide +kernel
theorem dX1_turnFirstComputesToUses_74 : decode cX1_turnFirstComputesToUses 74 = .ok (.putfield 46, 3) := by decide +kernel
theorem dX1_turnFirstComputesToUses_77 : decode cX1_turnFirstComputesToUses 77 = .ok (.iinc 4 1, 3) := by decide +kernel
theorem dX1_turnFirstComputesToUses_80 : decode cX1_turnFirstComputesToUses 80 = .ok (.goto (-75), 3) := by decide +kernel
theorem dX1_turnFirstComputesToUses_83 : decode cX1_turnFirstComputesToUses 83 = .ok (.return_, 1) := by decide +kernel
set_option maxRecDepth 20000 in
theorem ggX1_splitEdge_X1_newBlock : GoodIn wsX1_splitEdge wsX1_newBlock := goodIn_r _ [7, 8, 9, 24, 25, 26, 27, 28, 29, 30, 31, 32, 33, 34, 35] (by decide +kernel) (by decide +kernel)
set_option maxRecDepth 20000 in
theorem gX1_splitEdge_X1_newBlock : GoodIn wsX1_splitEdge (wsV RX1 54 RX1 yX1_newBlock wsX1_newBlock) := goodIn_app (goodIn_of _ (by decide +kernel)) ggX1_splitEdge_X1_newBlock
set_option maxRecDepth 20000 in
theorem ggX1_splitEdge_X1_append : GoodIn wsX1_splitEdge wsX1_append := goodIn_r _ [13, 14, 15, 9, 24, 25, 26, 27, 28, 29, 30, 31, 32, 33, 34, 35] (by decide +kernel) (by decide +kernel)
set_option maxRecDepth 20000 in
theorem gX1_splitEdge_X1_append : GoodIn wsX1_splitEdge (wsV RX1 58 RX1 yX1_append wsX1_append) := goodIn_app (goodIn_of _ (by decide +kernel)) ggX1_splitEdge_X1_append
set_option maxRecDepth 20000 in
theorem ggX1_splitEdge_X1_newEdge : GoodIn wsX1_splitEdge wsX1_newEdge := goodIn_r _ [19, 20, 21, 2, 22, 23, 9, 24, 25, 26, 27, 28, 29, 30, 31, 32, 33, 34, 35] (by decide +kernel) (by decide +kernel)
set_option maxRecDepth 20000 in
theorem gX1_splitEdge_X1_newEdge : GoodIn wsX1_splitEdge (wsV RX1 62 RX1 yX1_newEdge wsX1_newEdge) := goodIn_app (goodIn_of _ (by decide +kernel)) ggX1_splitEdge_X1_newEdge
theorem dX1_splitEdge_0 : decode cX1_splitEdge 0 = .ok (.aload_n 0, 1) := by decide +kernel
theorem dX1_splitEdge_1 : decode cX1_splitEdge 1 = .ok (.invokevirtual 54, 3) := by decide +kernel
theorem dX1_splitEdge_4 : decode cX1_splitEdge 4 = .ok (.istore_n 3, 1) := by decide +kernel
theorem dX1_splitEdge_5 : decode cX1_splitEdge 5 = .ok (.iconst 0, 1) := by decide +kernel
theorem dX1_splitEdge_6 : decode cX1_splitEdge 6 = .ok (.istore 4, 2) := by decide +kernel
theorem dX1_splitEdge_8 : decode cX1_splitEdge 8 = .ok (.iload 4, 2) := by decide +kernel
theorem dX1_splitEdge_10 : decode cX1_splitEdge 10 = .ok (.aload_n 0, 1) := by decide +kernel
theorem dX1_splitEdge_11 : decode cX1_splitEdge 11 = .ok (.getfield 9, 3) := by decide +kernel
theorem dX1_splitEdge_14 : decode cX1_splitEdge 14 = .ok (.if_icmp .ge 27, 3) := by decide +kernel
theorem dX1_splitEdge_17 : decode cX1_splitEdge 17 = .ok (.iload_n 2, 1) := by decide +kernel
theorem dX1_splitEdge_18 : decode cX1_splitEdge 18 = .ok (.iload 4, 2) := by decide +kernel
theorem dX1_splitEdge_20 : decode cX1_splitEdge 20 = .ok (.ishr, 1) := by decide +kernel
theorem dX1_splitEdge_21 : decode cX1_splitEdge 21 = .ok (.iconst 1, 1) := by decide +kernel
theorem dX1_splitEdge_22 : decode cX1_splitEdge 22 = .ok (.iand, 1) := by decide +kernel
theorem dX1_splitEdge_23 : decode cX1_splitEdge 23 = .ok (.ifCond .eq 12, 3) := by decide +kernel
theorem dX1_splitEdge_26 : decode cX1_splitEdge 26 = .ok (.aload_n 0, 1) := by decide +kernel
theorem dX1_splitEdge_27 : decode cX1_splitEdge 27 = .ok (.iload_n 3, 1) := by decide +kernel
theorem dX1_splitEdge_28 : decode cX1_splitEdge 28 = .ok (.iconst 0, 1) := by decide +kernel
theorem dX1_splitEdge_29 : decode cX1_splitEdge 29 = .ok (.iload 4, 2) := by decide +kernel
theorem dX1_splitEdge_31 : decode cX1_splitEdge 31 = .ok (.invokevirtual 58, 3) := by decide +kernel
theorem dX1_splitEdge_34 : decode cX1_splitEdge 34 = .ok (.pop, 1) := by decide +kernel
theorem dX1_splitEdge_35 : decode cX1_splitEdge 35 = .ok (.iinc 4 1, 3) := by decide +kernel
theorem dX1_splitEdge_38 : decode cX1_splitEdge 38 = .ok (.goto (-30), 3) := by decide +kernel
theorem dX1_splitEdge_41 : decode cX1_splitEdge 41 = .ok (.aload_n 0, 1) := by decide +kernel
theorem dX1_splitEdge_42 : decode cX1_splitEdge 42 = .ok (.getfield 37, 3) := by decide +kernel
theorem dX1_splitEdge_45 : decode cX1_splitEdge 45 = .ok (.iload_n 1, 1) := by decide +kernel
theorem dX1_splitEdge_46 : decode cX1_splitEdge 46 = .ok (.iaload, 1) := by decide +kernel
theorem dX1_splitEdge_47 : decode cX1_splitEdge 47 = .ok (.istore 4, 2) := by decide +kernel
theorem dX1_splitEdge_49 : decode cX1_splitEdge 49 = .ok (.aload_n 0, 1) := by decide +kernel
theorem dX1_splitEdge_50 : decode cX1_splitEdge 50 = .ok (.getfield 37, 3) := by decide +kernel
theorem dX1_splitEdge_53 : decode cX1_splitEdge 53 = .ok (.iload_n 1, 1) := by decide +kernel
theorem dX1_splitEdge_54 : decode cX1_splitEdge 54 = .ok (.iload_n 3, 1) := by decide +kernel
theorem dX1_splitEdge_55 : decode cX1_splitEdge 55 = .ok (.iastore, 1) := by decide +kernel
theorem dX1_splitEdge_56 : decode cX1_splitEdge 56 = .ok (.aload_n 0, 1) := by decide +kernel
theorem dX1_splitEdge_57 : decode cX1_splitEdge 57 = .ok (.iload_n 3, 1) := by decide +kernel
theorem dX1_splitEdge_58 : decode cX1_splitEdge 58 = .ok (.iload 4, 2) := by decide +kernel
theorem dX1_splitEdge_60 : decode cX1_splitEdge 60 = .ok (.invokevirtual 62, 3) := by decide +kernel
theorem dX1_splitEdge_63 : decode cX1_splitEdge 63 = .ok (.pop, 1) := by decide +kernel
theorem dX1_splitEdge_64 : decode cX1_splitEdge 64 = .ok (.return_, 1) := by decide +kernel
set_option maxRecDepth 20000 in
theorem ggX1_addToChecksum_X1_codeAt : GoodIn wsX1_addToChecksum wsX1_codeAt := goodIn_r _ [11, 12, 19, 20, 21, 22, 23, 24, 25, 26, 27, 28, 29, 30] (by decide +kernel) (by decide +kernel)
set_option maxRecDepth 20000 in
theorem gX1_addToChecksum_X1_codeAt : GoodIn wsX1_addToChecksum (wsV RX1 50 RX1 yX1_codeAt wsX1_codeAt) := goodIn_app (goodIn_of _ (by decide +kernel)) ggX1_addToChecksum_X1_codeAt
set_option maxRecDepth 20000 in
theorem ggX1_addToChecksum_X1_endsOf : GoodIn wsX1_addToChecksum wsX1_endsOf := goodIn_r _ [16, 17, 18, 19, 20, 21, 22, 23, 24, 25, 26, 27, 28, 29, 30] (by decide +kernel) (by decide +kernel)
set_option maxRecDepth 20000 in
theorem gX1_addToChecksum_X1_endsOf : GoodIn wsX1_addToChecksum (wsV RX1 67 RX1 yX1_endsOf wsX1_endsOf) := goodIn_app (goodIn_of _ (by decide +kernel)) ggX1_addToChecksum_X1_endsOf
theorem dX1_addToChecksum_0 : decode cX1_addToChecksum 0 = .ok (.lload_n 1, 1) := by decide +kernel
theorem dX1_addToChecksum_1 : decode cX1_addToChecksum 1 = .ok (.ldc2_w 65, 3) := by decide +kernel
theorem dX1_addToChecksum_4 : decode cX1_addToChecksum 4 = .ok (.lmul, 1) := by decide +kernel
theorem dX1_addToChecksum_5 : decode cX1_addToChecksum 5 = .ok (.aload_n 0, 1) := by decide +kernel
theorem dX1_addToChecksum_6 : decode cX1_addToChecksum 6 = .ok (.getfield 9, 3) := by decide +kernel
theorem dX1_addToChecksum_9 : decode cX1_addToChecksum 9 = .ok (.i2l, 1) := by decide +kernel
theorem dX1_addToChecksum_10 : decode cX1_addToChecksum 10 = .ok (.ladd, 1) := by decide +kernel
theorem dX1_addToChecksum_11 : decode cX1_addToChecksum 11 = .ok (.lstore_n 3, 1) := by decide +kernel
theorem dX1_addToChecksum_12 : decode cX1_addToChecksum 12 = .ok (.iconst 0, 1) := by decide +kernel
theorem dX1_addToChecksum_13 : decode cX1_addToChecksum 13 = .ok (.istore 5, 2) := by decide +kernel
theorem dX1_addToChecksum_15 : decode cX1_addToChecksum 15 = .ok (.iload 5, 2) := by decide +kernel
theorem dX1_addToChecksum_17 : decode cX1_addToChecksum 17 = .ok (.aload_n 0, 1) := by decide +kernel
theorem dX1_addToChecksum_18 : decode cX1_addToChecksum 18 = .ok (.getfield 9, 3) := by decide +kernel
theorem dX1_addToChecksum_21 : decode cX1_addToChecksum 21 = .ok (.if_icmp .ge 24, 3) := by decide +kernel
theorem dX1_addToChecksum_24 : decode cX1_addToChecksum 24 = .ok (.lload_n 3, 1) := by decide +kernel
theorem dX1_addToChecksum_25 : decode cX1_addToChecksum 25 = .ok (.ldc2_w 65, 3) := by decide +kernel
theorem dX1_addToChecksum_28 : decode cX1_addToChecksum 28 = .ok (.lmul, 1) := by decide +kernel
theorem dX1_addToChecksum_29 : decode cX1_addToChecksum 29 = .ok (.aload_n 0, 1) := by decide +kernel
theorem dX1_addToChecksum_30 : decode cX1_addToChecksum 30 = .ok (.getfield 15, 3) := by decide +kernel
theorem dX1_addToChecksum_33 : decode cX1_addToChecksum 33 = .ok (.iload 5, 2) := by decide +kernel
theorem dX1_addToChecksum_35 : decode cX1_addToChecksum 35 = .ok (.iaload, 1) := by decide +kernel
theorem dX1_addToChecksum_36 : decode cX1_addToChecksum 36 = .ok (.i2l, 1) := by decide +kernel
theorem dX1_addToChecksum_37 : decode cX1_addToChecksum 37 = .ok (.ladd, 1) := by decide +kernel
theorem dX1_addToChecksum_38 : decode cX1_addToChecksum 38 = .ok (.lstore_n 3, 1) := by decide +kernel
theorem dX1_addToChecksum_39 : decode cX1_addToChecksum 39 = .ok (.iinc 5 1, 3) := by decide +kernel
theorem dX1_addToChecksum_42 : decode cX1_addToChecksum 42 = .ok (.goto (-27), 3) := by decide +kernel
theorem dX1_addToChecksum_45 : decode cX1_addToChecksum 45 = .ok (.lload_n 3, 1) := by decide +kernel
theorem dX1_addToChecksum_46 : decode cX1_addToChecksum 46 = .ok (.ldc2_w 65, 3) := by decide +kernel
theorem dX1_addToChecksum_49 : decode cX1_addToChecksum 49 = .ok (.lmul, 1) := by decide +kernel
theorem dX1_addToChecksum_50 : decode cX1_addToChecksum 50 = .ok (.aload_n 0, 1) := by decide +kernel
theorem dX1_addToChecksum_51 : decode cX1_addToChecksum 51 = .ok (.getfield 22, 3) := by decide +kernel
theorem dX1_addToChecksum_54 : decode cX1_addToChecksum 54 = .ok (.i2l, 1) := by decide +kernel
theorem dX1_addToChecksum_55 : decode cX1_addToChecksum 55 = .ok (.ladd, 1) := by decide +kernel
theorem dX1_addToChecksum_56 : decode cX1_addToChecksum 56 = .ok (.lstore_n 3, 1) := by decide +kernel
theorem dX1_addToChecksum_57 : decode cX1_addToChecksum 57 = .ok (.iconst 0, 1) := by decide +kernel
theorem dX1_addToChecksum_58 : decode cX1_addToChecksum 58 = .ok (.istore 5, 2) := by decide +kernel
theorem dX1_addToChecksum_60 : decode cX1_addToChecksum 60 = .ok (.iload 5, 2) := by decide +kernel
theorem dX1_addToChecksum_62 : decode cX1_addToChecksum 62 = .ok (.aload_n 0, 1) := by decide +kernel
theorem dX1_addToChecksum_63 : decode cX1_addToChecksum 63 = .ok (.getfield 22, 3) := by decide +kernel
theorem dX1_addToChecksum_66 : decode cX1_addToChecksum 66 = .ok (.if_icmp .ge 61, 3) := by decide +kernel
theorem dX1_addToChecksum_69 : decode cX1_addToChecksum 69 = .ok (.lload_n 3, 1) := by decide +kernel
theorem dX1_addToChecksum_70 : decode cX1_addToChecksum 70 = .ok (.ldc2_w 65, 3) := by decide +kernel
theorem dX1_addToChecksum_73 : decode cX1_addToChecksum 73 = .ok (.lmul, 1) := by decide +kernel
theorem dX1_addToChecksum_74 : decode cX1_addToChecksum 74 = .ok (.aload_n 0, 1) := by decide +kernel
theorem dX1_addToChecksum_75 : decode cX1_addToChecksum 75 = .ok (.getfield 25, 3) := by decide +kernel
theorem dX1_addToChecksum_78 : decode cX1_addToChecksum 78 = .ok (.iload 5, 2) := by decide +kernel
theorem dX1_addToChecksum_80 : decode cX1_addToChecksum 80 = .ok (.iaload, 1) := by decide +kernel
theorem dX1_addToChecksum_81 : decode cX1_addToChecksum 81 = .ok (.i2l, 1) := by decide +kernel
theorem dX1_addToChecksum_82 : decode cX1_addToChecksum 82 = .ok (.ladd, 1) := by decide +kernel
theorem dX1_addToChecksum_83 : decode cX1_addToChecksum 83 = .ok (.lstore_n 3, 1) := by decide +kernel
theorem dX1_addToChecksum_84 : decode cX1_addToChecksum 84 = .ok (.iconst 0, 1) := by decide +kernel
theorem dX1_addToChecksum_85 : decode cX1_addToChecksum 85 = .ok (.istore 6, 2) := by decide +kernel
theorem dX1_addToChecksum_87 : decode cX1_addToChecksum 87 = .ok (.iload 6, 2) := by decide +kernel
theorem dX1_addToChecksum_89 : decode cX1_addToChecksum 89 = .ok (.aload_n 0, 1) := by decide +kernel
theorem dX1_addToChecksum_90 : decode cX1_addToChecksum 90 = .ok (.getfield 25, 3) := by decide +kernel
theorem dX1_addToChecksum_93 : decode cX1_addToChecksum 93 = .ok (.iload 5, 2) := by decide +kernel
theorem dX1_addToChecksum_95 : decode cX1_addToChecksum 95 = .ok (.iaload, 1) := by decide +kernel
theorem dX1_addToChecksum_96 : decode cX1_addToChecksum 96 = .ok (.if_icmp .ge 25, 3) := by decide +kernel
theorem dX1_addToChecksum_99 : decode cX1_addToChecksum 99 = .ok (.lload_n 3, 1) := by decide +kernel
theorem dX1_addToChecksum_100 : decode cX1_addToChecksum 100 = .ok (.ldc2_w 65, 3) := by decide +kernel
theorem dX1_addToChecksum_103 : decode cX1_addToChecksum 103 = .ok (.lmul, 1) := by decide +kernel
theorem dX1_addToChecksum_104 : decode cX1_addToChecksum 104 = .ok (.aload_n 0, 1) := by decide +kernel
theorem dX1_addToChecksum_105 : decode cX1_addToChecksum 105 = .ok (.iload 5, 2) := by decide +kernel
theorem dX1_addToChecksum_107 : decode cX1_addToChecksum 107 = .ok (.iload 6, 2) := by decide +kernel
theorem dX1_addToChecksum_109 : decode cX1_addToChecksum 109 = .ok (.invokevirtual 50, 3) := by decide +kernel
theorem dX1_addToChecksum_112 : decode cX1_addToChecksum 112 = .ok (.i2l, 1) := by decide +kernel
theorem dX1_addToChecksum_113 : decode cX1_addToChecksum 113 = .ok (.ladd, 1) := by decide +kernel
theorem dX1_addToChecksum_114 : decode cX1_addToChecksum 114 = .ok (.lstore_n 3, 1) := by decide +kernel
theorem dX1_addToChecksum_115 : decode cX1_addToChecksum 115 = .ok (.iinc 6 1, 3) := by decide +kernel
theorem dX1_addToChecksum_118 : decode cX1_addToChecksum 118 = .ok (.goto (-31), 3) := by decide +kernel
theorem dX1_addToChecksum_121 : decode cX1_addToChecksum 121 = .ok (.iinc 5 1, 3) := by decide +kernel
theorem dX1_addToChecksum_124 : decode cX1_addToChecksum 124 = .ok (.goto (-64), 3) := by decide +kernel
theorem dX1_addToChecksum_127 : decode cX1_addToChecksum 127 = .ok (.lload_n 3, 1) := by decide +kernel
theorem dX1_addToChecksum_128 : decode cX1_addToChecksum 128 = .ok (.ldc2_w 65, 3) := by decide +kernel
theorem dX1_addToChecksum_131 : decode cX1_addToChecksum 131 = .ok (.lmul, 1) := by decide +kernel
theorem dX1_addToChecksum_132 : decode cX1_addToChecksum 132 = .ok (.aload_n 0, 1) := by decide +kernel
theorem dX1_addToChecksum_133 : decode cX1_addToChecksum 133 = .ok (.getfield 31, 3) := by decide +kernel
theorem dX1_addToChecksum_136 : decode cX1_addToChecksum 136 = .ok (.i2l, 1) := by decide +kernel
theorem dX1_addToChecksum_137 : decode cX1_addToChecksum 137 = .ok (.ladd, 1) := by decide +kernel
theorem dX1_addToChecksum_138 : decode cX1_addToChecksum 138 = .ok (.lstore_n 3, 1) := by decide +kernel
theorem dX1_addToChecksum_139 : decode cX1_addToChecksum 139 = .ok (.iconst 0, 1) := by decide +kernel
theorem dX1_addToChecksum_140 : decode cX1_addToChecksum 140 = .ok (.istore 5, 2) := by decide +kernel
theorem dX1_addToChecksum_142 : decode cX1_addToChecksum 142 = .ok (.iload 5, 2) := by decide +kernel
theorem dX1_addToChecksum_144 : decode cX1_addToChecksum 144 = .ok (.aload_n 0, 1) := by decide +kernel
theorem dX1_addToChecksum_145 : decode cX1_addToChecksum 145 = .ok (.getfield 31, 3) := by decide +kernel
theorem dX1_addToChecksum_148 : decode cX1_addToChecksum 148 = .ok (.if_icmp .ge 23, 3) := by decide +kernel
theorem dX1_addToChecksum_151 : decode cX1_addToChecksum 151 = .ok (.lload_n 3, 1) := by decide +kernel
theorem dX1_addToChecksum_152 : decode cX1_addToChecksum 152 = .ok (.ldc2_w 65, 3) := by decide +kernel
theorem dX1_addToChecksum_155 : decode cX1_addToChecksum 155 = .ok (.lmul, 1) := by decide +kernel
theorem dX1_addToChecksum_156 : decode cX1_addToChecksum 156 = .ok (.aload_n 0, 1) := by decide +kernel
theorem dX1_addToChecksum_157 : decode cX1_addToChecksum 157 = .ok (.iload 5, 2) := by decide +kernel
theorem dX1_addToChecksum_159 : decode cX1_addToChecksum 159 = .ok (.invokevirtual 67, 3) := by decide +kernel
theorem dX1_addToChecksum_162 : decode cX1_addToChecksum 162 = .ok (.i2l, 1) := by decide +kernel
theorem dX1_addToChecksum_163 : decode cX1_addToChecksum 163 = .ok (.ladd, 1) := by decide +kernel
theorem dX1_addToChecksum_164 : decode cX1_addToChecksum 164 = .ok (.lstore_n 3, 1) := by decide +kernel
theorem dX1_addToChecksum_165 : decode cX1_addToChecksum 165 = .ok (.iinc 5 1, 3) := by decide +kernel
theorem dX1_addToChecksum_168 : decode cX1_addToChecksum 168 = .ok (.goto (-26), 3) := by decide +kernel
theorem dX1_addToChecksum_171 : decode cX1_addToChecksum 171 = .ok (.lload_n 3, 1) := by decide +kernel
theorem dX1_addToChecksum_172 : decode cX1_addToChecksum 172 = .ok (.lreturn, 1) := by decide +kernel
theorem dX2_init_0 : decode cX2_init 0 = .ok (.aload_n 0, 1) := by decide +kernel
theorem dX2_init_1 : decode cX2_init 1 = .ok (.invokespecial 3, 3) := by decide +kernel
theorem dX2_init_4 : decode cX2_init 4 = .ok (.aload_n 0, 1) := by decide +kernel
theorem dX2_init_5 : decode cX2_init 5 = .ok (.bipush 40, 2) := by decide +kernel
theorem dX2_init_7 : decode cX2_init 7 = .ok (.newarray .int, 2) := by decide +kernel
theorem dX2_init_9 : decode cX2_init 9 = .ok (.putfield 9, 3) := by decide +kernel
theorem dX2_init_12 : decode cX2_init 12 = .ok (.aload_n 0, 1) := by decide +kernel
theorem dX2_init_13 : decode cX2_init 13 = .ok (.bipush 40, 2) := by decide +kernel
theorem dX2_init_15 : decode cX2_init 15 = .ok (.newarray .int, 2) := by decide +kernel
theorem dX2_init_17 : decode cX2_init 17 = .ok (.putfield 15, 3) := by decide +kernel
theorem dX2_init_20 : decode cX2_init 20 = .ok (.aload_n 0, 1) := by decide +kernel
theorem dX2_init_21 : decode cX2_init 21 = .ok (.bipush 40, 2) := by decide +kernel
theorem dX2_init_23 : decode cX2_init 23 = .ok (.newarray .int, 2) := by decide +kernel
theorem dX2_init_25 : decode cX2_init 25 = .ok (.putfield 18, 3) := by decide +kernel
theorem dX2_init_28 : decode cX2_init 28 = .ok (.aload_n 0, 1) := by decide +kernel
theorem dX2_init_29 : decode cX2_init 29 = .ok (.bipush 40, 2) := by decide +kernel
theorem dX2_init_31 : decode cX2_init 31 = .ok (.newarray .int, 2) := by decide +kernel
theorem dX2_init_33 : decode cX2_init 33 = .ok (.putfield 21, 3) := by decide +kernel
theorem dX2_init_36 : decode cX2_init 36 = .ok (.aload_n 0, 1) := by decide +kernel
theorem dX2_init_37 : decode cX2_init 37 = .ok (.bipush 40, 2) := by decide +kernel
theorem dX2_init_39 : decode cX2_init 39 = .ok (.newarray .int, 2) := by decide +kernel
theorem dX2_init_41 : decode cX2_init 41 = .ok (.putfield 24, 3) := by decide +kernel
theorem dX2_init_44 : decode cX2_init 44 = .ok (.aload_n 0, 1) := by decide +kernel
theorem dX2_init_45 : decode cX2_init 45 = .ok (.bipush 40, 2) := by decide +kernel
theorem dX2_init_47 : decode cX2_init 47 = .ok (.newarray .int, 2) := by decide +kernel
theorem dX2_init_49 : decode cX2_init 49 = .ok (.putfield 27, 3) := by decide +kernel
theorem dX2_init_52 : decode cX2_init 52 = .ok (.aload_n 0, 1) := by decide +kernel
theorem dX2_init_53 : decode cX2_init 53 = .ok (.bipush 40, 2) := by decide +kernel
theorem dX2_init_55 : decode cX2_init 55 = .ok (.newarray .int, 2) := by decide +kernel
theorem dX2_init_57 : decode cX2_init 57 = .ok (.putfield 30, 3) := by decide +kernel
theorem dX2_init_60 : decode cX2_init 60 = .ok (.aload_n 0, 1) := by decide +kernel
theorem dX2_init_61 : decode cX2_init 61 = .ok (.bipush 40, 2) := by decide +kernel
theorem dX2_init_63 : decode cX2_init 63 = .ok (.newarray .int, 2) := by decide +kernel
theorem dX2_init_65 : decode cX2_init 65 = .ok (.putfield 33, 3) := by decide +kernel
theorem dX2_init_68 : decode cX2_init 68 = .ok (.aload_n 0, 1) := by decide +kernel
theorem dX2_init_69 : decode cX2_init 69 = .ok (.bipush 40, 2) := by decide +kernel
theorem dX2_init_71 : decode cX2_init 71 = .ok (.newarray .int, 2) := by decide +kernel
theorem dX2_init_73 : decode cX2_init 73 = .ok (.putfield 36, 3) := by decide +kernel
theorem dX2_init_76 : decode cX2_init 76 = .ok (.aload_n 0, 1) := by decide +kernel
theorem dX2_init_77 : decode cX2_init 77 = .ok (.bipush 80, 2) := by decide +kernel
theorem dX2_init_79 : decode cX2_init 79 = .ok (.newarray .int, 2) := by decide +kernel
theorem dX2_init_81 : decode cX2_init 81 = .ok (.putfield 39, 3) := by decide +kernel
theorem dX2_init_84 : decode cX2_init 84 = .ok (.aload_n 0, 1) := by decide +kernel
theorem dX2_init_85 : decode cX2_init 85 = .ok (.bipush 80, 2) := by decide +kernel
theorem dX2_init_87 : decode cX2_init 87 = .ok (.newarray .int, 2) := by decide +kernel
theorem dX2_init_89 : decode cX2_init 89 = .ok (.putfield 42, 3) := by decide +kernel
theorem dX2_init_92 : decode cX2_init 92 = .ok (.aload_n 0, 1) := by decide +kernel
theorem dX2_init_93 : decode cX2_init 93 = .ok (.bipush 80, 2) := by decide +kernel
theorem dX2_init_95 : decode cX2_init 95 = .ok (.newarray .int, 2) := by decide +kernel
theorem dX2_init_97 : decode cX2_init 97 = .ok (.putfield 45, 3) := by decide +kernel
theorem dX2_init_100 : decode cX2_init 100 = .ok (.aload_n 0, 1) := by decide +kernel
theorem dX2_init_101 : decode cX2_init 101 = .ok (.aload_n 1, 1) := by decide +kernel
theorem dX2_init_102 : decode cX2_init 102 = .ok (.putfield 48, 3) := by decide +kernel
theorem dX2_init_105 : decode cX2_init 105 = .ok (.return_, 1) := by decide +kernel
set_option maxRecDepth 20000 in
theorem ggX2_bringUpToDate_X2_findSetsOfBlock : GoodIn wsX2_bringUpToDate wsX2_findSetsOfBlock := goodIn_r _ [8, 1, 9, 10, 11, 12, 13, 14, 15, 16, 17, 18, 19, 20, 21, 22, 23, 24, 86, 87, 88, 89, 90, 91, 92, 93, 94, 95, 96, 97, 98, 99, 100, 101, 102, 103, 104, 105, 106, 107, 108, 109, 110] (by decide +kernel) (by decide +kernel)
set_option maxRecDepth 20000 in
theorem gX2_bringUpToDate_X2_findSetsOfBlock : GoodIn wsX2_bringUpToDate (wsV RX2 62 RX2 yX2_findSetsOfBlock wsX2_findSetsOfBlock) := goodIn_app (goodIn_of _ (by decide +kernel)) ggX2_bringUpToDate_X2_findSetsOfBlock
set_option maxRecDepth 20000 in
theorem ggX2_bringUpToDate_X2_findNeeded : GoodIn wsX2_bringUpToDate wsX2_findNeeded := goodIn_r _ [28, 1, 3, 29, 20, 21, 22, 17, 23, 24, 30, 31, 32, 7, 33, 34, 35, 12, 11, 36, 37, 38, 39, 40, 41, 42, 86, 87, 88, 89, 90, 91, 92, 93, 94, 95, 96, 97, 98, 99, 100, 101, 102, 103, 104, 105, 106, 107, 108, 109, 110] (by decide +kernel) (by decide +kernel)
set_option maxRecDepth 20000 in
theorem gX2_bringUpToDate_X2_findNeeded : GoodIn wsX2_bringUpToDate (wsV RX2 66 RX2 yX2_findNeeded wsX2_findNeeded) := goodIn_app (goodIn_of _ (by decide +kernel)) ggX2_bringUpToDate_X2_findNeeded
set_option maxRecDepth 20000 in
theorem ggX2_bringUpToDate_X2_findThere : GoodIn wsX2_bringUpToDate wsX2_findThere := goodIn_r _ [46, 47, 1, 3, 48, 49, 50, 7, 51, 40, 42, 20, 21, 22, 17, 23, 24, 52, 53, 54, 55, 56, 13, 11, 57, 58, 59, 60, 41, 86, 87, 88, 89, 90, 91, 92, 93, 94, 95, 96, 97, 98, 99, 100, 101, 102, 103, 104, 105, 106, 107, 108, 109, 110] (by decide +kernel) (by decide +kernel)
set_option maxRecDepth 20000 in
theorem gX2_bringUpToDate_X2_findThere : GoodIn wsX2_bringUpToDate (wsV RX2 69 RX2 yX2_findThere wsX2_findThere) := goodIn_app (goodIn_of _ (by decide +kernel)) ggX2_bringUpToDate_X2_findThere
set_option maxRecDepth 20000 in
theorem ggX2_bringUpToDate_X2_findEarliest : GoodIn wsX2_bringUpToDate wsX2_findEarliest := goodIn_r _ [64, 1, 40, 41, 35, 42, 56, 65, 11, 34, 86, 87, 88, 89, 90, 91, 92, 93, 94, 95, 96, 97, 98, 99, 100, 101, 102, 103, 104, 105, 106, 107, 108, 109, 110] (by decide +kernel) (by decide +kernel)
set_option maxRecDepth 20000 in
theorem gX2_bringUpToDate_X2_findEarliest : GoodIn wsX2_bringUpToDate (wsV RX2 72 RX2 yX2_findEarliest wsX2_findEarliest) := goodIn_app (goodIn_of _ (by decide +kernel)) ggX2_bringUpToDate_X2_findEarliest
set_option maxRecDepth 20000 in
theorem ggX2_bringUpToDate_X2_findDelayed : GoodIn wsX2_bringUpToDate wsX2_findDelayed := goodIn_r _ [69, 70, 35, 1, 40, 71, 48, 49, 50, 7, 51, 3, 42, 20, 21, 22, 17, 23, 24, 72, 73, 74, 75, 76, 77, 78, 79, 41, 65, 12, 86, 87, 88, 89, 90, 91, 92, 93, 94, 95, 96, 97, 98, 99, 100, 101, 102, 103, 104, 105, 106, 107, 108, 109, 110] (by decide +kernel) (by decide +kernel)
set_option maxRecDepth 20000 in
theorem gX2_bringUpToDate_X2_findDelayed : GoodIn wsX2_bringUpToDate (wsV RX2 75 RX2 yX2_findDelayed wsX2_findDelayed) := goodIn_app (goodIn_of _ (by decide +kernel)) ggX2_bringUpToDate_X2_findDelayed
set_option maxRecDepth 20000 in
theorem ggX2_bringUpToDate_X2_findInsertionsAndDeletions : GoodIn wsX2_bringUpToDate wsX2_findInsertionsAndDeletions := goodIn_r _ [83, 1, 40, 84, 71, 70, 42, 3, 85, 12, 86, 87, 88, 89, 90, 91, 92, 93, 94, 95, 96, 97, 98, 99, 100, 101, 102, 103, 104, 105, 106, 107, 108, 109, 110] (by decide +kernel) (by decide +kernel)
set_option maxRecDepth 20000 in
theorem gX2_bringUpToDate_X2_findInsertionsAndDeletions : GoodIn wsX2_bringUpToDate (wsV RX2 78 RX2 yX2_findInsertionsAndDeletions wsX2_findInsertionsAndDeletions) := goodIn_app (goodIn_of _ (by decide +kernel)) ggX2_bringUpToDate_X2_findInsertionsAndDeletions
theorem dX2_bringUpToDate_0 : decode cX2_bringUpToDate 0 = .ok (.aload_n 0, 1) := by decide +kernel
theorem dX2_bringUpToDate_1 : decode cX2_bringUpToDate 1 = .ok (.getfield 48, 3) := by decide +kernel
theorem dX2_bringUpToDate_4 : decode cX2_bringUpToDate 4 = .ok (.getfield 52, 3) := by decide +kernel
theorem dX2_bringUpToDate_7 : decode cX2_bringUpToDate 7 = .ok (.ifCond .ne 4, 3) := by decide +kernel
theorem dX2_bringUpToDate_10 : decode cX2_bringUpToDate 10 = .ok (.return_, 1) := by decide +kernel
theorem dX2_bringUpToDate_11 : decode cX2_bringUpToDate 11 = .ok (.iconst 0, 1) := by decide +kernel
theorem dX2_bringUpToDate_12 : decode cX2_bringUpToDate 12 = .ok (.istore_n 1, 1) := by decide +kernel
theorem dX2_bringUpToDate_13 : decode cX2_bringUpToDate 13 = .ok (.iload_n 1, 1) := by decide +kernel
theorem dX2_bringUpToDate_14 : decode cX2_bringUpToDate 14 = .ok (.aload_n 0, 1) := by decide +kernel
theorem dX2_bringUpToDate_15 : decode cX2_bringUpToDate 15 = .ok (.getfield 48, 3) := by decide +kernel
theorem dX2_bringUpToDate_18 : decode cX2_bringUpToDate 18 = .ok (.getfield 58, 3) := by decide +kernel
theorem dX2_bringUpToDate_21 : decode cX2_bringUpToDate 21 = .ok (.if_icmp .ge 14, 3) := by decide +kernel
theorem dX2_bringUpToDate_24 : decode cX2_bringUpToDate 24 = .ok (.aload_n 0, 1) := by decide +kernel
theorem dX2_bringUpToDate_25 : decode cX2_bringUpToDate 25 = .ok (.iload_n 1, 1) := by decide +kernel
theorem dX2_bringUpToDate_26 : decode cX2_bringUpToDate 26 = .ok (.invokevirtual 62, 3) := by decide +kernel
theorem dX2_bringUpToDate_29 : decode cX2_bringUpToDate 29 = .ok (.iinc 1 1, 3) := by decide +kernel
theorem dX2_bringUpToDate_32 : decode cX2_bringUpToDate 32 = .ok (.goto (-19), 3) := by decide +kernel
theorem dX2_bringUpToDate_35 : decode cX2_bringUpToDate 35 = .ok (.aload_n 0, 1) := by decide +kernel
theorem dX2_bringUpToDate_36 : decode cX2_bringUpToDate 36 = .ok (.invokevirtual 66, 3) := by decide +kernel
theorem dX2_bringUpToDate_39 : decode cX2_bringUpToDate 39 = .ok (.aload_n 0, 1) := by decide +kernel
theorem dX2_bringUpToDate_40 : decode cX2_bringUpToDate 40 = .ok (.invokevirtual 69, 3) := by decide +kernel
theorem dX2_bringUpToDate_43 : decode cX2_bringUpToDate 43 = .ok (.aload_n 0, 1) := by decide +kernel
theorem dX2_bringUpToDate_44 : decode cX2_bringUpToDate 44 = .ok (.invokevirtual 72, 3) := by decide +kernel
theorem dX2_bringUpToDate_47 : decode cX2_bringUpToDate 47 = .ok (.aload_n 0, 1) := by decide +kernel
theorem dX2_bringUpToDate_48 : decode cX2_bringUpToDate 48 = .ok (.invokevirtual 75, 3) := by decide +kernel
theorem dX2_bringUpToDate_51 : decode cX2_bringUpToDate 51 = .ok (.aload_n 0, 1) := by decide +kernel
theorem dX2_bringUpToDate_52 : decode cX2_bringUpToDate 52 = .ok (.invokevirtual 78, 3) := by decide +kernel
theorem dX2_bringUpToDate_55 : decode cX2_bringUpToDate 55 = .ok (.aload_n 0, 1) := by decide +kernel
theorem dX2_bringUpToDate_56 : decode cX2_bringUpToDate 56 = .ok (.getfield 48, 3) := by decide +kernel
theorem dX2_bringUpToDate_59 : decode cX2_bringUpToDate 59 = .ok (.iconst 0, 1) := by decide +kernel
theorem dX2_bringUpToDate_60 : decode cX2_bringUpToDate 60 = .ok (.putfield 52, 3) := by decide +kernel
theorem dX2_bringUpToDate_63 : decode cX2_bringUpToDate 63 = .ok (.return_, 1) := by decide +kernel
theorem dX2_countEdgesWithInsertions_0 : decode cX2_countEdgesWithInsertions 0 = .ok (.iconst 0, 1) := by decide +kernel
theorem dX2_countEdgesWithInsertions_1 : decode cX2_countEdgesWithInsertions 1 = .ok (.istore_n 1, 1) := by decide +kernel
theorem dX2_countEdgesWithInsertions_2 : decode cX2_countEdgesWithInsertions 2 = .ok (.iconst 0, 1) := by decide +kernel
theorem dX2_countEdgesWithInsertions_3 : decode cX2_countEdgesWithInsertions 3 = .ok (.istore_n 2, 1) := by decide +kernel
theorem dX2_countEdgesWithInsertions_4 : decode cX2_countEdgesWithInsertions 4 = .ok (.iload_n 2, 1) := by decide +kernel
theorem dX2_countEdgesWithInsertions_5 : decode cX2_countEdgesWithInsertions 5 = .ok (.aload_n 0, 1) := by decide +kernel
theorem dX2_countEdgesWithInsertions_6 : decode cX2_countEdgesWithInsertions 6 = .ok (.getfield 48, 3) := by decide +kernel
theorem dX2_countEdgesWithInsertions_9 : decode cX2_countEdgesWithInsertions 9 = .ok (.getfield 81, 3) := by decide +kernel
theorem dX2_countEdgesWithInsertions_12 : decode cX2_countEdgesWithInsertions 12 = .ok (.if_icmp .ge 21, 3) := by decide +kernel
theorem dX2_countEdgesWithInsertions_15 : decode cX2_countEdgesWithInsertions 15 = .ok (.aload_n 0, 1) := by decide +kernel
theorem dX2_countEdgesWithInsertions_16 : decode cX2_countEdgesWithInsertions 16 = .ok (.getfield 45, 3) := by decide +kernel
theorem dX2_countEdgesWithInsertions_19 : decode cX2_countEdgesWithInsertions 19 = .ok (.iload_n 2, 1) := by decide +kernel
theorem dX2_countEdgesWithInsertions_20 : decode cX2_countEdgesWithInsertions 20 = .ok (.iaload, 1) := by decide +kernel
theorem dX2_countEdgesWithInsertions_21 : decode cX2_countEdgesWithInsertions 21 = .ok (.ifCond .eq 6, 3) := by decide +kernel
theorem dX2_countEdgesWithInsertions_24 : decode cX2_countEdgesWithInsertions 24 = .ok (.iinc 1 1, 3) := by decide +kernel
theorem dX2_countEdgesWithInsertions_27 : decode cX2_countEdgesWithInsertions 27 = .ok (.iinc 2 1, 3) := by decide +kernel
theorem dX2_countEdgesWithInsertions_30 : decode cX2_countEdgesWithInsertions 30 = .ok (.goto (-26), 3) := by decide +kernel
theorem dX2_countEdgesWithInsertions_33 : decode cX2_countEdgesWithInsertions 33 = .ok (.iload_n 1, 1) := by decide +kernel
theorem dX2_countEdgesWithInsertions_34 : decode cX2_countEdgesWithInsertions 34 = .ok (.ireturn, 1) := by decide +kernel
set_option maxRecDepth 20000 in
theorem ggX2_findSetsOfBlock_X1_codeAt : GoodIn wsX2_findSetsOfBlock wsX1_codeAt := goodIn_r _ [11, 12, 31, 32, 33, 34, 35, 36, 37, 38, 39, 40, 41, 42] (by decide +kernel) (by decide +kernel)
set_option maxRecDepth 20000 in
theorem gX2_findSetsOfBlock_X1_codeAt : GoodIn wsX2_findSetsOfBlock (wsV RX2 87 RX1 yX1_codeAt wsX1_codeAt) := goodIn_app (goodIn_of _ (by decide +kernel)) ggX2_findSetsOfBlock_X1_codeAt
set_option maxRecDepth 20000 in
theorem ggX2_findSetsOfBlock_X1_allExpressions : GoodIn wsX2_findSetsOfBlock wsX1_allExpressions := goodIn_r _ [16, 17, 31, 32, 33, 34, 35, 36, 37, 38, 39, 40, 41, 42] (by decide +kernel) (by decide +kernel)
set_option maxRecDepth 20000 in
theorem gX2_findSetsOfBlock_X1_allExpressions : GoodIn wsX2_findSetsOfBlock (wsV RX2 94 RX1 yX1_allExpressions wsX1_allExpressions) := goodIn_app (goodIn_of _ (by decide +kernel)) ggX2_findSetsOfBlock_X1_allExpressions
theorem dX2_findSetsOfBlock_0 : decode cX2_findSetsOfBlock 0 = .ok (.iconst 0, 1) := by decide +kernel
theorem dX2_findSetsOfBlock_1 : decode cX2_findSetsOfBlock 1 = .ok (.istore_n 2, 1) := by decide +kernel
theorem dX2_findSetsOfBlock_2 : decode cX2_findSetsOfBlock 2 = .ok (.iconst 0, 1) := by decide +kernel
theorem dX2_findSetsOfBlock_3 : decode cX2_findSetsOfBlock 3 = .ok (.istore_n 3, 1) := by decide +kernel
theorem dX2_findSetsOfBlock_4 : decode cX2_findSetsOfBlock 4 = .ok (.iconst 0, 1) := by decide +kernel
theorem dX2_findSetsOfBlock_5 : decode cX2_findSetsOfBlock 5 = .ok (.istore 4, 2) := by decide +kernel
theorem dX2_findSetsOfBlock_7 : decode cX2_findSetsOfBlock 7 = .ok (.iconst 0, 1) := by decide +kernel
theorem dX2_findSetsOfBlock_8 : decode cX2_findSetsOfBlock 8 = .ok (.istore 5, 2) := by decide +kernel
theorem dX2_findSetsOfBlock_10 : decode cX2_findSetsOfBlock 10 = .ok (.iload 5, 2) := by decide +kernel
theorem dX2_findSetsOfBlock_12 : decode cX2_findSetsOfBlock 12 = .ok (.aload_n 0, 1) := by decide +kernel
theorem dX2_findSetsOfBlock_13 : decode cX2_findSetsOfBlock 13 = .ok (.getfield 48, 3) := by decide +kernel
theorem dX2_findSetsOfBlock_16 : decode cX2_findSetsOfBlock 16 = .ok (.getfield 84, 3) := by decide +kernel
theorem dX2_findSetsOfBlock_19 : decode cX2_findSetsOfBlock 19 = .ok (.iload_n 1, 1) := by decide +kernel
theorem dX2_findSetsOfBlock_20 : decode cX2_findSetsOfBlock 20 = .ok (.iaload, 1) := by decide +kernel
theorem dX2_findSetsOfBlock_21 : decode cX2_findSetsOfBlock 21 = .ok (.if_icmp .ge 97, 3) := by decide +kernel
theorem dX2_findSetsOfBlock_24 : decode cX2_findSetsOfBlock 24 = .ok (.aload_n 0, 1) := by decide +kernel
theorem dX2_findSetsOfBlock_25 : decode cX2_findSetsOfBlock 25 = .ok (.getfield 48, 3) := by decide +kernel
theorem dX2_findSetsOfBlock_28 : decode cX2_findSetsOfBlock 28 = .ok (.iload_n 1, 1) := by decide +kernel
theorem dX2_findSetsOfBlock_29 : decode cX2_findSetsOfBlock 29 = .ok (.iload 5, 2) := by decide +kernel
theorem dX2_findSetsOfBlock_31 : decode cX2_findSetsOfBlock 31 = .ok (.invokevirtual 87, 3) := by decide +kernel
theorem dX2_findSetsOfBlock_34 : decode cX2_findSetsOfBlock 34 = .ok (.istore 6, 2) := by decide +kernel
theorem dX2_findSetsOfBlock_36 : decode cX2_findSetsOfBlock 36 = .ok (.iload 6, 2) := by decide +kernel
theorem dX2_findSetsOfBlock_38 : decode cX2_findSetsOfBlock 38 = .ok (.iconst 3, 1) := by decide +kernel
theorem dX2_findSetsOfBlock_39 : decode cX2_findSetsOfBlock 39 = .ok (.idiv, 1) := by decide +kernel
theorem dX2_findSetsOfBlock_40 : decode cX2_findSetsOfBlock 40 = .ok (.istore 7, 2) := by decide +kernel
theorem dX2_findSetsOfBlock_42 : decode cX2_findSetsOfBlock 42 = .ok (.iload 6, 2) := by decide +kernel
theorem dX2_findSetsOfBlock_44 : decode cX2_findSetsOfBlock 44 = .ok (.iconst 3, 1) := by decide +kernel
theorem dX2_findSetsOfBlock_45 : decode cX2_findSetsOfBlock 45 = .ok (.irem, 1) := by decide +kernel
theorem dX2_findSetsOfBlock_46 : decode cX2_findSetsOfBlock 46 = .ok (.istore 8, 2) := by decide +kernel
theorem dX2_findSetsOfBlock_48 : decode cX2_findSetsOfBlock 48 = .ok (.iload 8, 2) := by decide +kernel
theorem dX2_findSetsOfBlock_50 : decode cX2_findSetsOfBlock 50 = .ok (.ifCond .ne 26, 3) := by decide +kernel
theorem dX2_findSetsOfBlock_53 : decode cX2_findSetsOfBlock 53 = .ok (.iload_n 3, 1) := by decide +kernel
theorem dX2_findSetsOfBlock_54 : decode cX2_findSetsOfBlock 54 = .ok (.iconst 1, 1) := by decide +kernel
theorem dX2_findSetsOfBlock_55 : decode cX2_findSetsOfBlock 55 = .ok (.iload 7, 2) := by decide +kernel
theorem dX2_findSetsOfBlock_57 : decode cX2_findSetsOfBlock 57 = .ok (.ishl, 1) := by decide +kernel
theorem dX2_findSetsOfBlock_58 : decode cX2_findSetsOfBlock 58 = .ok (.iload_n 2, 1) := by decide +kernel
theorem dX2_findSetsOfBlock_59 : decode cX2_findSetsOfBlock 59 = .ok (.iconst (-1), 1) := by decide +kernel
theorem dX2_findSetsOfBlock_60 : decode cX2_findSetsOfBlock 60 = .ok (.ixor, 1) := by decide +kernel
theorem dX2_findSetsOfBlock_61 : decode cX2_findSetsOfBlock 61 = .ok (.iand, 1) := by decide +kernel
theorem dX2_findSetsOfBlock_62 : decode cX2_findSetsOfBlock 62 = .ok (.ior, 1) := by decide +kernel
theorem dX2_findSetsOfBlock_63 : decode cX2_findSetsOfBlock 63 = .ok (.istore_n 3, 1) := by decide +kernel
theorem dX2_findSetsOfBlock_64 : decode cX2_findSetsOfBlock 64 = .ok (.iload 4, 2) := by decide +kernel
theorem dX2_findSetsOfBlock_66 : decode cX2_findSetsOfBlock 66 = .ok (.iconst 1, 1) := by decide +kernel
theorem dX2_findSetsOfBlock_67 : decode cX2_findSetsOfBlock 67 = .ok (.iload 7, 2) := by decide +kernel
theorem dX2_findSetsOfBlock_69 : decode cX2_findSetsOfBlock 69 = .ok (.ishl, 1) := by decide +kernel
theorem dX2_findSetsOfBlock_70 : decode cX2_findSetsOfBlock 70 = .ok (.ior, 1) := by decide +kernel
theorem dX2_findSetsOfBlock_71 : decode cX2_findSetsOfBlock 71 = .ok (.istore 4, 2) := by decide +kernel
theorem dX2_findSetsOfBlock_73 : decode cX2_findSetsOfBlock 73 = .ok (.goto 39, 3) := by decide +kernel
theorem dX2_findSetsOfBlock_76 : decode cX2_findSetsOfBlock 76 = .ok (.iload 8, 2) := by decide +kernel
theorem dX2_findSetsOfBlock_78 : decode cX2_findSetsOfBlock 78 = .ok (.iconst 2, 1) := by decide +kernel
theorem dX2_findSetsOfBlock_79 : decode cX2_findSetsOfBlock 79 = .ok (.if_icmp .ne 33, 3) := by decide +kernel
theorem dX2_findSetsOfBlock_82 : decode cX2_findSetsOfBlock 82 = .ok (.iload_n 2, 1) := by decide +kernel
theorem dX2_findSetsOfBlock_83 : decode cX2_findSetsOfBlock 83 = .ok (.aload_n 0, 1) := by decide +kernel
theorem dX2_findSetsOfBlock_84 : decode cX2_findSetsOfBlock 84 = .ok (.getfield 48, 3) := by decide +kernel
theorem dX2_findSetsOfBlock_87 : decode cX2_findSetsOfBlock 87 = .ok (.getfield 91, 3) := by decide +kernel
theorem dX2_findSetsOfBlock_90 : decode cX2_findSetsOfBlock 90 = .ok (.iload 7, 2) := by decide +kernel
theorem dX2_findSetsOfBlock_92 : decode cX2_findSetsOfBlock 92 = .ok (.iaload, 1) := by decide +kernel
theorem dX2_findSetsOfBlock_93 : decode cX2_findSetsOfBlock 93 = .ok (.ior, 1) := by decide +kernel
theorem dX2_findSetsOfBlock_94 : decode cX2_findSetsOfBlock 94 = .ok (.istore_n 2, 1) := by decide +kernel
theorem dX2_findSetsOfBlock_95 : decode cX2_findSetsOfBlock 95 = .ok (.iload 4, 2) := by decide +kernel
theorem dX2_findSetsOfBlock_97 : decode cX2_findSetsOfBlock 97 = .ok (.aload_n 0, 1) := by decide +kernel
theorem dX2_findSetsOfBlock_98 : decode cX2_findSetsOfBlock 98 = .ok (.getfield 48, 3) := by decide +kernel
theorem dX2_findSetsOfBlock_101 : decode cX2_findSetsOfBlock 101 = .ok (.getfield 91, 3) := by decide +kernel
theorem dX2_findSetsOfBlock_104 : decode cX2_findSetsOfBlock 104 = .ok (.iload 7, 2) := by decide +kernel
theorem dX2_findSetsOfBlock_106 : decode cX2_findSetsOfBlock 106 = .ok (.iaload, 1) := by decide +kernel
theorem dX2_findSetsOfBlock_107 : decode cX2_findSetsOfBlock 107 = .ok (.iconst (-1), 1) := by decide +kernel
theorem dX2_findSetsOfBlock_108 : decode cX2_findSetsOfBlock 108 = .ok (.ixor, 1) := by decide +kernel
theorem dX2_findSetsOfBlock_109 : decode cX2_findSetsOfBlock 109 = .ok (.iand, 1) := by decide +kernel
theorem dX2_findSetsOfBlock_110 : decode cX2_findSetsOfBlock 110 = .ok (.istore 4, 2) := by decide +kernel
theorem dX2_findSetsOfBlock_112 : decode cX2_findSetsOfBlock 112 = .ok (.iinc 5 1, 3) := by decide +kernel
theorem dX2_findSetsOfBlock_115 : decode cX2_findSetsOfBlock 115 = .ok (.goto (-105), 3) := by decide +kernel
theorem dX2_findSetsOfBlock_118 : decode cX2_findSetsOfBlock 118 = .ok (.aload_n 0, 1) := by decide +kernel
theorem dX2_findSetsOfBlock_119 : decode cX2_findSetsOfBlock 119 = .ok (.getfield 9, 3) := by decide +kernel
theorem dX2_findSetsOfBlock_122 : decode cX2_findSetsOfBlock 122 = .ok (.iload_n 1, 1) := by decide +kernel
theorem dX2_findSetsOfBlock_123 : decode cX2_findSetsOfBlock 123 = .ok (.aload_n 0, 1) := by decide +kernel
theorem dX2_findSetsOfBlock_124 : decode cX2_findSetsOfBlock 124 = .ok (.getfield 48, 3) := by decide +kernel
theorem dX2_findSetsOfBlock_127 : decode cX2_findSetsOfBlock 127 = .ok (.invokevirtual 94, 3) := by decide +kernel
theorem dX2_findSetsOfBlock_130 : decode cX2_findSetsOfBlock 130 = .ok (.iload_n 2, 1) := by decide +kernel
theorem dX2_findSetsOfBlock_131 : decode cX2_findSetsOfBlock 131 = .ok (.iconst (-1), 1) := by decide +kernel
theorem dX2_findSetsOfBlock_132 : decode cX2_findSetsOfBlock 132 = .ok (.ixor, 1) := by decide +kernel
theorem dX2_findSetsOfBlock_133 : decode cX2_findSetsOfBlock 133 = .ok (.iand, 1) := by decide +kernel
theorem dX2_findSetsOfBlock_134 : decode cX2_findSetsOfBlock 134 = .ok (.iastore, 1) := by decide +kernel
theorem dX2_findSetsOfBlock_135 : decode cX2_findSetsOfBlock 135 = .ok (.aload_n 0, 1) := by decide +kernel
theorem dX2_findSetsOfBlock_136 : decode cX2_findSetsOfBlock 136 = .ok (.getfield 15, 3) := by decide +kernel
theorem dX2_findSetsOfBlock_139 : decode cX2_findSetsOfBlock 139 = .ok (.iload_n 1, 1) := by decide +kernel
theorem dX2_findSetsOfBlock_140 : decode cX2_findSetsOfBlock 140 = .ok (.iload_n 3, 1) := by decide +kernel
theorem dX2_findSetsOfBlock_141 : decode cX2_findSetsOfBlock 141 = .ok (.iastore, 1) := by decide +kernel
theorem dX2_findSetsOfBlock_142 : decode cX2_findSetsOfBlock 142 = .ok (.aload_n 0, 1) := by decide +kernel
theorem dX2_findSetsOfBlock_143 : decode cX2_findSetsOfBlock 143 = .ok (.getfield 18, 3) := by decide +kernel
theorem dX2_findSetsOfBlock_146 : decode cX2_findSetsOfBlock 146 = .ok (.iload_n 1, 1) := by decide +kernel
theorem dX2_findSetsOfBlock_147 : decode cX2_findSetsOfBlock 147 = .ok (.iload 4, 2) := by decide +kernel
theorem dX2_findSetsOfBlock_149 : decode cX2_findSetsOfBlock 149 = .ok (.iastore, 1) := by decide +kernel
theorem dX2_findSetsOfBlock_150 : decode cX2_findSetsOfBlock 150 = .ok (.return_, 1) := by decide +kernel
set_option maxRecDepth 20000 in
theorem ggX2_findNeeded_X1_allExpressions : GoodIn wsX2_findNeeded wsX1_allExpressions := goodIn_r _ [8, 9, 39, 40, 41, 42, 43, 44, 45, 46, 47, 48, 49, 50] (by decide +kernel) (by decide +kernel)
set_option maxRecDepth 20000 in
theorem gX2_findNeeded_X1_allExpressions : GoodIn wsX2_findNeeded (wsV RX2 94 RX1 yX1_allExpressions wsX1_allExpressions) := goodIn_app (goodIn_of _ (by decide +kernel)) ggX2_findNeeded_X1_allExpressions
set_option maxRecDepth 20000 in
theorem ggX2_findNeeded_X2_setNeededAtEnd : GoodIn wsX2_findNeeded wsX2_setNeededAtEnd := goodIn_r _ [14, 15, 16, 17, 18, 26, 27, 28, 29, 30, 31, 32, 33, 34, 35, 36, 37, 38] (by decide +kernel) (by decide +kernel)
set_option maxRecDepth 20000 in
theorem gX2_findNeeded_X2_setNeededAtEnd : GoodIn wsX2_findNeeded (wsV RX2 101 RX2 yX2_setNeededAtEnd wsX2_setNeededAtEnd) := goodIn_app (goodIn_of _ (by decide +kernel)) ggX2_findNeeded_X2_setNeededAtEnd
set_option maxRecDepth 20000 in
theorem ggX2_findNeeded_X2_shrinkNeeded : GoodIn wsX2_findNeeded wsX2_shrinkNeeded := goodIn_r _ [22, 1, 23, 24, 15, 16, 25, 10, 11, 12, 13, 14, 17, 18, 26, 27, 28, 29, 30, 31, 32, 33, 34, 35, 36, 37, 38, 39, 40, 41, 42, 43, 44, 45, 46, 47, 48, 49, 50] (by decide +kernel) (by decide +kernel)
set_option maxRecDepth 20000 in
theorem gX2_findNeeded_X2_shrinkNeeded : GoodIn wsX2_findNeeded (wsV RX2 105 RX2 yX2_shrinkNeeded wsX2_shrinkNeeded) := goodIn_app (goodIn_of _ (by decide +kernel)) ggX2_findNeeded_X2_shrinkNeeded
theorem dX2_findNeeded_0 : decode cX2_findNeeded 0 = .ok (.iconst 0, 1) := by decide +kernel
theorem dX2_findNeeded_1 : decode cX2_findNeeded 1 = .ok (.istore_n 1, 1) := by decide +kernel
theorem dX2_findNeeded_2 : decode cX2_findNeeded 2 = .ok (.iload_n 1, 1) := by decide +kernel
theorem dX2_findNeeded_3 : decode cX2_findNeeded 3 = .ok (.aload_n 0, 1) := by decide +kernel
theorem dX2_findNeeded_4 : decode cX2_findNeeded 4 = .ok (.getfield 48, 3) := by decide +kernel
theorem dX2_findNeeded_7 : decode cX2_findNeeded 7 = .ok (.getfield 58, 3) := by decide +kernel
theorem dX2_findNeeded_10 : decode cX2_findNeeded 10 = .ok (.if_icmp .ge 48, 3) := by decide +kernel
theorem dX2_findNeeded_13 : decode cX2_findNeeded 13 = .ok (.aload_n 0, 1) := by decide +kernel
theorem dX2_findNeeded_14 : decode cX2_findNeeded 14 = .ok (.getfield 48, 3) := by decide +kernel
theorem dX2_findNeeded_17 : decode cX2_findNeeded 17 = .ok (.getfield 98, 3) := by decide +kernel
theorem dX2_findNeeded_20 : decode cX2_findNeeded 20 = .ok (.iload_n 1, 1) := by decide +kernel
theorem dX2_findNeeded_21 : decode cX2_findNeeded 21 = .ok (.iaload, 1) := by decide +kernel
theorem dX2_findNeeded_22 : decode cX2_findNeeded 22 = .ok (.iconst (-1), 1) := by decide +kernel
theorem dX2_findNeeded_23 : decode cX2_findNeeded 23 = .ok (.if_icmp .eq 7, 3) := by decide +kernel
theorem dX2_findNeeded_26 : decode cX2_findNeeded 26 = .ok (.iconst 1, 1) := by decide +kernel
theorem dX2_findNeeded_27 : decode cX2_findNeeded 27 = .ok (.goto 4, 3) := by decide +kernel
theorem dX2_findNeeded_30 : decode cX2_findNeeded 30 = .ok (.iconst 0, 1) := by decide +kernel
theorem dX2_findNeeded_31 : decode cX2_findNeeded 31 = .ok (.istore_n 2, 1) := by decide +kernel
theorem dX2_findNeeded_32 : decode cX2_findNeeded 32 = .ok (.aload_n 0, 1) := by decide +kernel
theorem dX2_findNeeded_33 : decode cX2_findNeeded 33 = .ok (.iload_n 1, 1) := by decide +kernel
theorem dX2_findNeeded_34 : decode cX2_findNeeded 34 = .ok (.iload_n 2, 1) := by decide +kernel
theorem dX2_findNeeded_35 : decode cX2_findNeeded 35 = .ok (.ifCond .eq 13, 3) := by decide +kernel
theorem dX2_findNeeded_38 : decode cX2_findNeeded 38 = .ok (.aload_n 0, 1) := by decide +kernel
theorem dX2_findNeeded_39 : decode cX2_findNeeded 39 = .ok (.getfield 48, 3) := by decide +kernel
theorem dX2_findNeeded_42 : decode cX2_findNeeded 42 = .ok (.invokevirtual 94, 3) := by decide +kernel
theorem dX2_findNeeded_45 : decode cX2_findNeeded 45 = .ok (.goto 4, 3) := by decide +kernel
theorem dX2_findNeeded_48 : decode cX2_findNeeded 48 = .ok (.iconst 0, 1) := by decide +kernel
theorem dX2_findNeeded_49 : decode cX2_findNeeded 49 = .ok (.invokevirtual 101, 3) := by decide +kernel
theorem dX2_findNeeded_52 : decode cX2_findNeeded 52 = .ok (.iinc 1 1, 3) := by decide +kernel
theorem dX2_findNeeded_55 : decode cX2_findNeeded 55 = .ok (.goto (-53), 3) := by decide +kernel
theorem dX2_findNeeded_58 : decode cX2_findNeeded 58 = .ok (.iconst 1, 1) := by decide +kernel
theorem dX2_findNeeded_59 : decode cX2_findNeeded 59 = .ok (.istore_n 1, 1) := by decide +kernel
theorem dX2_findNeeded_60 : decode cX2_findNeeded 60 = .ok (.iconst 0, 1) := by decide +kernel
theorem dX2_findNeeded_61 : decode cX2_findNeeded 61 = .ok (.istore_n 2, 1) := by decide +kernel
theorem dX2_findNeeded_62 : decode cX2_findNeeded 62 = .ok (.iload_n 2, 1) := by decide +kernel
theorem dX2_findNeeded_63 : decode cX2_findNeeded 63 = .ok (.sipush 1000, 3) := by decide +kernel
theorem dX2_findNeeded_66 : decode cX2_findNeeded 66 = .ok (.if_icmp .ge 18, 3) := by decide +kernel
theorem dX2_findNeeded_69 : decode cX2_findNeeded 69 = .ok (.iload_n 1, 1) := by decide +kernel
theorem dX2_findNeeded_70 : decode cX2_findNeeded 70 = .ok (.ifCond .eq 14, 3) := by decide +kernel
theorem dX2_findNeeded_73 : decode cX2_findNeeded 73 = .ok (.aload_n 0, 1) := by decide +kernel
theorem dX2_findNeeded_74 : decode cX2_findNeeded 74 = .ok (.invokevirtual 105, 3) := by decide +kernel
theorem dX2_findNeeded_77 : decode cX2_findNeeded 77 = .ok (.istore_n 1, 1) := by decide +kernel
theorem dX2_findNeeded_78 : decode cX2_findNeeded 78 = .ok (.iinc 2 1, 3) := by decide +kernel
theorem dX2_findNeeded_81 : decode cX2_findNeeded 81 = .ok (.goto (-19), 3) := by decide +kernel
theorem dX2_findNeeded_84 : decode cX2_findNeeded 84 = .ok (.return_, 1) := by decide +kernel
set_option maxRecDepth 20000 in
theorem ggX2_shrinkNeeded_X2_setNeededAtEnd : GoodIn wsX2_shrinkNeeded wsX2_setNeededAtEnd := goodIn_r _ [11, 4, 5, 12, 13, 14, 15, 16, 17, 18, 19, 20, 21, 22, 23, 24, 25, 26] (by decide +kernel) (by decide +kernel)
set_option maxRecDepth 20000 in
theorem gX2_shrinkNeeded_X2_setNeededAtEnd : GoodIn wsX2_shrinkNeeded (wsV RX2 101 RX2 yX2_setNeededAtEnd wsX2_setNeededAtEnd) := goodIn_app (goodIn_of _ (by decide +kernel)) ggX2_shrinkNeeded_X2_setNeededAtEnd
theorem dX2_shrinkNeeded_0 : decode cX2_shrinkNeeded 0 = .ok (.iconst 0, 1) := by decide +kernel
theorem dX2_shrinkNeeded_1 : decode cX2_shrinkNeeded 1 = .ok (.istore_n 1, 1) := by decide +kernel
theorem dX2_shrinkNeeded_2 : decode cX2_shrinkNeeded 2 = .ok (.aload_n 0, 1) := by decide +kernel
theorem dX2_shrinkNeeded_3 : decode cX2_shrinkNeeded 3 = .ok (.getfield 48, 3) := by decide +kernel
theorem dX2_shrinkNeeded_6 : decode cX2_shrinkNeeded 6 = .ok (.getfield 81, 3) := by decide +kernel
theorem dX2_shrinkNeeded_9 : decode cX2_shrinkNeeded 9 = .ok (.iconst 1, 1) := by decide +kernel
theorem dX2_shrinkNeeded_10 : decode cX2_shrinkNeeded 10 = .ok (.isub, 1) := by decide +kernel
theorem dX2_shrinkNeeded_11 : decode cX2_shrinkNeeded 11 = .ok (.istore_n 2, 1) := by decide +kernel
theorem dX2_shrinkNeeded_12 : decode cX2_shrinkNeeded 12 = .ok (.iload_n 2, 1) := by decide +kernel
theorem dX2_shrinkNeeded_13 : decode cX2_shrinkNeeded 13 = .ok (.ifCond .lt 62, 3) := by decide +kernel
theorem dX2_shrinkNeeded_16 : decode cX2_shrinkNeeded 16 = .ok (.aload_n 0, 1) := by decide +kernel
theorem dX2_shrinkNeeded_17 : decode cX2_shrinkNeeded 17 = .ok (.getfield 48, 3) := by decide +kernel
theorem dX2_shrinkNeeded_20 : decode cX2_shrinkNeeded 20 = .ok (.getfield 109, 3) := by decide +kernel
theorem dX2_shrinkNeeded_23 : decode cX2_shrinkNeeded 23 = .ok (.iload_n 2, 1) := by decide +kernel
theorem dX2_shrinkNeeded_24 : decode cX2_shrinkNeeded 24 = .ok (.iaload, 1) := by decide +kernel
theorem dX2_shrinkNeeded_25 : decode cX2_shrinkNeeded 25 = .ok (.istore_n 3, 1) := by decide +kernel
theorem dX2_shrinkNeeded_26 : decode cX2_shrinkNeeded 26 = .ok (.aload_n 0, 1) := by decide +kernel
theorem dX2_shrinkNeeded_27 : decode cX2_shrinkNeeded 27 = .ok (.getfield 24, 3) := by decide +kernel
theorem dX2_shrinkNeeded_30 : decode cX2_shrinkNeeded 30 = .ok (.iload_n 3, 1) := by decide +kernel
theorem dX2_shrinkNeeded_31 : decode cX2_shrinkNeeded 31 = .ok (.iaload, 1) := by decide +kernel
theorem dX2_shrinkNeeded_32 : decode cX2_shrinkNeeded 32 = .ok (.aload_n 0, 1) := by decide +kernel
theorem dX2_shrinkNeeded_33 : decode cX2_shrinkNeeded 33 = .ok (.getfield 21, 3) := by decide +kernel
theorem dX2_shrinkNeeded_36 : decode cX2_shrinkNeeded 36 = .ok (.aload_n 0, 1) := by decide +kernel
theorem dX2_shrinkNeeded_37 : decode cX2_shrinkNeeded 37 = .ok (.getfield 48, 3) := by decide +kernel
theorem dX2_shrinkNeeded_40 : decode cX2_shrinkNeeded 40 = .ok (.getfield 112, 3) := by decide +kernel
theorem dX2_shrinkNeeded_43 : decode cX2_shrinkNeeded 43 = .ok (.iload_n 2, 1) := by decide +kernel
theorem dX2_shrinkNeeded_44 : decode cX2_shrinkNeeded 44 = .ok (.iaload, 1) := by decide +kernel
theorem dX2_shrinkNeeded_45 : decode cX2_shrinkNeeded 45 = .ok (.iaload, 1) := by decide +kernel
theorem dX2_shrinkNeeded_46 : decode cX2_shrinkNeeded 46 = .ok (.iand, 1) := by decide +kernel
theorem dX2_shrinkNeeded_47 : decode cX2_shrinkNeeded 47 = .ok (.istore 4, 2) := by decide +kernel
theorem dX2_shrinkNeeded_49 : decode cX2_shrinkNeeded 49 = .ok (.iload 4, 2) := by decide +kernel
theorem dX2_shrinkNeeded_51 : decode cX2_shrinkNeeded 51 = .ok (.aload_n 0, 1) := by decide +kernel
theorem dX2_shrinkNeeded_52 : decode cX2_shrinkNeeded 52 = .ok (.getfield 24, 3) := by decide +kernel
theorem dX2_shrinkNeeded_55 : decode cX2_shrinkNeeded 55 = .ok (.iload_n 3, 1) := by decide +kernel
theorem dX2_shrinkNeeded_56 : decode cX2_shrinkNeeded 56 = .ok (.iaload, 1) := by decide +kernel
theorem dX2_shrinkNeeded_57 : decode cX2_shrinkNeeded 57 = .ok (.if_icmp .eq 12, 3) := by decide +kernel
theorem dX2_shrinkNeeded_60 : decode cX2_shrinkNeeded 60 = .ok (.aload_n 0, 1) := by decide +kernel
theorem dX2_shrinkNeeded_61 : decode cX2_shrinkNeeded 61 = .ok (.iload_n 3, 1) := by decide +kernel
theorem dX2_shrinkNeeded_62 : decode cX2_shrinkNeeded 62 = .ok (.iload 4, 2) := by decide +kernel
theorem dX2_shrinkNeeded_64 : decode cX2_shrinkNeeded 64 = .ok (.invokevirtual 101, 3) := by decide +kernel
theorem dX2_shrinkNeeded_67 : decode cX2_shrinkNeeded 67 = .ok (.iconst 1, 1) := by decide +kernel
theorem dX2_shrinkNeeded_68 : decode cX2_shrinkNeeded 68 = .ok (.istore_n 1, 1) := by decide +kernel
theorem dX2_shrinkNeeded_69 : decode cX2_shrinkNeeded 69 = .ok (.iinc 2 (-1), 3) := by decide +kernel
theorem dX2_shrinkNeeded_72 : decode cX2_shrinkNeeded 72 = .ok (.goto (-60), 3) := by decide +kernel
theorem dX2_shrinkNeeded_75 : decode cX2_shrinkNeeded 75 = .ok (.iload_n 1, 1) := by decide +kernel
theorem dX2_shrinkNeeded_76 : decode cX2_shrinkNeeded 76 = .ok (.ireturn, 1) := by decide +kernel
theorem dX2_setNeededAtEnd_0 : decode cX2_setNeededAtEnd 0 = .ok (.aload_n 0, 1) := by decide +kernel
theorem dX2_setNeededAtEnd_1 : decode cX2_setNeededAtEnd 1 = .ok (.getfield 24, 3) := by decide +kernel
theorem dX2_setNeededAtEnd_4 : decode cX2_setNeededAtEnd 4 = .ok (.iload_n 1, 1) := by decide +kernel
theorem dX2_setNeededAtEnd_5 : decode cX2_setNeededAtEnd 5 = .ok (.iload_n 2, 1) := by decide +kernel
theorem dX2_setNeededAtEnd_6 : decode cX2_setNeededAtEnd 6 = .ok (.iastore, 1) := by decide +kernel
theorem dX2_setNeededAtEnd_7 : decode cX2_setNeededAtEnd 7 = .ok (.aload_n 0, 1) := by decide +kernel
theorem dX2_setNeededAtEnd_8 : decode cX2_setNeededAtEnd 8 = .ok (.getfield 21, 3) := by decide +kernel
theorem dX2_setNeededAtEnd_11 : decode cX2_setNeededAtEnd 11 = .ok (.iload_n 1, 1) := by decide +kernel
theorem dX2_setNeededAtEnd_12 : decode cX2_setNeededAtEnd 12 = .ok (.aload_n 0, 1) := by decide +kernel
theorem dX2_setNeededAtEnd_13 : decode cX2_setNeededAtEnd 13 = .ok (.getfield 15, 3) := by decide +kernel
theorem dX2_setNeededAtEnd_16 : decode cX2_setNeededAtEnd 16 = .ok (.iload_n 1, 1) := by decide +kernel
theorem dX2_setNeededAtEnd_17 : decode cX2_setNeededAtEnd 17 = .ok (.iaload, 1) := by decide +kernel
theorem dX2_setNeededAtEnd_18 : decode cX2_setNeededAtEnd 18 = .ok (.aload_n 0, 1) := by decide +kernel
theorem dX2_setNeededAtEnd_19 : decode cX2_setNeededAtEnd 19 = .ok (.getfield 9, 3) := by decide +kernel
theorem dX2_setNeededAtEnd_22 : decode cX2_setNeededAtEnd 22 = .ok (.iload_n 1, 1) := by decide +kernel
theorem dX2_setNeededAtEnd_23 : decode cX2_setNeededAtEnd 23 = .ok (.iaload, 1) := by decide +kernel
theorem dX2_setNeededAtEnd_24 : decode cX2_setNeededAtEnd 24 = .ok (.iload_n 2, 1) := by decide +kernel
theorem dX2_setNeededAtEnd_25 : decode cX2_setNeededAtEnd 25 = .ok (.iand, 1) := by decide +kernel
theorem dX2_setNeededAtEnd_26 : decode cX2_setNeededAtEnd 26 = .ok (.ior, 1) := by decide +kernel
theorem dX2_setNeededAtEnd_27 : decode cX2_setNeededAtEnd 27 = .ok (.iastore, 1) := by decide +kernel
theorem dX2_setNeededAtEnd_28 : decode cX2_setNeededAtEnd 28 = .ok (.return_, 1) := by decide +kernel
set_option maxRecDepth 20000 in
theorem ggX2_findThere_X2_fillWhereEdgesLead : GoodIn wsX2_findThere wsX2_fillWhereEdgesLead := goodIn_r _ [8, 2, 3, 9, 10, 11, 12, 13, 14, 15, 16, 29, 30, 31, 32, 33, 34, 35, 36, 37, 38, 39, 40, 41, 42, 43, 44, 45, 46, 47, 48, 49, 50, 51, 52, 53] (by decide +kernel) (by decide +kernel)
set_option maxRecDepth 20000 in
theorem gX2_findThere_X2_fillWhereEdgesLead : GoodIn wsX2_findThere (wsV RX2 115 RX2 yX2_fillWhereEdgesLead wsX2_fillWhereEdgesLead) := goodIn_app (goodIn_of _ (by decide +kernel)) ggX2_findThere_X2_fillWhereEdgesLead
set_option maxRecDepth 20000 in
theorem ggX2_findThere_X2_setThereAtStart : GoodIn wsX2_findThere wsX2_setThereAtStart := goodIn_r _ [20, 1, 21, 22, 23, 29, 30, 31, 32, 33, 34, 35, 36, 37, 38, 39, 40, 41] (by decide +kernel) (by decide +kernel)
set_option maxRecDepth 20000 in
theorem gX2_findThere_X2_setThereAtStart : GoodIn wsX2_findThere (wsV RX2 119 RX2 yX2_setThereAtStart wsX2_setThereAtStart) := goodIn_app (goodIn_of _ (by decide +kernel)) ggX2_findThere_X2_setThereAtStart
set_option maxRecDepth 20000 in
theorem ggX2_findThere_X2_shrinkThere : GoodIn wsX2_findThere wsX2_shrinkThere := goodIn_r _ [27, 2, 9, 10, 1, 21, 28, 17, 18, 19, 7, 20, 22, 23, 29, 30, 31, 32, 33, 34, 35, 36, 37, 38, 39, 40, 41, 42, 43, 44, 45, 46, 47, 48, 49, 50, 51, 52, 53] (by decide +kernel) (by decide +kernel)
set_option maxRecDepth 20000 in
theorem gX2_findThere_X2_shrinkThere : GoodIn wsX2_findThere (wsV RX2 122 RX2 yX2_shrinkThere wsX2_shrinkThere) := goodIn_app (goodIn_of _ (by decide +kernel)) ggX2_findThere_X2_shrinkThere
theorem dX2_findThere_0 : decode cX2_findThere 0 = .ok (.aload_n 0, 1) := by decide +kernel
theorem dX2_findThere_1 : decode cX2_findThere 1 = .ok (.aload_n 0, 1) := by decide +kernel
theorem dX2_findThere_2 : decode cX2_findThere 2 = .ok (.getfield 27, 3) := by decide +kernel
theorem dX2_findThere_5 : decode cX2_findThere 5 = .ok (.invokevirtual 115, 3) := by decide +kernel
theorem dX2_findThere_8 : decode cX2_findThere 8 = .ok (.iconst 0, 1) := by decide +kernel
theorem dX2_findThere_9 : decode cX2_findThere 9 = .ok (.istore_n 1, 1) := by decide +kernel
theorem dX2_findThere_10 : decode cX2_findThere 10 = .ok (.iload_n 1, 1) := by decide +kernel
theorem dX2_findThere_11 : decode cX2_findThere 11 = .ok (.aload_n 0, 1) := by decide +kernel
theorem dX2_findThere_12 : decode cX2_findThere 12 = .ok (.getfield 48, 3) := by decide +kernel
theorem dX2_findThere_15 : decode cX2_findThere 15 = .ok (.getfield 58, 3) := by decide +kernel
theorem dX2_findThere_18 : decode cX2_findThere 18 = .ok (.if_icmp .ge 20, 3) := by decide +kernel
theorem dX2_findThere_21 : decode cX2_findThere 21 = .ok (.aload_n 0, 1) := by decide +kernel
theorem dX2_findThere_22 : decode cX2_findThere 22 = .ok (.iload_n 1, 1) := by decide +kernel
theorem dX2_findThere_23 : decode cX2_findThere 23 = .ok (.aload_n 0, 1) := by decide +kernel
theorem dX2_findThere_24 : decode cX2_findThere 24 = .ok (.getfield 27, 3) := by decide +kernel
theorem dX2_findThere_27 : decode cX2_findThere 27 = .ok (.iload_n 1, 1) := by decide +kernel
theorem dX2_findThere_28 : decode cX2_findThere 28 = .ok (.iaload, 1) := by decide +kernel
theorem dX2_findThere_29 : decode cX2_findThere 29 = .ok (.invokevirtual 119, 3) := by decide +kernel
theorem dX2_findThere_32 : decode cX2_findThere 32 = .ok (.iinc 1 1, 3) := by decide +kernel
theorem dX2_findThere_35 : decode cX2_findThere 35 = .ok (.goto (-25), 3) := by decide +kernel
theorem dX2_findThere_38 : decode cX2_findThere 38 = .ok (.iconst 1, 1) := by decide +kernel
theorem dX2_findThere_39 : decode cX2_findThere 39 = .ok (.istore_n 1, 1) := by decide +kernel
theorem dX2_findThere_40 : decode cX2_findThere 40 = .ok (.iconst 0, 1) := by decide +kernel
theorem dX2_findThere_41 : decode cX2_findThere 41 = .ok (.istore_n 2, 1) := by decide +kernel
theorem dX2_findThere_42 : decode cX2_findThere 42 = .ok (.iload_n 2, 1) := by decide +kernel
theorem dX2_findThere_43 : decode cX2_findThere 43 = .ok (.sipush 1000, 3) := by decide +kernel
theorem dX2_findThere_46 : decode cX2_findThere 46 = .ok (.if_icmp .ge 18, 3) := by decide +kernel
theorem dX2_findThere_49 : decode cX2_findThere 49 = .ok (.iload_n 1, 1) := by decide +kernel
theorem dX2_findThere_50 : decode cX2_findThere 50 = .ok (.ifCond .eq 14, 3) := by decide +kernel
theorem dX2_findThere_53 : decode cX2_findThere 53 = .ok (.aload_n 0, 1) := by decide +kernel
theorem dX2_findThere_54 : decode cX2_findThere 54 = .ok (.invokevirtual 122, 3) := by decide +kernel
theorem dX2_findThere_57 : decode cX2_findThere 57 = .ok (.istore_n 1, 1) := by decide +kernel
theorem dX2_findThere_58 : decode cX2_findThere 58 = .ok (.iinc 2 1, 3) := by decide +kernel
theorem dX2_findThere_61 : decode cX2_findThere 61 = .ok (.goto (-19), 3) := by decide +kernel
theorem dX2_findThere_64 : decode cX2_findThere 64 = .ok (.return_, 1) := by decide +kernel
set_option maxRecDepth 20000 in
theorem ggX2_shrinkThere_X2_setThereAtStart : GoodIn wsX2_shrinkThere wsX2_setThereAtStart := goodIn_r _ [11, 4, 5, 12, 13, 14, 15, 16, 17, 18, 19, 20, 21, 22, 23, 24, 25, 26] (by decide +kernel) (by decide +kernel)
set_option maxRecDepth 20000 in
theorem gX2_shrinkThere_X2_setThereAtStart : GoodIn wsX2_shrinkThere (wsV RX2 119 RX2 yX2_setThereAtStart wsX2_setThereAtStart) := goodIn_app (goodIn_of _ (by decide +kernel)) ggX2_shrinkThere_X2_setThereAtStart
theorem dX2_shrinkThere_0 : decode cX2_shrinkThere 0 = .ok (.iconst 0, 1) := by decide +kernel
theorem dX2_shrinkThere_1 : decode cX2_shrinkThere 1 = .ok (.istore_n 1, 1) := by decide +kernel
theorem dX2_shrinkThere_2 : decode cX2_shrinkThere 2 = .ok (.iconst 0, 1) := by decide +kernel
theorem dX2_shrinkThere_3 : decode cX2_shrinkThere 3 = .ok (.istore_n 2, 1) := by decide +kernel
theorem dX2_shrinkThere_4 : decode cX2_shrinkThere 4 = .ok (.iload_n 2, 1) := by decide +kernel
theorem dX2_shrinkThere_5 : decode cX2_shrinkThere 5 = .ok (.aload_n 0, 1) := by decide +kernel
theorem dX2_shrinkThere_6 : decode cX2_shrinkThere 6 = .ok (.getfield 48, 3) := by decide +kernel
theorem dX2_shrinkThere_9 : decode cX2_shrinkThere 9 = .ok (.getfield 81, 3) := by decide +kernel
theorem dX2_shrinkThere_12 : decode cX2_shrinkThere 12 = .ok (.if_icmp .ge 62, 3) := by decide +kernel
theorem dX2_shrinkThere_15 : decode cX2_shrinkThere 15 = .ok (.aload_n 0, 1) := by decide +kernel
theorem dX2_shrinkThere_16 : decode cX2_shrinkThere 16 = .ok (.getfield 48, 3) := by decide +kernel
theorem dX2_shrinkThere_19 : decode cX2_shrinkThere 19 = .ok (.getfield 112, 3) := by decide +kernel
theorem dX2_shrinkThere_22 : decode cX2_shrinkThere 22 = .ok (.iload_n 2, 1) := by decide +kernel
theorem dX2_shrinkThere_23 : decode cX2_shrinkThere 23 = .ok (.iaload, 1) := by decide +kernel
theorem dX2_shrinkThere_24 : decode cX2_shrinkThere 24 = .ok (.istore_n 3, 1) := by decide +kernel
theorem dX2_shrinkThere_25 : decode cX2_shrinkThere 25 = .ok (.aload_n 0, 1) := by decide +kernel
theorem dX2_shrinkThere_26 : decode cX2_shrinkThere 26 = .ok (.getfield 27, 3) := by decide +kernel
theorem dX2_shrinkThere_29 : decode cX2_shrinkThere 29 = .ok (.iload_n 3, 1) := by decide +kernel
theorem dX2_shrinkThere_30 : decode cX2_shrinkThere 30 = .ok (.iaload, 1) := by decide +kernel
theorem dX2_shrinkThere_31 : decode cX2_shrinkThere 31 = .ok (.aload_n 0, 1) := by decide +kernel
theorem dX2_shrinkThere_32 : decode cX2_shrinkThere 32 = .ok (.getfield 30, 3) := by decide +kernel
theorem dX2_shrinkThere_35 : decode cX2_shrinkThere 35 = .ok (.aload_n 0, 1) := by decide +kernel
theorem dX2_shrinkThere_36 : decode cX2_shrinkThere 36 = .ok (.getfield 48, 3) := by decide +kernel
theorem dX2_shrinkThere_39 : decode cX2_shrinkThere 39 = .ok (.getfield 109, 3) := by decide +kernel
theorem dX2_shrinkThere_42 : decode cX2_shrinkThere 42 = .ok (.iload_n 2, 1) := by decide +kernel
theorem dX2_shrinkThere_43 : decode cX2_shrinkThere 43 = .ok (.iaload, 1) := by decide +kernel
theorem dX2_shrinkThere_44 : decode cX2_shrinkThere 44 = .ok (.iaload, 1) := by decide +kernel
theorem dX2_shrinkThere_45 : decode cX2_shrinkThere 45 = .ok (.iand, 1) := by decide +kernel
theorem dX2_shrinkThere_46 : decode cX2_shrinkThere 46 = .ok (.istore 4, 2) := by decide +kernel
theorem dX2_shrinkThere_48 : decode cX2_shrinkThere 48 = .ok (.iload 4, 2) := by decide +kernel
theorem dX2_shrinkThere_50 : decode cX2_shrinkThere 50 = .ok (.aload_n 0, 1) := by decide +kernel
theorem dX2_shrinkThere_51 : decode cX2_shrinkThere 51 = .ok (.getfield 27, 3) := by decide +kernel
theorem dX2_shrinkThere_54 : decode cX2_shrinkThere 54 = .ok (.iload_n 3, 1) := by decide +kernel
theorem dX2_shrinkThere_55 : decode cX2_shrinkThere 55 = .ok (.iaload, 1) := by decide +kernel
theorem dX2_shrinkThere_56 : decode cX2_shrinkThere 56 = .ok (.if_icmp .eq 12, 3) := by decide +kernel
theorem dX2_shrinkThere_59 : decode cX2_shrinkThere 59 = .ok (.aload_n 0, 1) := by decide +kernel
theorem dX2_shrinkThere_60 : decode cX2_shrinkThere 60 = .ok (.iload_n 3, 1) := by decide +kernel
theorem dX2_shrinkThere_61 : decode cX2_shrinkThere 61 = .ok (.iload 4, 2) := by decide +kernel
theorem dX2_shrinkThere_63 : decode cX2_shrinkThere 63 = .ok (.invokevirtual 119, 3) := by decide +kernel
theorem dX2_shrinkThere_66 : decode cX2_shrinkThere 66 = .ok (.iconst 1, 1) := by decide +kernel
theorem dX2_shrinkThere_67 : decode cX2_shrinkThere 67 = .ok (.istore_n 1, 1) := by decide +kernel
theorem dX2_shrinkThere_68 : decode cX2_shrinkThere 68 = .ok (.iinc 2 1, 3) := by decide +kernel
theorem dX2_shrinkThere_71 : decode cX2_shrinkThere 71 = .ok (.goto (-67), 3) := by decide +kernel
theorem dX2_shrinkThere_74 : decode cX2_shrinkThere 74 = .ok (.iload_n 1, 1) := by decide +kernel
theorem dX2_shrinkThere_75 : decode cX2_shrinkThere 75 = .ok (.ireturn, 1) := by decide +kernel
theorem dX2_setThereAtStart_0 : decode cX2_setThereAtStart 0 = .ok (.aload_n 0, 1) := by decide +kernel
theorem dX2_setThereAtStart_1 : decode cX2_setThereAtStart 1 = .ok (.getfield 27, 3) := by decide +kernel
theorem dX2_setThereAtStart_4 : decode cX2_setThereAtStart 4 = .ok (.iload_n 1, 1) := by decide +kernel
theorem dX2_setThereAtStart_5 : decode cX2_setThereAtStart 5 = .ok (.iload_n 2, 1) := by decide +kernel
theorem dX2_setThereAtStart_6 : decode cX2_setThereAtStart 6 = .ok (.iastore, 1) := by decide +kernel
theorem dX2_setThereAtStart_7 : decode cX2_setThereAtStart 7 = .ok (.aload_n 0, 1) := by decide +kernel
theorem dX2_setThereAtStart_8 : decode cX2_setThereAtStart 8 = .ok (.getfield 30, 3) := by decide +kernel
theorem dX2_setThereAtStart_11 : decode cX2_setThereAtStart 11 = .ok (.iload_n 1, 1) := by decide +kernel
theorem dX2_setThereAtStart_12 : decode cX2_setThereAtStart 12 = .ok (.aload_n 0, 1) := by decide +kernel
theorem dX2_setThereAtStart_13 : decode cX2_setThereAtStart 13 = .ok (.getfield 18, 3) := by decide +kernel
theorem dX2_setThereAtStart_16 : decode cX2_setThereAtStart 16 = .ok (.iload_n 1, 1) := by decide +kernel
theorem dX2_setThereAtStart_17 : decode cX2_setThereAtStart 17 = .ok (.iaload, 1) := by decide +kernel
theorem dX2_setThereAtStart_18 : decode cX2_setThereAtStart 18 = .ok (.aload_n 0, 1) := by decide +kernel
theorem dX2_setThereAtStart_19 : decode cX2_setThereAtStart 19 = .ok (.getfield 9, 3) := by decide +kernel
theorem dX2_setThereAtStart_22 : decode cX2_setThereAtStart 22 = .ok (.iload_n 1, 1) := by decide +kernel
theorem dX2_setThereAtStart_23 : decode cX2_setThereAtStart 23 = .ok (.iaload, 1) := by decide +kernel
theorem dX2_setThereAtStart_24 : decode cX2_setThereAtStart 24 = .ok (.iload_n 2, 1) := by decide +kernel
theorem dX2_setThereAtStart_25 : decode cX2_setThereAtStart 25 = .ok (.iand, 1) := by decide +kernel
theorem dX2_setThereAtStart_26 : decode cX2_setThereAtStart 26 = .ok (.ior, 1) := by decide +kernel
theorem dX2_setThereAtStart_27 : decode cX2_setThereAtStart 27 = .ok (.iastore, 1) := by decide +kernel
theorem dX2_setThereAtStart_28 : decode cX2_setThereAtStart 28 = .ok (.return_, 1) := by decide +kernel
set_option maxRecDepth 20000 in
theorem ggX2_fillWhereEdgesLead_X1_allExpressions : GoodIn wsX2_fillWhereEdgesLead wsX1_allExpressions := goodIn_r _ [9, 10, 24, 25, 26, 27, 28, 29, 30, 31, 32, 33, 34, 35] (by decide +kernel) (by decide +kernel)
set_option maxRecDepth 20000 in
theorem gX2_fillWhereEdgesLead_X1_allExpressions : GoodIn wsX2_fillWhereEdgesLead (wsV RX2 94 RX1 yX1_allExpressions wsX1_allExpressions) := goodIn_app (goodIn_of _ (by decide +kernel)) ggX2_fillWhereEdgesLead_X1_allExpressions
theorem dX2_fillWhereEdgesLead_0 : decode cX2_fillWhereEdgesLead 0 = .ok (.iconst 0, 1) := by decide +kernel
theorem dX2_fillWhereEdgesLead_1 : decode cX2_fillWhereEdgesLead 1 = .ok (.istore_n 2, 1) := by decide +kernel
theorem dX2_fillWhereEdgesLead_2 : decode cX2_fillWhereEdgesLead 2 = .ok (.iload_n 2, 1) := by decide +kernel
theorem dX2_fillWhereEdgesLead_3 : decode cX2_fillWhereEdgesLead 3 = .ok (.aload_n 0, 1) := by decide +kernel
theorem dX2_fillWhereEdgesLead_4 : decode cX2_fillWhereEdgesLead 4 = .ok (.getfield 48, 3) := by decide +kernel
theorem dX2_fillWhereEdgesLead_7 : decode cX2_fillWhereEdgesLead 7 = .ok (.getfield 58, 3) := by decide +kernel
theorem dX2_fillWhereEdgesLead_10 : decode cX2_fillWhereEdgesLead 10 = .ok (.if_icmp .ge 13, 3) := by decide +kernel
theorem dX2_fillWhereEdgesLead_13 : decode cX2_fillWhereEdgesLead 13 = .ok (.aload_n 1, 1) := by decide +kernel
theorem dX2_fillWhereEdgesLead_14 : decode cX2_fillWhereEdgesLead 14 = .ok (.iload_n 2, 1) := by decide +kernel
theorem dX2_fillWhereEdgesLead_15 : decode cX2_fillWhereEdgesLead 15 = .ok (.iconst 0, 1) := by decide +kernel
theorem dX2_fillWhereEdgesLead_16 : decode cX2_fillWhereEdgesLead 16 = .ok (.iastore, 1) := by decide +kernel
theorem dX2_fillWhereEdgesLead_17 : decode cX2_fillWhereEdgesLead 17 = .ok (.iinc 2 1, 3) := by decide +kernel
theorem dX2_fillWhereEdgesLead_20 : decode cX2_fillWhereEdgesLead 20 = .ok (.goto (-18), 3) := by decide +kernel
theorem dX2_fillWhereEdgesLead_23 : decode cX2_fillWhereEdgesLead 23 = .ok (.iconst 0, 1) := by decide +kernel
theorem dX2_fillWhereEdgesLead_24 : decode cX2_fillWhereEdgesLead 24 = .ok (.istore_n 2, 1) := by decide +kernel
theorem dX2_fillWhereEdgesLead_25 : decode cX2_fillWhereEdgesLead 25 = .ok (.iload_n 2, 1) := by decide +kernel
theorem dX2_fillWhereEdgesLead_26 : decode cX2_fillWhereEdgesLead 26 = .ok (.aload_n 0, 1) := by decide +kernel
theorem dX2_fillWhereEdgesLead_27 : decode cX2_fillWhereEdgesLead 27 = .ok (.getfield 48, 3) := by decide +kernel
theorem dX2_fillWhereEdgesLead_30 : decode cX2_fillWhereEdgesLead 30 = .ok (.getfield 81, 3) := by decide +kernel
theorem dX2_fillWhereEdgesLead_33 : decode cX2_fillWhereEdgesLead 33 = .ok (.if_icmp .ge 27, 3) := by decide +kernel
theorem dX2_fillWhereEdgesLead_36 : decode cX2_fillWhereEdgesLead 36 = .ok (.aload_n 1, 1) := by decide +kernel
theorem dX2_fillWhereEdgesLead_37 : decode cX2_fillWhereEdgesLead 37 = .ok (.aload_n 0, 1) := by decide +kernel
theorem dX2_fillWhereEdgesLead_38 : decode cX2_fillWhereEdgesLead 38 = .ok (.getfield 48, 3) := by decide +kernel
theorem dX2_fillWhereEdgesLead_41 : decode cX2_fillWhereEdgesLead 41 = .ok (.getfield 112, 3) := by decide +kernel
theorem dX2_fillWhereEdgesLead_44 : decode cX2_fillWhereEdgesLead 44 = .ok (.iload_n 2, 1) := by decide +kernel
theorem dX2_fillWhereEdgesLead_45 : decode cX2_fillWhereEdgesLead 45 = .ok (.iaload, 1) := by decide +kernel
theorem dX2_fillWhereEdgesLead_46 : decode cX2_fillWhereEdgesLead 46 = .ok (.aload_n 0, 1) := by decide +kernel
theorem dX2_fillWhereEdgesLead_47 : decode cX2_fillWhereEdgesLead 47 = .ok (.getfield 48, 3) := by decide +kernel
theorem dX2_fillWhereEdgesLead_50 : decode cX2_fillWhereEdgesLead 50 = .ok (.invokevirtual 94, 3) := by decide +kernel
theorem dX2_fillWhereEdgesLead_53 : decode cX2_fillWhereEdgesLead 53 = .ok (.iastore, 1) := by decide +kernel
theorem dX2_fillWhereEdgesLead_54 : decode cX2_fillWhereEdgesLead 54 = .ok (.iinc 2 1, 3) := by decide +kernel
theorem dX2_fillWhereEdgesLead_57 : decode cX2_fillWhereEdgesLead 57 = .ok (.goto (-32), 3) := by decide +kernel
theorem dX2_fillWhereEdgesLead_60 : decode cX2_fillWhereEdgesLead 60 = .ok (.return_, 1) := by decide +kernel
theorem dX2_findEarliest_0 : decode cX2_findEarliest 0 = .ok (.iconst 0, 1) := by decide +kernel
theorem dX2_findEarliest_1 : decode cX2_findEarliest 1 = .ok (.istore_n 1, 1) := by decide +kernel
theorem dX2_findEarliest_2 : decode cX2_findEarliest 2 = .ok (.iload_n 1, 1) := by decide +kernel
theorem dX2_findEarliest_3 : decode cX2_findEarliest 3 = .ok (.aload_n 0, 1) := by decide +kernel
theorem dX2_findEarliest_4 : decode cX2_findEarliest 4 = .ok (.getfield 48, 3) := by decide +kernel
theorem dX2_findEarliest_7 : decode cX2_findEarliest 7 = .ok (.getfield 81, 3) := by decide +kernel
theorem dX2_findEarliest_10 : decode cX2_findEarliest 10 = .ok (.if_icmp .ge 66, 3) := by decide +kernel
theorem dX2_findEarliest_13 : decode cX2_findEarliest 13 = .ok (.aload_n 0, 1) := by decide +kernel
theorem dX2_findEarliest_14 : decode cX2_findEarliest 14 = .ok (.getfield 48, 3) := by decide +kernel
theorem dX2_findEarliest_17 : decode cX2_findEarliest 17 = .ok (.getfield 109, 3) := by decide +kernel
theorem dX2_findEarliest_20 : decode cX2_findEarliest 20 = .ok (.iload_n 1, 1) := by decide +kernel
theorem dX2_findEarliest_21 : decode cX2_findEarliest 21 = .ok (.iaload, 1) := by decide +kernel
theorem dX2_findEarliest_22 : decode cX2_findEarliest 22 = .ok (.istore_n 2, 1) := by decide +kernel
theorem dX2_findEarliest_23 : decode cX2_findEarliest 23 = .ok (.aload_n 0, 1) := by decide +kernel
theorem dX2_findEarliest_24 : decode cX2_findEarliest 24 = .ok (.getfield 21, 3) := by decide +kernel
theorem dX2_findEarliest_27 : decode cX2_findEarliest 27 = .ok (.aload_n 0, 1) := by decide +kernel
theorem dX2_findEarliest_28 : decode cX2_findEarliest 28 = .ok (.getfield 48, 3) := by decide +kernel
theorem dX2_findEarliest_31 : decode cX2_findEarliest 31 = .ok (.getfield 112, 3) := by decide +kernel
theorem dX2_findEarliest_34 : decode cX2_findEarliest 34 = .ok (.iload_n 1, 1) := by decide +kernel
theorem dX2_findEarliest_35 : decode cX2_findEarliest 35 = .ok (.iaload, 1) := by decide +kernel
theorem dX2_findEarliest_36 : decode cX2_findEarliest 36 = .ok (.iaload, 1) := by decide +kernel
theorem dX2_findEarliest_37 : decode cX2_findEarliest 37 = .ok (.aload_n 0, 1) := by decide +kernel
theorem dX2_findEarliest_38 : decode cX2_findEarliest 38 = .ok (.getfield 30, 3) := by decide +kernel
theorem dX2_findEarliest_41 : decode cX2_findEarliest 41 = .ok (.iload_n 2, 1) := by decide +kernel
theorem dX2_findEarliest_42 : decode cX2_findEarliest 42 = .ok (.iaload, 1) := by decide +kernel
theorem dX2_findEarliest_43 : decode cX2_findEarliest 43 = .ok (.iconst (-1), 1) := by decide +kernel
theorem dX2_findEarliest_44 : decode cX2_findEarliest 44 = .ok (.ixor, 1) := by decide +kernel
theorem dX2_findEarliest_45 : decode cX2_findEarliest 45 = .ok (.iand, 1) := by decide +kernel
theorem dX2_findEarliest_46 : decode cX2_findEarliest 46 = .ok (.istore_n 3, 1) := by decide +kernel
theorem dX2_findEarliest_47 : decode cX2_findEarliest 47 = .ok (.aload_n 0, 1) := by decide +kernel
theorem dX2_findEarliest_48 : decode cX2_findEarliest 48 = .ok (.getfield 39, 3) := by decide +kernel
theorem dX2_findEarliest_51 : decode cX2_findEarliest 51 = .ok (.iload_n 1, 1) := by decide +kernel
theorem dX2_findEarliest_52 : decode cX2_findEarliest 52 = .ok (.iload_n 3, 1) := by decide +kernel
theorem dX2_findEarliest_53 : decode cX2_findEarliest 53 = .ok (.aload_n 0, 1) := by decide +kernel
theorem dX2_findEarliest_54 : decode cX2_findEarliest 54 = .ok (.getfield 9, 3) := by decide +kernel
theorem dX2_findEarliest_57 : decode cX2_findEarliest 57 = .ok (.iload_n 2, 1) := by decide +kernel
theorem dX2_findEarliest_58 : decode cX2_findEarliest 58 = .ok (.iaload, 1) := by decide +kernel
theorem dX2_findEarliest_59 : decode cX2_findEarliest 59 = .ok (.aload_n 0, 1) := by decide +kernel
theorem dX2_findEarliest_60 : decode cX2_findEarliest 60 = .ok (.getfield 24, 3) := by decide +kernel
theorem dX2_findEarliest_63 : decode cX2_findEarliest 63 = .ok (.iload_n 2, 1) := by decide +kernel
theorem dX2_findEarliest_64 : decode cX2_findEarliest 64 = .ok (.iaload, 1) := by decide +kernel
theorem dX2_findEarliest_65 : decode cX2_findEarliest 65 = .ok (.iand, 1) := by decide +kernel
theorem dX2_findEarliest_66 : decode cX2_findEarliest 66 = .ok (.iconst (-1), 1) := by decide +kernel
theorem dX2_findEarliest_67 : decode cX2_findEarliest 67 = .ok (.ixor, 1) := by decide +kernel
theorem dX2_findEarliest_68 : decode cX2_findEarliest 68 = .ok (.iand, 1) := by decide +kernel
theorem dX2_findEarliest_69 : decode cX2_findEarliest 69 = .ok (.iastore, 1) := by decide +kernel
theorem dX2_findEarliest_70 : decode cX2_findEarliest 70 = .ok (.iinc 1 1, 3) := by decide +kernel
theorem dX2_findEarliest_73 : decode cX2_findEarliest 73 = .ok (.goto (-71), 3) := by decide +kernel
theorem dX2_findEarliest_76 : decode cX2_findEarliest 76 = .ok (.return_, 1) := by decide +kernel
set_option maxRecDepth 20000 in
theorem ggX2_findDelayed_X2_fillWhereEdgesLead : GoodIn wsX2_findDelayed wsX2_fillWhereEdgesLead := goodIn_r _ [10, 3, 11, 4, 12, 13, 14, 15, 16, 17, 18, 30, 31, 32, 33, 34, 35, 36, 37, 38, 39, 40, 41, 42, 43, 44, 45, 46, 47, 48, 49, 50, 51, 52, 53, 54] (by decide +kernel) (by decide +kernel)
set_option maxRecDepth 20000 in
theorem gX2_findDelayed_X2_fillWhereEdgesLead : GoodIn wsX2_findDelayed (wsV RX2 115 RX2 yX2_fillWhereEdgesLead wsX2_fillWhereEdgesLead) := goodIn_app (goodIn_of _ (by decide +kernel)) ggX2_findDelayed_X2_fillWhereEdgesLead
set_option maxRecDepth 20000 in
theorem ggX2_findDelayed_X2_shrinkDelayed : GoodIn wsX2_findDelayed wsX2_shrinkDelayed := goodIn_r _ [22, 3, 4, 12, 1, 23, 24, 25, 9, 26, 27, 28, 29, 30, 31, 32, 33, 34, 35, 36, 37, 38, 39, 40, 41, 42, 43, 44, 45, 46, 47, 48, 49, 50, 51, 52, 53, 54] (by decide +kernel) (by decide +kernel)
set_option maxRecDepth 20000 in
theorem gX2_findDelayed_X2_shrinkDelayed : GoodIn wsX2_findDelayed (wsV RX2 125 RX2 yX2_shrinkDelayed wsX2_shrinkDelayed) := goodIn_app (goodIn_of _ (by decide +kernel)) ggX2_findDelayed_X2_shrinkDelayed
set_option maxRecDepth 20000 in
theorem ggX2_findDelayed_X2_findDelayedOnEdge : GoodIn wsX2_findDelayed wsX2_findDelayedOnEdge := goodIn_r _ [26, 3, 27, 28, 1, 29, 30, 31, 32, 33, 34, 35, 36, 37, 38, 39, 40, 41, 42, 43, 44, 45, 46, 47, 48, 49, 50, 51, 52, 53, 54] (by decide +kernel) (by decide +kernel)
set_option maxRecDepth 20000 in
theorem gX2_findDelayed_X2_findDelayedOnEdge : GoodIn wsX2_findDelayed (wsV RX2 128 RX2 yX2_findDelayedOnEdge wsX2_findDelayedOnEdge) := goodIn_app (goodIn_of _ (by decide +kernel)) ggX2_findDelayed_X2_findDelayedOnEdge
theorem dX2_findDelayed_0 : decode cX2_findDelayed 0 = .ok (.aload_n 0, 1) := by decide +kernel
theorem dX2_findDelayed_1 : decode cX2_findDelayed 1 = .ok (.aload_n 0, 1) := by decide +kernel
theorem dX2_findDelayed_2 : decode cX2_findDelayed 2 = .ok (.getfield 33, 3) := by decide +kernel
theorem dX2_findDelayed_5 : decode cX2_findDelayed 5 = .ok (.invokevirtual 115, 3) := by decide +kernel
theorem dX2_findDelayed_8 : decode cX2_findDelayed 8 = .ok (.aload_n 0, 1) := by decide +kernel
theorem dX2_findDelayed_9 : decode cX2_findDelayed 9 = .ok (.getfield 33, 3) := by decide +kernel
theorem dX2_findDelayed_12 : decode cX2_findDelayed 12 = .ok (.iconst 0, 1) := by decide +kernel
theorem dX2_findDelayed_13 : decode cX2_findDelayed 13 = .ok (.aload_n 0, 1) := by decide +kernel
theorem dX2_findDelayed_14 : decode cX2_findDelayed 14 = .ok (.getfield 21, 3) := by decide +kernel
theorem dX2_findDelayed_17 : decode cX2_findDelayed 17 = .ok (.iconst 0, 1) := by decide +kernel
theorem dX2_findDelayed_18 : decode cX2_findDelayed 18 = .ok (.iaload, 1) := by decide +kernel
theorem dX2_findDelayed_19 : decode cX2_findDelayed 19 = .ok (.iastore, 1) := by decide +kernel
theorem dX2_findDelayed_20 : decode cX2_findDelayed 20 = .ok (.iconst 1, 1) := by decide +kernel
theorem dX2_findDelayed_21 : decode cX2_findDelayed 21 = .ok (.istore_n 1, 1) := by decide +kernel
theorem dX2_findDelayed_22 : decode cX2_findDelayed 22 = .ok (.iconst 0, 1) := by decide +kernel
theorem dX2_findDelayed_23 : decode cX2_findDelayed 23 = .ok (.istore_n 2, 1) := by decide +kernel
theorem dX2_findDelayed_24 : decode cX2_findDelayed 24 = .ok (.iload_n 2, 1) := by decide +kernel
theorem dX2_findDelayed_25 : decode cX2_findDelayed 25 = .ok (.sipush 1000, 3) := by decide +kernel
theorem dX2_findDelayed_28 : decode cX2_findDelayed 28 = .ok (.if_icmp .ge 18, 3) := by decide +kernel
theorem dX2_findDelayed_31 : decode cX2_findDelayed 31 = .ok (.iload_n 1, 1) := by decide +kernel
theorem dX2_findDelayed_32 : decode cX2_findDelayed 32 = .ok (.ifCond .eq 14, 3) := by decide +kernel
theorem dX2_findDelayed_35 : decode cX2_findDelayed 35 = .ok (.aload_n 0, 1) := by decide +kernel
theorem dX2_findDelayed_36 : decode cX2_findDelayed 36 = .ok (.invokevirtual 125, 3) := by decide +kernel
theorem dX2_findDelayed_39 : decode cX2_findDelayed 39 = .ok (.istore_n 1, 1) := by decide +kernel
theorem dX2_findDelayed_40 : decode cX2_findDelayed 40 = .ok (.iinc 2 1, 3) := by decide +kernel
theorem dX2_findDelayed_43 : decode cX2_findDelayed 43 = .ok (.goto (-19), 3) := by decide +kernel
theorem dX2_findDelayed_46 : decode cX2_findDelayed 46 = .ok (.iconst 0, 1) := by decide +kernel
theorem dX2_findDelayed_47 : decode cX2_findDelayed 47 = .ok (.istore_n 2, 1) := by decide +kernel
theorem dX2_findDelayed_48 : decode cX2_findDelayed 48 = .ok (.iload_n 2, 1) := by decide +kernel
theorem dX2_findDelayed_49 : decode cX2_findDelayed 49 = .ok (.aload_n 0, 1) := by decide +kernel
theorem dX2_findDelayed_50 : decode cX2_findDelayed 50 = .ok (.getfield 48, 3) := by decide +kernel
theorem dX2_findDelayed_53 : decode cX2_findDelayed 53 = .ok (.getfield 81, 3) := by decide +kernel
theorem dX2_findDelayed_56 : decode cX2_findDelayed 56 = .ok (.if_icmp .ge 20, 3) := by decide +kernel
theorem dX2_findDelayed_59 : decode cX2_findDelayed 59 = .ok (.aload_n 0, 1) := by decide +kernel
theorem dX2_findDelayed_60 : decode cX2_findDelayed 60 = .ok (.getfield 42, 3) := by decide +kernel
theorem dX2_findDelayed_63 : decode cX2_findDelayed 63 = .ok (.iload_n 2, 1) := by decide +kernel
theorem dX2_findDelayed_64 : decode cX2_findDelayed 64 = .ok (.aload_n 0, 1) := by decide +kernel
theorem dX2_findDelayed_65 : decode cX2_findDelayed 65 = .ok (.iload_n 2, 1) := by decide +kernel
theorem dX2_findDelayed_66 : decode cX2_findDelayed 66 = .ok (.invokevirtual 128, 3) := by decide +kernel
theorem dX2_findDelayed_69 : decode cX2_findDelayed 69 = .ok (.iastore, 1) := by decide +kernel
theorem dX2_findDelayed_70 : decode cX2_findDelayed 70 = .ok (.iinc 2 1, 3) := by decide +kernel
theorem dX2_findDelayed_73 : decode cX2_findDelayed 73 = .ok (.goto (-25), 3) := by decide +kernel
theorem dX2_findDelayed_76 : decode cX2_findDelayed 76 = .ok (.return_, 1) := by decide +kernel
set_option maxRecDepth 20000 in
theorem ggX2_shrinkDelayed_X2_findDelayedOnEdge : GoodIn wsX2_shrinkDelayed wsX2_findDelayedOnEdge := goodIn_r _ [9, 1, 10, 11, 4, 12, 13, 14, 15, 16, 17, 18, 19, 20, 21, 22, 23, 24, 25, 26, 27, 28, 29, 30, 31, 32, 33, 34, 35, 36, 37] (by decide +kernel) (by decide +kernel)
set_option maxRecDepth 20000 in
theorem gX2_shrinkDelayed_X2_findDelayedOnEdge : GoodIn wsX2_shrinkDelayed (wsV RX2 128 RX2 yX2_findDelayedOnEdge wsX2_findDelayedOnEdge) := goodIn_app (goodIn_of _ (by decide +kernel)) ggX2_shrinkDelayed_X2_findDelayedOnEdge
theorem dX2_shrinkDelayed_0 : decode cX2_shrinkDelayed 0 = .ok (.iconst 0, 1) := by decide +kernel
theorem dX2_shrinkDelayed_1 : decode cX2_shrinkDelayed 1 = .ok (.istore_n 1, 1) := by decide +kernel
theorem dX2_shrinkDelayed_2 : decode cX2_shrinkDelayed 2 = .ok (.iconst 0, 1) := by decide +kernel
theorem dX2_shrinkDelayed_3 : decode cX2_shrinkDelayed 3 = .ok (.istore_n 2, 1) := by decide +kernel
theorem dX2_shrinkDelayed_4 : decode cX2_shrinkDelayed 4 = .ok (.iload_n 2, 1) := by decide +kernel
theorem dX2_shrinkDelayed_5 : decode cX2_shrinkDelayed 5 = .ok (.aload_n 0, 1) := by decide +kernel
theorem dX2_shrinkDelayed_6 : decode cX2_shrinkDelayed 6 = .ok (.getfield 48, 3) := by decide +kernel
theorem dX2_shrinkDelayed_9 : decode cX2_shrinkDelayed 9 = .ok (.getfield 81, 3) := by decide +kernel
theorem dX2_shrinkDelayed_12 : decode cX2_shrinkDelayed 12 = .ok (.if_icmp .ge 54, 3) := by decide +kernel
theorem dX2_shrinkDelayed_15 : decode cX2_shrinkDelayed 15 = .ok (.aload_n 0, 1) := by decide +kernel
theorem dX2_shrinkDelayed_16 : decode cX2_shrinkDelayed 16 = .ok (.getfield 48, 3) := by decide +kernel
theorem dX2_shrinkDelayed_19 : decode cX2_shrinkDelayed 19 = .ok (.getfield 112, 3) := by decide +kernel
theorem dX2_shrinkDelayed_22 : decode cX2_shrinkDelayed 22 = .ok (.iload_n 2, 1) := by decide +kernel
theorem dX2_shrinkDelayed_23 : decode cX2_shrinkDelayed 23 = .ok (.iaload, 1) := by decide +kernel
theorem dX2_shrinkDelayed_24 : decode cX2_shrinkDelayed 24 = .ok (.istore_n 3, 1) := by decide +kernel
theorem dX2_shrinkDelayed_25 : decode cX2_shrinkDelayed 25 = .ok (.aload_n 0, 1) := by decide +kernel
theorem dX2_shrinkDelayed_26 : decode cX2_shrinkDelayed 26 = .ok (.getfield 33, 3) := by decide +kernel
theorem dX2_shrinkDelayed_29 : decode cX2_shrinkDelayed 29 = .ok (.iload_n 3, 1) := by decide +kernel
theorem dX2_shrinkDelayed_30 : decode cX2_shrinkDelayed 30 = .ok (.iaload, 1) := by decide +kernel
theorem dX2_shrinkDelayed_31 : decode cX2_shrinkDelayed 31 = .ok (.aload_n 0, 1) := by decide +kernel
theorem dX2_shrinkDelayed_32 : decode cX2_shrinkDelayed 32 = .ok (.iload_n 2, 1) := by decide +kernel
theorem dX2_shrinkDelayed_33 : decode cX2_shrinkDelayed 33 = .ok (.invokevirtual 128, 3) := by decide +kernel
theorem dX2_shrinkDelayed_36 : decode cX2_shrinkDelayed 36 = .ok (.iand, 1) := by decide +kernel
theorem dX2_shrinkDelayed_37 : decode cX2_shrinkDelayed 37 = .ok (.istore 4, 2) := by decide +kernel
theorem dX2_shrinkDelayed_39 : decode cX2_shrinkDelayed 39 = .ok (.iload 4, 2) := by decide +kernel
theorem dX2_shrinkDelayed_41 : decode cX2_shrinkDelayed 41 = .ok (.aload_n 0, 1) := by decide +kernel
theorem dX2_shrinkDelayed_42 : decode cX2_shrinkDelayed 42 = .ok (.getfield 33, 3) := by decide +kernel
theorem dX2_shrinkDelayed_45 : decode cX2_shrinkDelayed 45 = .ok (.iload_n 3, 1) := by decide +kernel
theorem dX2_shrinkDelayed_46 : decode cX2_shrinkDelayed 46 = .ok (.iaload, 1) := by decide +kernel
theorem dX2_shrinkDelayed_47 : decode cX2_shrinkDelayed 47 = .ok (.if_icmp .eq 13, 3) := by decide +kernel
theorem dX2_shrinkDelayed_50 : decode cX2_shrinkDelayed 50 = .ok (.aload_n 0, 1) := by decide +kernel
theorem dX2_shrinkDelayed_51 : decode cX2_shrinkDelayed 51 = .ok (.getfield 33, 3) := by decide +kernel
theorem dX2_shrinkDelayed_54 : decode cX2_shrinkDelayed 54 = .ok (.iload_n 3, 1) := by decide +kernel
theorem dX2_shrinkDelayed_55 : decode cX2_shrinkDelayed 55 = .ok (.iload 4, 2) := by decide +kernel
theorem dX2_shrinkDelayed_57 : decode cX2_shrinkDelayed 57 = .ok (.iastore, 1) := by decide +kernel
theorem dX2_shrinkDelayed_58 : decode cX2_shrinkDelayed 58 = .ok (.iconst 1, 1) := by decide +kernel
theorem dX2_shrinkDelayed_59 : decode cX2_shrinkDelayed 59 = .ok (.istore_n 1, 1) := by decide +kernel
theorem dX2_shrinkDelayed_60 : decode cX2_shrinkDelayed 60 = .ok (.iinc 2 1, 3) := by decide +kernel
theorem dX2_shrinkDelayed_63 : decode cX2_shrinkDelayed 63 = .ok (.goto (-59), 3) := by decide +kernel
theorem dX2_shrinkDelayed_66 : decode cX2_shrinkDelayed 66 = .ok (.iload_n 1, 1) := by decide +kernel
theorem dX2_shrinkDelayed_67 : decode cX2_shrinkDelayed 67 = .ok (.ireturn, 1) := by decide +kernel
theorem dX2_findDelayedOnEdge_0 : decode cX2_findDelayedOnEdge 0 = .ok (.aload_n 0, 1) := by decide +kernel
theorem dX2_findDelayedOnEdge_1 : decode cX2_findDelayedOnEdge 1 = .ok (.getfield 48, 3) := by decide +kernel
theorem dX2_findDelayedOnEdge_4 : decode cX2_findDelayedOnEdge 4 = .ok (.getfield 109, 3) := by decide +kernel
theorem dX2_findDelayedOnEdge_7 : decode cX2_findDelayedOnEdge 7 = .ok (.iload_n 1, 1) := by decide +kernel
theorem dX2_findDelayedOnEdge_8 : decode cX2_findDelayedOnEdge 8 = .ok (.iaload, 1) := by decide +kernel
theorem dX2_findDelayedOnEdge_9 : decode cX2_findDelayedOnEdge 9 = .ok (.istore_n 2, 1) := by decide +kernel
theorem dX2_findDelayedOnEdge_10 : decode cX2_findDelayedOnEdge 10 = .ok (.aload_n 0, 1) := by decide +kernel
theorem dX2_findDelayedOnEdge_11 : decode cX2_findDelayedOnEdge 11 = .ok (.getfield 39, 3) := by decide +kernel
theorem dX2_findDelayedOnEdge_14 : decode cX2_findDelayedOnEdge 14 = .ok (.iload_n 1, 1) := by decide +kernel
theorem dX2_findDelayedOnEdge_15 : decode cX2_findDelayedOnEdge 15 = .ok (.iaload, 1) := by decide +kernel
theorem dX2_findDelayedOnEdge_16 : decode cX2_findDelayedOnEdge 16 = .ok (.aload_n 0, 1) := by decide +kernel
theorem dX2_findDelayedOnEdge_17 : decode cX2_findDelayedOnEdge 17 = .ok (.getfield 33, 3) := by decide +kernel
theorem dX2_findDelayedOnEdge_20 : decode cX2_findDelayedOnEdge 20 = .ok (.iload_n 2, 1) := by decide +kernel
theorem dX2_findDelayedOnEdge_21 : decode cX2_findDelayedOnEdge 21 = .ok (.iaload, 1) := by decide +kernel
theorem dX2_findDelayedOnEdge_22 : decode cX2_findDelayedOnEdge 22 = .ok (.aload_n 0, 1) := by decide +kernel
theorem dX2_findDelayedOnEdge_23 : decode cX2_findDelayedOnEdge 23 = .ok (.getfield 15, 3) := by decide +kernel
theorem dX2_findDelayedOnEdge_26 : decode cX2_findDelayedOnEdge 26 = .ok (.iload_n 2, 1) := by decide +kernel
theorem dX2_findDelayedOnEdge_27 : decode cX2_findDelayedOnEdge 27 = .ok (.iaload, 1) := by decide +kernel
theorem dX2_findDelayedOnEdge_28 : decode cX2_findDelayedOnEdge 28 = .ok (.iconst (-1), 1) := by decide +kernel
theorem dX2_findDelayedOnEdge_29 : decode cX2_findDelayedOnEdge 29 = .ok (.ixor, 1) := by decide +kernel
theorem dX2_findDelayedOnEdge_30 : decode cX2_findDelayedOnEdge 30 = .ok (.iand, 1) := by decide +kernel
theorem dX2_findDelayedOnEdge_31 : decode cX2_findDelayedOnEdge 31 = .ok (.ior, 1) := by decide +kernel
theorem dX2_findDelayedOnEdge_32 : decode cX2_findDelayedOnEdge 32 = .ok (.ireturn, 1) := by decide +kernel
theorem dX2_findInsertionsAndDeletions_0 : decode cX2_findInsertionsAndDeletions 0 = .ok (.iconst 0, 1) := by decide +kernel
theorem dX2_findInsertionsAndDeletions_1 : decode cX2_findInsertionsAndDeletions 1 = .ok (.istore_n 1, 1) := by decide +kernel
theorem dX2_findInsertionsAndDeletions_2 : decode cX2_findInsertionsAndDeletions 2 = .ok (.iload_n 1, 1) := by decide +kernel
theorem dX2_findInsertionsAndDeletions_3 : decode cX2_findInsertionsAndDeletions 3 = .ok (.aload_n 0, 1) := by decide +kernel
theorem dX2_findInsertionsAndDeletions_4 : decode cX2_findInsertionsAndDeletions 4 = .ok (.getfield 48, 3) := by decide +kernel
theorem dX2_findInsertionsAndDeletions_7 : decode cX2_findInsertionsAndDeletions 7 = .ok (.getfield 81, 3) := by decide +kernel
theorem dX2_findInsertionsAndDeletions_10 : decode cX2_findInsertionsAndDeletions 10 = .ok (.if_icmp .ge 38, 3) := by decide +kernel
theorem dX2_findInsertionsAndDeletions_13 : decode cX2_findInsertionsAndDeletions 13 = .ok (.aload_n 0, 1) := by decide +kernel
theorem dX2_findInsertionsAndDeletions_14 : decode cX2_findInsertionsAndDeletions 14 = .ok (.getfield 45, 3) := by decide +kernel
theorem dX2_findInsertionsAndDeletions_17 : decode cX2_findInsertionsAndDeletions 17 = .ok (.iload_n 1, 1) := by decide +kernel
theorem dX2_findInsertionsAndDeletions_18 : decode cX2_findInsertionsAndDeletions 18 = .ok (.aload_n 0, 1) := by decide +kernel
theorem dX2_findInsertionsAndDeletions_19 : decode cX2_findInsertionsAndDeletions 19 = .ok (.getfield 42, 3) := by decide +kernel
theorem dX2_findInsertionsAndDeletions_22 : decode cX2_findInsertionsAndDeletions 22 = .ok (.iload_n 1, 1) := by decide +kernel
theorem dX2_findInsertionsAndDeletions_23 : decode cX2_findInsertionsAndDeletions 23 = .ok (.iaload, 1) := by decide +kernel
theorem dX2_findInsertionsAndDeletions_24 : decode cX2_findInsertionsAndDeletions 24 = .ok (.aload_n 0, 1) := by decide +kernel
theorem dX2_findInsertionsAndDeletions_25 : decode cX2_findInsertionsAndDeletions 25 = .ok (.getfield 33, 3) := by decide +kernel
theorem dX2_findInsertionsAndDeletions_28 : decode cX2_findInsertionsAndDeletions 28 = .ok (.aload_n 0, 1) := by decide +kernel
theorem dX2_findInsertionsAndDeletions_29 : decode cX2_findInsertionsAndDeletions 29 = .ok (.getfield 48, 3) := by decide +kernel
theorem dX2_findInsertionsAndDeletions_32 : decode cX2_findInsertionsAndDeletions 32 = .ok (.getfield 112, 3) := by decide +kernel
theorem dX2_findInsertionsAndDeletions_35 : decode cX2_findInsertionsAndDeletions 35 = .ok (.iload_n 1, 1) := by decide +kernel
theorem dX2_findInsertionsAndDeletions_36 : decode cX2_findInsertionsAndDeletions 36 = .ok (.iaload, 1) := by decide +kernel
theorem dX2_findInsertionsAndDeletions_37 : decode cX2_findInsertionsAndDeletions 37 = .ok (.iaload, 1) := by decide +kernel
theorem dX2_findInsertionsAndDeletions_38 : decode cX2_findInsertionsAndDeletions 38 = .ok (.iconst (-1), 1) := by decide +kernel
theorem dX2_findInsertionsAndDeletions_39 : decode cX2_findInsertionsAndDeletions 39 = .ok (.ixor, 1) := by decide +kernel
theorem dX2_findInsertionsAndDeletions_40 : decode cX2_findInsertionsAndDeletions 40 = .ok (.iand, 1) := by decide +kernel
theorem dX2_findInsertionsAndDeletions_41 : decode cX2_findInsertionsAndDeletions 41 = .ok (.iastore, 1) := by decide +kernel
theorem dX2_findInsertionsAndDeletions_42 : decode cX2_findInsertionsAndDeletions 42 = .ok (.iinc 1 1, 3) := by decide +kernel
theorem dX2_findInsertionsAndDeletions_45 : decode cX2_findInsertionsAndDeletions 45 = .ok (.goto (-43), 3) := by decide +kernel
theorem dX2_findInsertionsAndDeletions_48 : decode cX2_findInsertionsAndDeletions 48 = .ok (.iconst 0, 1) := by decide +kernel
theorem dX2_findInsertionsAndDeletions_49 : decode cX2_findInsertionsAndDeletions 49 = .ok (.istore_n 1, 1) := by decide +kernel
theorem dX2_findInsertionsAndDeletions_50 : decode cX2_findInsertionsAndDeletions 50 = .ok (.iload_n 1, 1) := by decide +kernel
theorem dX2_findInsertionsAndDeletions_51 : decode cX2_findInsertionsAndDeletions 51 = .ok (.aload_n 0, 1) := by decide +kernel
theorem dX2_findInsertionsAndDeletions_52 : decode cX2_findInsertionsAndDeletions 52 = .ok (.getfield 48, 3) := by decide +kernel
theorem dX2_findInsertionsAndDeletions_55 : decode cX2_findInsertionsAndDeletions 55 = .ok (.getfield 58, 3) := by decide +kernel
theorem dX2_findInsertionsAndDeletions_58 : decode cX2_findInsertionsAndDeletions 58 = .ok (.if_icmp .ge 30, 3) := by decide +kernel
theorem dX2_findInsertionsAndDeletions_61 : decode cX2_findInsertionsAndDeletions 61 = .ok (.aload_n 0, 1) := by decide +kernel
theorem dX2_findInsertionsAndDeletions_62 : decode cX2_findInsertionsAndDeletions 62 = .ok (.getfield 36, 3) := by decide +kernel
theorem dX2_findInsertionsAndDeletions_65 : decode cX2_findInsertionsAndDeletions 65 = .ok (.iload_n 1, 1) := by decide +kernel
theorem dX2_findInsertionsAndDeletions_66 : decode cX2_findInsertionsAndDeletions 66 = .ok (.aload_n 0, 1) := by decide +kernel
theorem dX2_findInsertionsAndDeletions_67 : decode cX2_findInsertionsAndDeletions 67 = .ok (.getfield 15, 3) := by decide +kernel
theorem dX2_findInsertionsAndDeletions_70 : decode cX2_findInsertionsAndDeletions 70 = .ok (.iload_n 1, 1) := by decide +kernel
theorem dX2_findInsertionsAndDeletions_71 : decode cX2_findInsertionsAndDeletions 71 = .ok (.iaload, 1) := by decide +kernel
theorem dX2_findInsertionsAndDeletions_72 : decode cX2_findInsertionsAndDeletions 72 = .ok (.aload_n 0, 1) := by decide +kernel
theorem dX2_findInsertionsAndDeletions_73 : decode cX2_findInsertionsAndDeletions 73 = .ok (.getfield 33, 3) := by decide +kernel
theorem dX2_findInsertionsAndDeletions_76 : decode cX2_findInsertionsAndDeletions 76 = .ok (.iload_n 1, 1) := by decide +kernel
theorem dX2_findInsertionsAndDeletions_77 : decode cX2_findInsertionsAndDeletions 77 = .ok (.iaload, 1) := by decide +kernel
theorem dX2_findInsertionsAndDeletions_78 : decode cX2_findInsertionsAndDeletions 78 = .ok (.iconst (-1), 1) := by decide +kernel
theorem dX2_findInsertionsAndDeletions_79 : decode cX2_findInsertionsAndDeletions 79 = .ok (.ixor, 1) := by decide +kernel
theorem dX2_findInsertionsAndDeletions_80 : decode cX2_findInsertionsAndDeletions 80 = .ok (.iand, 1) := by decide +kernel
theorem dX2_findInsertionsAndDeletions_81 : decode cX2_findInsertionsAndDeletions 81 = .ok (.iastore, 1) := by decide +kernel
theorem dX2_findInsertionsAndDeletions_82 : decode cX2_findInsertionsAndDeletions 82 = .ok (.iinc 1 1, 3) := by decide +kernel
theorem dX2_findInsertionsAndDeletions_85 : decode cX2_findInsertionsAndDeletions 85 = .ok (.goto (-35), 3) := by decide +kernel
theorem dX2_findInsertionsAndDeletions_88 : decode cX2_findInsertionsAndDeletions 88 = .ok (.return_, 1) := by decide +kernel
set_option maxRecDepth 20000 in
theorem ggX3_init_X1_init : GoodIn wsX3_init wsX1_init := goodIn_r _ [18, 19, 2, 3, 20, 21, 22, 23, 24, 25, 26, 27, 28, 29, 30, 31, 32, 63, 64, 65, 66, 67, 68, 69, 70, 71, 72, 73, 74] (by decide +kernel) (by decide +kernel)
set_option maxRecDepth 20000 in
theorem gX3_init_X1_init : GoodIn wsX3_init (wsX1_init) := ggX3_init_X1_init
set_option maxRecDepth 20000 in
theorem ggX3_init_X2_init : GoodIn wsX3_init wsX2_init := goodIn_r _ [35, 36, 2, 3, 21, 37, 38, 39, 40, 41, 42, 43, 44, 45, 46, 47, 48, 49, 78, 79, 80, 81, 82, 83, 84, 85, 86, 87, 88, 89, 90] (by decide +kernel) (by decide +kernel)
set_option maxRecDepth 20000 in
theorem gX3_init_X2_init : GoodIn wsX3_init (wsX2_init) := ggX3_init_X2_init
set_option maxRecDepth 20000 in
theorem ggX3_init_X0_init : GoodIn wsX3_init wsX0_init := goodIn_r _ [52, 53, 2, 3, 21, 54, 55, 56, 57, 58, 59, 60, 61, 62, 91, 92, 93, 94, 95, 96, 97, 98, 99] (by decide +kernel) (by decide +kernel)
set_option maxRecDepth 20000 in
theorem gX3_init_X0_init : GoodIn wsX3_init (wsX0_init) := ggX3_init_X0_init
