theorem dX0_init_0 : decode cX0_init 0 = .ok (.aload_n 0, 1) := by decide +kernel
theorem dX0_init_1 : decode cX0_init 1 = .ok (.invokespecial 3, 3) := by decide +kernel
theorem dX0_init_4 : decode cX0_init 4 = .ok (.aload_n 0, 1) := by decide +kernel
theorem dX0_init_5 : decode cX0_init 5 = .ok (.iconst 0, 1) := by decide +kernel
theorem dX0_init_6 : decode cX0_init 6 = .ok (.putfield 9, 3) := by decide +kernel
theorem dX0_init_9 : decode cX0_init 9 = .ok (.aload_n 0, 1) := by decide +kernel
theorem dX0_init_10 : decode cX0_init 10 = .ok (.bipush 64, 2) := by decide +kernel
theorem dX0_init_12 : decode cX0_init 12 = .ok (.newarray .int, 2) := by decide +kernel
theorem dX0_init_14 : decode cX0_init 14 = .ok (.putfield 15, 3) := by decide +kernel
theorem dX0_init_17 : decode cX0_init 17 = .ok (.aload_n 0, 1) := by decide +kernel
theorem dX0_init_18 : decode cX0_init 18 = .ok (.bipush 64, 2) := by decide +kernel
theorem dX0_init_20 : decode cX0_init 20 = .ok (.newarray .int, 2) := by decide +kernel
theorem dX0_init_22 : decode cX0_init 22 = .ok (.putfield 19, 3) := by decide +kernel
theorem dX0_init_25 : decode cX0_init 25 = .ok (.aload_n 0, 1) := by decide +kernel
theorem dX0_init_26 : decode cX0_init 26 = .ok (.bipush 64, 2) := by decide +kernel
theorem dX0_init_28 : decode cX0_init 28 = .ok (.newarray .boolean, 2) := by decide +kernel
theorem dX0_init_30 : decode cX0_init 30 = .ok (.putfield 22, 3) := by decide +kernel
theorem dX0_init_33 : decode cX0_init 33 = .ok (.return_, 1) := by decide +kernel
theorem dX0_size_0 : decode cX0_size 0 = .ok (.aload_n 0, 1) := by decide +kernel
theorem dX0_size_1 : decode cX0_size 1 = .ok (.getfield 9, 3) := by decide +kernel
theorem dX0_size_4 : decode cX0_size 4 = .ok (.ireturn, 1) := by decide +kernel
theorem dX0_startAnew_0 : decode cX0_startAnew 0 = .ok (.aload_n 0, 1) := by decide +kernel
theorem dX0_startAnew_1 : decode cX0_startAnew 1 = .ok (.iload_n 1, 1) := by decide +kernel
theorem dX0_startAnew_2 : decode cX0_startAnew 2 = .ok (.putfield 9, 3) := by decide +kernel
theorem dX0_startAnew_5 : decode cX0_startAnew 5 = .ok (.iconst 0, 1) := by decide +kernel
theorem dX0_startAnew_6 : decode cX0_startAnew 6 = .ok (.istore_n 2, 1) := by decide +kernel
theorem dX0_startAnew_7 : decode cX0_startAnew 7 = .ok (.iload_n 2, 1) := by decide +kernel
theorem dX0_startAnew_8 : decode cX0_startAnew 8 = .ok (.bipush 64, 2) := by decide +kernel
theorem dX0_startAnew_10 : decode cX0_startAnew 10 = .ok (.if_icmp .ge 30, 3) := by decide +kernel
theorem dX0_startAnew_13 : decode cX0_startAnew 13 = .ok (.aload_n 0, 1) := by decide +kernel
theorem dX0_startAnew_14 : decode cX0_startAnew 14 = .ok (.getfield 15, 3) := by decide +kernel
theorem dX0_startAnew_17 : decode cX0_startAnew 17 = .ok (.iload_n 2, 1) := by decide +kernel
theorem dX0_startAnew_18 : decode cX0_startAnew 18 = .ok (.iconst (-1), 1) := by decide +kernel
theorem dX0_startAnew_19 : decode cX0_startAnew 19 = .ok (.iastore, 1) := by decide +kernel
theorem dX0_startAnew_20 : decode cX0_startAnew 20 = .ok (.aload_n 0, 1) := by decide +kernel
theorem dX0_startAnew_21 : decode cX0_startAnew 21 = .ok (.getfield 19, 3) := by decide +kernel
theorem dX0_startAnew_24 : decode cX0_startAnew 24 = .ok (.iload_n 2, 1) := by decide +kernel
theorem dX0_startAnew_25 : decode cX0_startAnew 25 = .ok (.iconst 0, 1) := by decide +kernel
theorem dX0_startAnew_26 : decode cX0_startAnew 26 = .ok (.iastore, 1) := by decide +kernel
theorem dX0_startAnew_27 : decode cX0_startAnew 27 = .ok (.aload_n 0, 1) := by decide +kernel
theorem dX0_startAnew_28 : decode cX0_startAnew 28 = .ok (.getfield 22, 3) := by decide +kernel
theorem dX0_startAnew_31 : decode cX0_startAnew 31 = .ok (.iload_n 2, 1) := by decide +kernel
theorem dX0_startAnew_32 : decode cX0_startAnew 32 = .ok (.iconst 0, 1) := by decide +kernel
theorem dX0_startAnew_33 : decode cX0_startAnew 33 = .ok (.bastore, 1) := by decide +kernel
theorem dX0_startAnew_34 : decode cX0_startAnew 34 = .ok (.iinc 2 1, 3) := by decide +kernel
theorem dX0_startAnew_37 : decode cX0_startAnew 37 = .ok (.goto (-30), 3) := by decide +kernel
theorem dX0_startAnew_40 : decode cX0_startAnew 40 = .ok (.return_, 1) := by decide +kernel
theorem dX0_copyFrom_0 : decode cX0_copyFrom 0 = .ok (.aload_n 0, 1) := by decide +kernel
theorem dX0_copyFrom_1 : decode cX0_copyFrom 1 = .ok (.aload_n 1, 1) := by decide +kernel
theorem dX0_copyFrom_2 : decode cX0_copyFrom 2 = .ok (.getfield 9, 3) := by decide +kernel
theorem dX0_copyFrom_5 : decode cX0_copyFrom 5 = .ok (.putfield 9, 3) := by decide +kernel
theorem dX0_copyFrom_8 : decode cX0_copyFrom 8 = .ok (.iconst 0, 1) := by decide +kernel
theorem dX0_copyFrom_9 : decode cX0_copyFrom 9 = .ok (.istore_n 2, 1) := by decide +kernel
theorem dX0_copyFrom_10 : decode cX0_copyFrom 10 = .ok (.iload_n 2, 1) := by decide +kernel
theorem dX0_copyFrom_11 : decode cX0_copyFrom 11 = .ok (.bipush 64, 2) := by decide +kernel
theorem dX0_copyFrom_13 : decode cX0_copyFrom 13 = .ok (.if_icmp .ge 45, 3) := by decide +kernel
theorem dX0_copyFrom_16 : decode cX0_copyFrom 16 = .ok (.aload_n 0, 1) := by decide +kernel
theorem dX0_copyFrom_17 : decode cX0_copyFrom 17 = .ok (.getfield 15, 3) := by decide +kernel
theorem dX0_copyFrom_20 : decode cX0_copyFrom 20 = .ok (.iload_n 2, 1) := by decide +kernel
theorem dX0_copyFrom_21 : decode cX0_copyFrom 21 = .ok (.aload_n 1, 1) := by decide +kernel
theorem dX0_copyFrom_22 : decode cX0_copyFrom 22 = .ok (.getfield 15, 3) := by decide +kernel
theorem dX0_copyFrom_25 : decode cX0_copyFrom 25 = .ok (.iload_n 2, 1) := by decide +kernel
theorem dX0_copyFrom_26 : decode cX0_copyFrom 26 = .ok (.iaload, 1) := by decide +kernel
theorem dX0_copyFrom_27 : decode cX0_copyFrom 27 = .ok (.iastore, 1) := by decide +kernel
theorem dX0_copyFrom_28 : decode cX0_copyFrom 28 = .ok (.aload_n 0, 1) := by decide +kernel
theorem dX0_copyFrom_29 : decode cX0_copyFrom 29 = .ok (.getfield 19, 3) := by decide +kernel
theorem dX0_copyFrom_32 : decode cX0_copyFrom 32 = .ok (.iload_n 2, 1) := by decide +kernel
theorem dX0_copyFrom_33 : decode cX0_copyFrom 33 = .ok (.aload_n 1, 1) := by decide +kernel
theorem dX0_copyFrom_34 : decode cX0_copyFrom 34 = .ok (.getfield 19, 3) := by decide +kernel
theorem dX0_copyFrom_37 : decode cX0_copyFrom 37 = .ok (.iload_n 2, 1) := by decide +kernel
theorem dX0_copyFrom_38 : decode cX0_copyFrom 38 = .ok (.iaload, 1) := by decide +kernel
theorem dX0_copyFrom_39 : decode cX0_copyFrom 39 = .ok (.iastore, 1) := by decide +kernel
theorem dX0_copyFrom_40 : decode cX0_copyFrom 40 = .ok (.aload_n 0, 1) := by decide +kernel
theorem dX0_copyFrom_41 : decode cX0_copyFrom 41 = .ok (.getfield 22, 3) := by decide +kernel
theorem dX0_copyFrom_44 : decode cX0_copyFrom 44 = .ok (.iload_n 2, 1) := by decide +kernel
theorem dX0_copyFrom_45 : decode cX0_copyFrom 45 = .ok (.aload_n 1, 1) := by decide +kernel
theorem dX0_copyFrom_46 : decode cX0_copyFrom 46 = .ok (.getfield 22, 3) := by decide +kernel
theorem dX0_copyFrom_49 : decode cX0_copyFrom 49 = .ok (.iload_n 2, 1) := by decide +kernel
theorem dX0_copyFrom_50 : decode cX0_copyFrom 50 = .ok (.baload, 1) := by decide +kernel
theorem dX0_copyFrom_51 : decode cX0_copyFrom 51 = .ok (.bastore, 1) := by decide +kernel
theorem dX0_copyFrom_52 : decode cX0_copyFrom 52 = .ok (.iinc 2 1, 3) := by decide +kernel
theorem dX0_copyFrom_55 : decode cX0_copyFrom 55 = .ok (.goto (-45), 3) := by decide +kernel
theorem dX0_copyFrom_58 : decode cX0_copyFrom 58 = .ok (.return_, 1) := by decide +kernel
theorem dX0_has_0 : decode cX0_has 0 = .ok (.iload_n 1, 1) := by decide +kernel
theorem dX0_has_1 : decode cX0_has 1 = .ok (.ifCond .lt 21, 3) := by decide +kernel
theorem dX0_has_4 : decode cX0_has 4 = .ok (.iload_n 1, 1) := by decide +kernel
theorem dX0_has_5 : decode cX0_has 5 = .ok (.aload_n 0, 1) := by decide +kernel
theorem dX0_has_6 : decode cX0_has 6 = .ok (.getfield 9, 3) := by decide +kernel
theorem dX0_has_9 : decode cX0_has 9 = .ok (.if_icmp .ge 13, 3) := by decide +kernel
theorem dX0_has_12 : decode cX0_has 12 = .ok (.iload_n 1, 1) := by decide +kernel
theorem dX0_has_13 : decode cX0_has 13 = .ok (.bipush 64, 2) := by decide +kernel
theorem dX0_has_15 : decode cX0_has 15 = .ok (.if_icmp .ge 7, 3) := by decide +kernel
theorem dX0_has_18 : decode cX0_has 18 = .ok (.iconst 1, 1) := by decide +kernel
theorem dX0_has_19 : decode cX0_has 19 = .ok (.goto 4, 3) := by decide +kernel
theorem dX0_has_22 : decode cX0_has 22 = .ok (.iconst 0, 1) := by decide +kernel
theorem dX0_has_23 : decode cX0_has 23 = .ok (.ireturn, 1) := by decide +kernel
set_option maxRecDepth 20000 in
theorem ggX0_parentOf_X0_has : GoodIn wsX0_parentOf wsX0_has := goodIn_r _ [6, 7, 8, 9, 10, 11] (by decide +kernel) (by decide +kernel)
set_option maxRecDepth 20000 in
theorem gX0_parentOf_X0_has : GoodIn wsX0_parentOf (wsV RX0 26 RX0 yX0_has wsX0_has) := goodIn_app (goodIn_of _ (by decide +kernel)) ggX0_parentOf_X0_has
theorem dX0_parentOf_0 : decode cX0_parentOf 0 = .ok (.aload_n 0, 1) := by decide +kernel
theorem dX0_parentOf_1 : decode cX0_parentOf 1 = .ok (.iload_n 1, 1) := by decide +kernel
theorem dX0_parentOf_2 : decode cX0_parentOf 2 = .ok (.invokevirtual 26, 3) := by decide +kernel
theorem dX0_parentOf_5 : decode cX0_parentOf 5 = .ok (.ifCond .eq 12, 3) := by decide +kernel
theorem dX0_parentOf_8 : decode cX0_parentOf 8 = .ok (.aload_n 0, 1) := by decide +kernel
theorem dX0_parentOf_9 : decode cX0_parentOf 9 = .ok (.getfield 15, 3) := by decide +kernel
theorem dX0_parentOf_12 : decode cX0_parentOf 12 = .ok (.iload_n 1, 1) := by decide +kernel
theorem dX0_parentOf_13 : decode cX0_parentOf 13 = .ok (.iaload, 1) := by decide +kernel
theorem dX0_parentOf_14 : decode cX0_parentOf 14 = .ok (.goto 4, 3) := by decide +kernel
theorem dX0_parentOf_17 : decode cX0_parentOf 17 = .ok (.iconst (-1), 1) := by decide +kernel
theorem dX0_parentOf_18 : decode cX0_parentOf 18 = .ok (.ireturn, 1) := by decide +kernel
set_option maxRecDepth 20000 in
theorem ggX0_putParent_X0_has : GoodIn wsX0_putParent wsX0_has := goodIn_r _ [6, 7, 8, 9, 10, 11] (by decide +kernel) (by decide +kernel)
set_option maxRecDepth 20000 in
theorem gX0_putParent_X0_has : GoodIn wsX0_putParent (wsV RX0 26 RX0 yX0_has wsX0_has) := goodIn_app (goodIn_of _ (by decide +kernel)) ggX0_putParent_X0_has
theorem dX0_putParent_0 : decode cX0_putParent 0 = .ok (.aload_n 0, 1) := by decide +kernel
theorem dX0_putParent_1 : decode cX0_putParent 1 = .ok (.iload_n 1, 1) := by decide +kernel
theorem dX0_putParent_2 : decode cX0_putParent 2 = .ok (.invokevirtual 26, 3) := by decide +kernel
theorem dX0_putParent_5 : decode cX0_putParent 5 = .ok (.ifCond .eq 10, 3) := by decide +kernel
theorem dX0_putParent_8 : decode cX0_putParent 8 = .ok (.aload_n 0, 1) := by decide +kernel
theorem dX0_putParent_9 : decode cX0_putParent 9 = .ok (.getfield 15, 3) := by decide +kernel
theorem dX0_putParent_12 : decode cX0_putParent 12 = .ok (.iload_n 1, 1) := by decide +kernel
theorem dX0_putParent_13 : decode cX0_putParent 13 = .ok (.iload_n 2, 1) := by decide +kernel
theorem dX0_putParent_14 : decode cX0_putParent 14 = .ok (.iastore, 1) := by decide +kernel
theorem dX0_putParent_15 : decode cX0_putParent 15 = .ok (.return_, 1) := by decide +kernel
set_option maxRecDepth 20000 in
theorem ggX0_isRoot_X0_parentOf : GoodIn wsX0_isRoot wsX0_parentOf := goodIn_r _ [5, 6, 7, 8, 9, 4, 10, 11, 12, 13, 14, 15] (by decide +kernel) (by decide +kernel)
set_option maxRecDepth 20000 in
theorem gX0_isRoot_X0_parentOf : GoodIn wsX0_isRoot (wsV RX0 30 RX0 yX0_parentOf wsX0_parentOf) := goodIn_app (goodIn_of _ (by decide +kernel)) ggX0_isRoot_X0_parentOf
theorem dX0_isRoot_0 : decode cX0_isRoot 0 = .ok (.aload_n 0, 1) := by decide +kernel
theorem dX0_isRoot_1 : decode cX0_isRoot 1 = .ok (.iload_n 1, 1) := by decide +kernel
theorem dX0_isRoot_2 : decode cX0_isRoot 2 = .ok (.invokevirtual 30, 3) := by decide +kernel
theorem dX0_isRoot_5 : decode cX0_isRoot 5 = .ok (.iconst (-1), 1) := by decide +kernel
theorem dX0_isRoot_6 : decode cX0_isRoot 6 = .ok (.if_icmp .ne 7, 3) := by decide +kernel
theorem dX0_isRoot_9 : decode cX0_isRoot 9 = .ok (.iconst 1, 1) := by decide +kernel
theorem dX0_isRoot_10 : decode cX0_isRoot 10 = .ok (.goto 4, 3) := by decide +kernel
theorem dX0_isRoot_13 : decode cX0_isRoot 13 = .ok (.iconst 0, 1) := by decide +kernel
theorem dX0_isRoot_14 : decode cX0_isRoot 14 = .ok (.ireturn, 1) := by decide +kernel
set_option maxRecDepth 20000 in
theorem ggX0_valueOf_X0_has : GoodIn wsX0_valueOf wsX0_has := goodIn_r _ [6, 7, 8, 9, 10, 11] (by decide +kernel) (by decide +kernel)
set_option maxRecDepth 20000 in
theorem gX0_valueOf_X0_has : GoodIn wsX0_valueOf (wsV RX0 26 RX0 yX0_has wsX0_has) := goodIn_app (goodIn_of _ (by decide +kernel)) ggX0_valueOf_X0_has
theorem dX0_valueOf_0 : decode cX0_valueOf 0 = .ok (.aload_n 0, 1) := by decide +kernel
theorem dX0_valueOf_1 : decode cX0_valueOf 1 = .ok (.iload_n 1, 1) := by decide +kernel
theorem dX0_valueOf_2 : decode cX0_valueOf 2 = .ok (.invokevirtual 26, 3) := by decide +kernel
theorem dX0_valueOf_5 : decode cX0_valueOf 5 = .ok (.ifCond .eq 12, 3) := by decide +kernel
theorem dX0_valueOf_8 : decode cX0_valueOf 8 = .ok (.aload_n 0, 1) := by decide +kernel
theorem dX0_valueOf_9 : decode cX0_valueOf 9 = .ok (.getfield 19, 3) := by decide +kernel
theorem dX0_valueOf_12 : decode cX0_valueOf 12 = .ok (.iload_n 1, 1) := by decide +kernel
theorem dX0_valueOf_13 : decode cX0_valueOf 13 = .ok (.iaload, 1) := by decide +kernel
theorem dX0_valueOf_14 : decode cX0_valueOf 14 = .ok (.goto 4, 3) := by decide +kernel
theorem dX0_valueOf_17 : decode cX0_valueOf 17 = .ok (.iconst 0, 1) := by decide +kernel
theorem dX0_valueOf_18 : decode cX0_valueOf 18 = .ok (.ireturn, 1) := by decide +kernel
set_option maxRecDepth 20000 in
theorem ggX0_putValue_X0_has : GoodIn wsX0_putValue wsX0_has := goodIn_r _ [6, 7, 8, 9, 10, 11] (by decide +kernel) (by decide +kernel)
set_option maxRecDepth 20000 in
theorem gX0_putValue_X0_has : GoodIn wsX0_putValue (wsV RX0 26 RX0 yX0_has wsX0_has) := goodIn_app (goodIn_of _ (by decide +kernel)) ggX0_putValue_X0_has
theorem dX0_putValue_0 : decode cX0_putValue 0 = .ok (.aload_n 0, 1) := by decide +kernel
theorem dX0_putValue_1 : decode cX0_putValue 1 = .ok (.iload_n 1, 1) := by decide +kernel
theorem dX0_putValue_2 : decode cX0_putValue 2 = .ok (.invokevirtual 26, 3) := by decide +kernel
theorem dX0_putValue_5 : decode cX0_putValue 5 = .ok (.ifCond .eq 10, 3) := by decide +kernel
theorem dX0_putValue_8 : decode cX0_putValue 8 = .ok (.aload_n 0, 1) := by decide +kernel
theorem dX0_putValue_9 : decode cX0_putValue 9 = .ok (.getfield 19, 3) := by decide +kernel
theorem dX0_putValue_12 : decode cX0_putValue 12 = .ok (.iload_n 1, 1) := by decide +kernel
theorem dX0_putValue_13 : decode cX0_putValue 13 = .ok (.iload_n 2, 1) := by decide +kernel
theorem dX0_putValue_14 : decode cX0_putValue 14 = .ok (.iastore, 1) := by decide +kernel
theorem dX0_putValue_15 : decode cX0_putValue 15 = .ok (.return_, 1) := by decide +kernel
set_option maxRecDepth 20000 in
theorem ggX0_swapValues_X0_valueOf : GoodIn wsX0_swapValues wsX0_valueOf := goodIn_r _ [5, 6, 7, 8, 9, 4, 10, 11, 16, 17, 18, 19] (by decide +kernel) (by decide +kernel)
set_option maxRecDepth 20000 in
theorem gX0_swapValues_X0_valueOf : GoodIn wsX0_swapValues (wsV RX0 34 RX0 yX0_valueOf wsX0_valueOf) := goodIn_app (goodIn_of _ (by decide +kernel)) ggX0_swapValues_X0_valueOf
set_option maxRecDepth 20000 in
theorem ggX0_swapValues_X0_putValue : GoodIn wsX0_swapValues wsX0_putValue := goodIn_r _ [15, 6, 7, 8, 9, 4, 10, 11, 16, 17, 18, 19] (by decide +kernel) (by decide +kernel)
set_option maxRecDepth 20000 in
theorem gX0_swapValues_X0_putValue : GoodIn wsX0_swapValues (wsV RX0 37 RX0 yX0_putValue wsX0_putValue) := goodIn_app (goodIn_of _ (by decide +kernel)) ggX0_swapValues_X0_putValue
theorem dX0_swapValues_0 : decode cX0_swapValues 0 = .ok (.aload_n 0, 1) := by decide +kernel
theorem dX0_swapValues_1 : decode cX0_swapValues 1 = .ok (.iload_n 1, 1) := by decide +kernel
theorem dX0_swapValues_2 : decode cX0_swapValues 2 = .ok (.invokevirtual 34, 3) := by decide +kernel
theorem dX0_swapValues_5 : decode cX0_swapValues 5 = .ok (.istore_n 3, 1) := by decide +kernel
theorem dX0_swapValues_6 : decode cX0_swapValues 6 = .ok (.aload_n 0, 1) := by decide +kernel
theorem dX0_swapValues_7 : decode cX0_swapValues 7 = .ok (.iload_n 1, 1) := by decide +kernel
theorem dX0_swapValues_8 : decode cX0_swapValues 8 = .ok (.aload_n 0, 1) := by decide +kernel
theorem dX0_swapValues_9 : decode cX0_swapValues 9 = .ok (.iload_n 2, 1) := by decide +kernel
theorem dX0_swapValues_10 : decode cX0_swapValues 10 = .ok (.invokevirtual 34, 3) := by decide +kernel
theorem dX0_swapValues_13 : decode cX0_swapValues 13 = .ok (.invokevirtual 37, 3) := by decide +kernel
theorem dX0_swapValues_16 : decode cX0_swapValues 16 = .ok (.aload_n 0, 1) := by decide +kernel
theorem dX0_swapValues_17 : decode cX0_swapValues 17 = .ok (.iload_n 2, 1) := by decide +kernel
theorem dX0_swapValues_18 : decode cX0_swapValues 18 = .ok (.iload_n 3, 1) := by decide +kernel
theorem dX0_swapValues_19 : decode cX0_swapValues 19 = .ok (.invokevirtual 37, 3) := by decide +kernel
theorem dX0_swapValues_22 : decode cX0_swapValues 22 = .ok (.return_, 1) := by decide +kernel
set_option maxRecDepth 20000 in
theorem ggX0_isMarked_X0_has : GoodIn wsX0_isMarked wsX0_has := goodIn_r _ [6, 7, 8, 9, 10, 11] (by decide +kernel) (by decide +kernel)
set_option maxRecDepth 20000 in
theorem gX0_isMarked_X0_has : GoodIn wsX0_isMarked (wsV RX0 26 RX0 yX0_has wsX0_has) := goodIn_app (goodIn_of _ (by decide +kernel)) ggX0_isMarked_X0_has
theorem dX0_isMarked_0 : decode cX0_isMarked 0 = .ok (.aload_n 0, 1) := by decide +kernel
theorem dX0_isMarked_1 : decode cX0_isMarked 1 = .ok (.iload_n 1, 1) := by decide +kernel
theorem dX0_isMarked_2 : decode cX0_isMarked 2 = .ok (.invokevirtual 26, 3) := by decide +kernel
theorem dX0_isMarked_5 : decode cX0_isMarked 5 = .ok (.ifCond .eq 16, 3) := by decide +kernel
theorem dX0_isMarked_8 : decode cX0_isMarked 8 = .ok (.aload_n 0, 1) := by decide +kernel
theorem dX0_isMarked_9 : decode cX0_isMarked 9 = .ok (.getfield 22, 3) := by decide +kernel
theorem dX0_isMarked_12 : decode cX0_isMarked 12 = .ok (.iload_n 1, 1) := by decide +kernel
theorem dX0_isMarked_13 : decode cX0_isMarked 13 = .ok (.baload, 1) := by decide +kernel
theorem dX0_isMarked_14 : decode cX0_isMarked 14 = .ok (.ifCond .eq 7, 3) := by decide +kernel
theorem dX0_isMarked_17 : decode cX0_isMarked 17 = .ok (.iconst 1, 1) := by decide +kernel
theorem dX0_isMarked_18 : decode cX0_isMarked 18 = .ok (.goto 4, 3) := by decide +kernel
theorem dX0_isMarked_21 : decode cX0_isMarked 21 = .ok (.iconst 0, 1) := by decide +kernel
theorem dX0_isMarked_22 : decode cX0_isMarked 22 = .ok (.ireturn, 1) := by decide +kernel
set_option maxRecDepth 20000 in
theorem ggX0_putMark_X0_has : GoodIn wsX0_putMark wsX0_has := goodIn_r _ [6, 7, 8, 9, 10, 11] (by decide +kernel) (by decide +kernel)
set_option maxRecDepth 20000 in
theorem gX0_putMark_X0_has : GoodIn wsX0_putMark (wsV RX0 26 RX0 yX0_has wsX0_has) := goodIn_app (goodIn_of _ (by decide +kernel)) ggX0_putMark_X0_has
theorem dX0_putMark_0 : decode cX0_putMark 0 = .ok (.aload_n 0, 1) := by decide +kernel
theorem dX0_putMark_1 : decode cX0_putMark 1 = .ok (.iload_n 1, 1) := by decide +kernel
theorem dX0_putMark_2 : decode cX0_putMark 2 = .ok (.invokevirtual 26, 3) := by decide +kernel
theorem dX0_putMark_5 : decode cX0_putMark 5 = .ok (.ifCond .eq 10, 3) := by decide +kernel
theorem dX0_putMark_8 : decode cX0_putMark 8 = .ok (.aload_n 0, 1) := by decide +kernel
theorem dX0_putMark_9 : decode cX0_putMark 9 = .ok (.getfield 22, 3) := by decide +kernel
theorem dX0_putMark_12 : decode cX0_putMark 12 = .ok (.iload_n 1, 1) := by decide +kernel
theorem dX0_putMark_13 : decode cX0_putMark 13 = .ok (.iload_n 2, 1) := by decide +kernel
theorem dX0_putMark_14 : decode cX0_putMark 14 = .ok (.bastore, 1) := by decide +kernel
theorem dX0_putMark_15 : decode cX0_putMark 15 = .ok (.return_, 1) := by decide +kernel
set_option maxRecDepth 20000 in
theorem ggX0_countRoots_X0_isRoot : GoodIn wsX0_countRoots wsX0_isRoot := goodIn_r _ [6, 7, 8, 9, 5, 10, 11, 12, 13, 14, 15, 1, 16, 17, 18, 19] (by decide +kernel) (by decide +kernel)
set_option maxRecDepth 20000 in
theorem gX0_countRoots_X0_isRoot : GoodIn wsX0_countRoots (wsV RX0 41 RX0 yX0_isRoot wsX0_isRoot) := goodIn_app (goodIn_of _ (by decide +kernel)) ggX0_countRoots_X0_isRoot
theorem dX0_countRoots_0 : decode cX0_countRoots 0 = .ok (.iconst 0, 1) := by decide +kernel
theorem dX0_countRoots_1 : decode cX0_countRoots 1 = .ok (.istore_n 1, 1) := by decide +kernel
theorem dX0_countRoots_2 : decode cX0_countRoots 2 = .ok (.iconst 0, 1) := by decide +kernel
theorem dX0_countRoots_3 : decode cX0_countRoots 3 = .ok (.istore_n 2, 1) := by decide +kernel
theorem dX0_countRoots_4 : decode cX0_countRoots 4 = .ok (.iload_n 2, 1) := by decide +kernel
theorem dX0_countRoots_5 : decode cX0_countRoots 5 = .ok (.aload_n 0, 1) := by decide +kernel
theorem dX0_countRoots_6 : decode cX0_countRoots 6 = .ok (.getfield 9, 3) := by decide +kernel
theorem dX0_countRoots_9 : decode cX0_countRoots 9 = .ok (.if_icmp .ge 20, 3) := by decide +kernel
theorem dX0_countRoots_12 : decode cX0_countRoots 12 = .ok (.aload_n 0, 1) := by decide +kernel
theorem dX0_countRoots_13 : decode cX0_countRoots 13 = .ok (.iload_n 2, 1) := by decide +kernel
theorem dX0_countRoots_14 : decode cX0_countRoots 14 = .ok (.invokevirtual 41, 3) := by decide +kernel
theorem dX0_countRoots_17 : decode cX0_countRoots 17 = .ok (.ifCond .eq 6, 3) := by decide +kernel
theorem dX0_countRoots_20 : decode cX0_countRoots 20 = .ok (.iinc 1 1, 3) := by decide +kernel
theorem dX0_countRoots_23 : decode cX0_countRoots 23 = .ok (.iinc 2 1, 3) := by decide +kernel
theorem dX0_countRoots_26 : decode cX0_countRoots 26 = .ok (.goto (-22), 3) := by decide +kernel
theorem dX0_countRoots_29 : decode cX0_countRoots 29 = .ok (.iload_n 1, 1) := by decide +kernel
theorem dX0_countRoots_30 : decode cX0_countRoots 30 = .ok (.ireturn, 1) := by decide +kernel
set_option maxRecDepth 20000 in
theorem ggX0_depthOf_X0_parentOf : GoodIn wsX0_depthOf wsX0_parentOf := goodIn_r _ [5, 6, 7, 8, 9, 4, 10, 11, 12, 13, 14, 15] (by decide +kernel) (by decide +kernel)
set_option maxRecDepth 20000 in
theorem gX0_depthOf_X0_parentOf : GoodIn wsX0_depthOf (wsV RX0 30 RX0 yX0_parentOf wsX0_parentOf) := goodIn_app (goodIn_of _ (by decide +kernel)) ggX0_depthOf_X0_parentOf
theorem dX0_depthOf_0 : decode cX0_depthOf 0 = .ok (.iconst 0, 1) := by decide +kernel
theorem dX0_depthOf_1 : decode cX0_depthOf 1 = .ok (.istore_n 2, 1) := by decide +kernel
theorem dX0_depthOf_2 : decode cX0_depthOf 2 = .ok (.aload_n 0, 1) := by decide +kernel
theorem dX0_depthOf_3 : decode cX0_depthOf 3 = .ok (.iload_n 1, 1) := by decide +kernel
theorem dX0_depthOf_4 : decode cX0_depthOf 4 = .ok (.invokevirtual 30, 3) := by decide +kernel
theorem dX0_depthOf_7 : decode cX0_depthOf 7 = .ok (.istore_n 3, 1) := by decide +kernel
theorem dX0_depthOf_8 : decode cX0_depthOf 8 = .ok (.iload_n 2, 1) := by decide +kernel
theorem dX0_depthOf_9 : decode cX0_depthOf 9 = .ok (.bipush 64, 2) := by decide +kernel
theorem dX0_depthOf_11 : decode cX0_depthOf 11 = .ok (.if_icmp .ge 20, 3) := by decide +kernel
theorem dX0_depthOf_14 : decode cX0_depthOf 14 = .ok (.iload_n 3, 1) := by decide +kernel
theorem dX0_depthOf_15 : decode cX0_depthOf 15 = .ok (.iconst (-1), 1) := by decide +kernel
theorem dX0_depthOf_16 : decode cX0_depthOf 16 = .ok (.if_icmp .eq 15, 3) := by decide +kernel
theorem dX0_depthOf_19 : decode cX0_depthOf 19 = .ok (.aload_n 0, 1) := by decide +kernel
theorem dX0_depthOf_20 : decode cX0_depthOf 20 = .ok (.iload_n 3, 1) := by decide +kernel
theorem dX0_depthOf_21 : decode cX0_depthOf 21 = .ok (.invokevirtual 30, 3) := by decide +kernel
theorem dX0_depthOf_24 : decode cX0_depthOf 24 = .ok (.istore_n 3, 1) := by decide +kernel
theorem dX0_depthOf_25 : decode cX0_depthOf 25 = .ok (.iinc 2 1, 3) := by decide +kernel
theorem dX0_depthOf_28 : decode cX0_depthOf 28 = .ok (.goto (-20), 3) := by decide +kernel
theorem dX0_depthOf_31 : decode cX0_depthOf 31 = .ok (.iload_n 2, 1) := by decide +kernel
theorem dX0_depthOf_32 : decode cX0_depthOf 32 = .ok (.ireturn, 1) := by decide +kernel
set_option maxRecDepth 20000 in
theorem ggX0_rootOf_X0_depthOf : GoodIn wsX0_rootOf wsX0_depthOf := goodIn_r _ [5, 6, 7, 8, 4, 9, 10, 11, 12, 13, 14, 15, 20, 21, 22, 23] (by decide +kernel) (by decide +kernel)
set_option maxRecDepth 20000 in
theorem gX0_rootOf_X0_depthOf : GoodIn wsX0_rootOf (wsV RX0 44 RX0 yX0_depthOf wsX0_depthOf) := goodIn_app (goodIn_of _ (by decide +kernel)) ggX0_rootOf_X0_depthOf
set_option maxRecDepth 20000 in
theorem ggX0_rootOf_X0_climb : GoodIn wsX0_rootOf wsX0_climb := goodIn_r _ [19, 6, 7, 8, 4, 9, 10, 11, 12, 13, 14, 15, 20, 21, 22, 23] (by decide +kernel) (by decide +kernel)
set_option maxRecDepth 20000 in
theorem gX0_rootOf_X0_climb : GoodIn wsX0_rootOf (wsV RX0 47 RX0 yX0_climb wsX0_climb) := goodIn_app (goodIn_of _ (by decide +kernel)) ggX0_rootOf_X0_climb
theorem dX0_rootOf_0 : decode cX0_rootOf 0 = .ok (.aload_n 0, 1) := by decide +kernel
theorem dX0_rootOf_1 : decode cX0_rootOf 1 = .ok (.iload_n 1, 1) := by decide +kernel
theorem dX0_rootOf_2 : decode cX0_rootOf 2 = .ok (.aload_n 0, 1) := by decide +kernel
theorem dX0_rootOf_3 : decode cX0_rootOf 3 = .ok (.iload_n 1, 1) := by decide +kernel
theorem dX0_rootOf_4 : decode cX0_rootOf 4 = .ok (.invokevirtual 44, 3) := by decide +kernel
theorem dX0_rootOf_7 : decode cX0_rootOf 7 = .ok (.invokevirtual 47, 3) := by decide +kernel
theorem dX0_rootOf_10 : decode cX0_rootOf 10 = .ok (.ireturn, 1) := by decide +kernel
set_option maxRecDepth 20000 in
theorem ggX0_climb_X0_parentOf : GoodIn wsX0_climb wsX0_parentOf := goodIn_r _ [5, 6, 7, 8, 9, 4, 10, 11, 12, 13, 14, 15] (by decide +kernel) (by decide +kernel)
set_option maxRecDepth 20000 in
theorem gX0_climb_X0_parentOf : GoodIn wsX0_climb (wsV RX0 30 RX0 yX0_parentOf wsX0_parentOf) := goodIn_app (goodIn_of _ (by decide +kernel)) ggX0_climb_X0_parentOf
theorem dX0_climb_0 : decode cX0_climb 0 = .ok (.iload_n 1, 1) := by decide +kernel
theorem dX0_climb_1 : decode cX0_climb 1 = .ok (.istore_n 3, 1) := by decide +kernel
theorem dX0_climb_2 : decode cX0_climb 2 = .ok (.iconst 0, 1) := by decide +kernel
theorem dX0_climb_3 : decode cX0_climb 3 = .ok (.istore 4, 2) := by decide +kernel
theorem dX0_climb_5 : decode cX0_climb 5 = .ok (.iload 4, 2) := by decide +kernel
theorem dX0_climb_7 : decode cX0_climb 7 = .ok (.iload_n 2, 1) := by decide +kernel
theorem dX0_climb_8 : decode cX0_climb 8 = .ok (.if_icmp .ge 22, 3) := by decide +kernel
theorem dX0_climb_11 : decode cX0_climb 11 = .ok (.iload 4, 2) := by decide +kernel
theorem dX0_climb_13 : decode cX0_climb 13 = .ok (.bipush 64, 2) := by decide +kernel
theorem dX0_climb_15 : decode cX0_climb 15 = .ok (.if_icmp .ge 15, 3) := by decide +kernel
theorem dX0_climb_18 : decode cX0_climb 18 = .ok (.aload_n 0, 1) := by decide +kernel
theorem dX0_climb_19 : decode cX0_climb 19 = .ok (.iload_n 3, 1) := by decide +kernel
theorem dX0_climb_20 : decode cX0_climb 20 = .ok (.invokevirtual 30, 3) := by decide +kernel
theorem dX0_climb_23 : decode cX0_climb 23 = .ok (.istore_n 3, 1) := by decide +kernel
theorem dX0_climb_24 : decode cX0_climb 24 = .ok (.iinc 4 1, 3) := by decide +kernel
theorem dX0_climb_27 : decode cX0_climb 27 = .ok (.goto (-22), 3) := by decide +kernel
theorem dX0_climb_30 : decode cX0_climb 30 = .ok (.iload_n 3, 1) := by decide +kernel
theorem dX0_climb_31 : decode cX0_climb 31 = .ok (.ireturn, 1) := by decide +kernel
set_option maxRecDepth 20000 in
theorem ggX0_isBelow_X0_depthOf : GoodIn wsX0_isBelow wsX0_depthOf := goodIn_r _ [5, 6, 7, 8, 4, 9, 10, 11, 12, 13, 14, 15, 20, 21, 22, 23] (by decide +kernel) (by decide +kernel)
set_option maxRecDepth 20000 in
theorem gX0_isBelow_X0_depthOf : GoodIn wsX0_isBelow (wsV RX0 44 RX0 yX0_depthOf wsX0_depthOf) := goodIn_app (goodIn_of _ (by decide +kernel)) ggX0_isBelow_X0_depthOf
set_option maxRecDepth 20000 in
theorem ggX0_isBelow_X0_climb : GoodIn wsX0_isBelow wsX0_climb := goodIn_r _ [19, 6, 7, 8, 4, 9, 10, 11, 12, 13, 14, 15, 20, 21, 22, 23] (by decide +kernel) (by decide +kernel)
set_option maxRecDepth 20000 in
theorem gX0_isBelow_X0_climb : GoodIn wsX0_isBelow (wsV RX0 47 RX0 yX0_climb wsX0_climb) := goodIn_app (goodIn_of _ (by decide +kernel)) ggX0_isBelow_X0_climb
theorem dX0_isBelow_0 : decode cX0_isBelow 0 = .ok (.aload_n 0, 1) := by decide +kernel
theorem dX0_isBelow_1 : decode cX0_isBelow 1 = .ok (.iload_n 1, 1) := by decide +kernel
theorem dX0_isBelow_2 : decode cX0_isBelow 2 = .ok (.invokevirtual 44, 3) := by decide +kernel
theorem dX0_isBelow_5 : decode cX0_isBelow 5 = .ok (.aload_n 0, 1) := by decide +kernel
theorem dX0_isBelow_6 : decode cX0_isBelow 6 = .ok (.iload_n 2, 1) := by decide +kernel
theorem dX0_isBelow_7 : decode cX0_isBelow 7 = .ok (.invokevirtual 44, 3) := by decide +kernel
theorem dX0_isBelow_10 : decode cX0_isBelow 10 = .ok (.isub, 1) := by decide +kernel
theorem dX0_isBelow_11 : decode cX0_isBelow 11 = .ok (.istore_n 3, 1) := by decide +kernel
theorem dX0_isBelow_12 : decode cX0_isBelow 12 = .ok (.iload_n 3, 1) := by decide +kernel
theorem dX0_isBelow_13 : decode cX0_isBelow 13 = .ok (.ifCond .lt 17, 3) := by decide +kernel
theorem dX0_isBelow_16 : decode cX0_isBelow 16 = .ok (.aload_n 0, 1) := by decide +kernel
theorem dX0_isBelow_17 : decode cX0_isBelow 17 = .ok (.iload_n 1, 1) := by decide +kernel
theorem dX0_isBelow_18 : decode cX0_isBelow 18 = .ok (.iload_n 3, 1) := by decide +kernel
theorem dX0_isBelow_19 : decode cX0_isBelow 19 = .ok (.invokevirtual 47, 3) := by decide +kernel
theorem dX0_isBelow_22 : decode cX0_isBelow 22 = .ok (.iload_n 2, 1) := by decide +kernel
theorem dX0_isBelow_23 : decode cX0_isBelow 23 = .ok (.if_icmp .ne 7, 3) := by decide +kernel
theorem dX0_isBelow_26 : decode cX0_isBelow 26 = .ok (.iconst 1, 1) := by decide +kernel
theorem dX0_isBelow_27 : decode cX0_isBelow 27 = .ok (.goto 4, 3) := by decide +kernel
theorem dX0_isBelow_30 : decode cX0_isBelow 30 = .ok (.iconst 0, 1) := by decide +kernel
theorem dX0_isBelow_31 : decode cX0_isBelow 31 = .ok (.ireturn, 1) := by decide +kernel
set_option maxRecDepth 20000 in
theorem ggX0_countBelow_X0_isBelow : GoodIn wsX0_countBelow wsX0_isBelow := goodIn_r _ [6, 7, 8, 9, 5, 10, 11, 12, 13, 14, 15, 16, 17, 18, 19, 1, 20, 21, 22, 23, 24, 25, 26, 27] (by decide +kernel) (by decide +kernel)
set_option maxRecDepth 20000 in
theorem gX0_countBelow_X0_isBelow : GoodIn wsX0_countBelow (wsV RX0 51 RX0 yX0_isBelow wsX0_isBelow) := goodIn_app (goodIn_of _ (by decide +kernel)) ggX0_countBelow_X0_isBelow
theorem dX0_countBelow_0 : decode cX0_countBelow 0 = .ok (.iconst 0, 1) := by decide +kernel
theorem dX0_countBelow_1 : decode cX0_countBelow 1 = .ok (.istore_n 2, 1) := by decide +kernel
theorem dX0_countBelow_2 : decode cX0_countBelow 2 = .ok (.iconst 0, 1) := by decide +kernel
theorem dX0_countBelow_3 : decode cX0_countBelow 3 = .ok (.istore_n 3, 1) := by decide +kernel
theorem dX0_countBelow_4 : decode cX0_countBelow 4 = .ok (.iload_n 3, 1) := by decide +kernel
theorem dX0_countBelow_5 : decode cX0_countBelow 5 = .ok (.aload_n 0, 1) := by decide +kernel
theorem dX0_countBelow_6 : decode cX0_countBelow 6 = .ok (.getfield 9, 3) := by decide +kernel
theorem dX0_countBelow_9 : decode cX0_countBelow 9 = .ok (.if_icmp .ge 21, 3) := by decide +kernel
theorem dX0_countBelow_12 : decode cX0_countBelow 12 = .ok (.aload_n 0, 1) := by decide +kernel
theorem dX0_countBelow_13 : decode cX0_countBelow 13 = .ok (.iload_n 3, 1) := by decide +kernel
theorem dX0_countBelow_14 : decode cX0_countBelow 14 = .ok (.iload_n 1, 1) := by decide +kernel
theorem dX0_countBelow_15 : decode cX0_countBelow 15 = .ok (.invokevirtual 51, 3) := by decide +kernel
theorem dX0_countBelow_18 : decode cX0_countBelow 18 = .ok (.ifCond .eq 6, 3) := by decide +kernel
theorem dX0_countBelow_21 : decode cX0_countBelow 21 = .ok (.iinc 2 1, 3) := by decide +kernel
theorem dX0_countBelow_24 : decode cX0_countBelow 24 = .ok (.iinc 3 1, 3) := by decide +kernel
theorem dX0_countBelow_27 : decode cX0_countBelow 27 = .ok (.goto (-23), 3) := by decide +kernel
theorem dX0_countBelow_30 : decode cX0_countBelow 30 = .ok (.iload_n 2, 1) := by decide +kernel
theorem dX0_countBelow_31 : decode cX0_countBelow 31 = .ok (.ireturn, 1) := by decide +kernel
set_option maxRecDepth 20000 in
theorem ggX0_meetingPoint_X0_depthOf : GoodIn wsX0_meetingPoint wsX0_depthOf := goodIn_r _ [5, 6, 7, 8, 4, 9, 10, 11, 12, 13, 14, 15, 20, 21, 22, 23] (by decide +kernel) (by decide +kernel)
set_option maxRecDepth 20000 in
theorem gX0_meetingPoint_X0_depthOf : GoodIn wsX0_meetingPoint (wsV RX0 44 RX0 yX0_depthOf wsX0_depthOf) := goodIn_app (goodIn_of _ (by decide +kernel)) ggX0_meetingPoint_X0_depthOf
set_option maxRecDepth 20000 in
theorem ggX0_meetingPoint_X0_climb : GoodIn wsX0_meetingPoint wsX0_climb := goodIn_r _ [19, 6, 7, 8, 4, 9, 10, 11, 12, 13, 14, 15, 20, 21, 22, 23] (by decide +kernel) (by decide +kernel)
set_option maxRecDepth 20000 in
theorem gX0_meetingPoint_X0_climb : GoodIn wsX0_meetingPoint (wsV RX0 47 RX0 yX0_climb wsX0_climb) := goodIn_app (goodIn_of _ (by decide +kernel)) ggX0_meetingPoint_X0_climb
set_option maxRecDepth 20000 in
theorem ggX0_meetingPoint_X0_parentOf : GoodIn wsX0_meetingPoint wsX0_parentOf := goodIn_r _ [9, 10, 11, 12, 13, 4, 14, 15, 20, 21, 22, 23] (by decide +kernel) (by decide +kernel)
set_option maxRecDepth 20000 in
theorem gX0_meetingPoint_X0_parentOf : GoodIn wsX0_meetingPoint (wsV RX0 30 RX0 yX0_parentOf wsX0_parentOf) := goodIn_app (goodIn_of _ (by decide +kernel)) ggX0_meetingPoint_X0_parentOf
theorem dX0_meetingPoint_0 : decode cX0_meetingPoint 0 = .ok (.aload_n 0, 1) := by decide +kernel
theorem dX0_meetingPoint_1 : decode cX0_meetingPoint 1 = .ok (.iload_n 1, 1) := by decide +kernel
theorem dX0_meetingPoint_2 : decode cX0_meetingPoint 2 = .ok (.invokevirtual 44, 3) := by decide +kernel
theorem dX0_meetingPoint_5 : decode cX0_meetingPoint 5 = .ok (.aload_n 0, 1) := by decide +kernel
theorem dX0_meetingPoint_6 : decode cX0_meetingPoint 6 = .ok (.iload_n 2, 1) := by decide +kernel
theorem dX0_meetingPoint_7 : decode cX0_meetingPoint 7 = .ok (.invokevirtual 44, 3) := by decide +kernel
theorem dX0_meetingPoint_10 : decode cX0_meetingPoint 10 = .ok (.isub, 1) := by decide +kernel
theorem dX0_meetingPoint_11 : decode cX0_meetingPoint 11 = .ok (.istore_n 3, 1) := by decide +kernel
theorem dX0_meetingPoint_12 : decode cX0_meetingPoint 12 = .ok (.aload_n 0, 1) := by decide +kernel
theorem dX0_meetingPoint_13 : decode cX0_meetingPoint 13 = .ok (.iload_n 1, 1) := by decide +kernel
theorem dX0_meetingPoint_14 : decode cX0_meetingPoint 14 = .ok (.iload_n 3, 1) := by decide +kernel
theorem dX0_meetingPoint_15 : decode cX0_meetingPoint 15 = .ok (.invokevirtual 47, 3) := by decide +kernel
theorem dX0_meetingPoint_18 : decode cX0_meetingPoint 18 = .ok (.istore 4, 2) := by decide +kernel
theorem dX0_meetingPoint_20 : decode cX0_meetingPoint 20 = .ok (.aload_n 0, 1) := by decide +kernel
theorem dX0_meetingPoint_21 : decode cX0_meetingPoint 21 = .ok (.iload_n 2, 1) := by decide +kernel
theorem dX0_meetingPoint_22 : decode cX0_meetingPoint 22 = .ok (.iload_n 3, 1) := by decide +kernel
theorem dX0_meetingPoint_23 : decode cX0_meetingPoint 23 = .ok (.ineg, 1) := by decide +kernel
theorem dX0_meetingPoint_24 : decode cX0_meetingPoint 24 = .ok (.invokevirtual 47, 3) := by decide +kernel
theorem dX0_meetingPoint_27 : decode cX0_meetingPoint 27 = .ok (.istore 5, 2) := by decide +kernel
theorem dX0_meetingPoint_29 : decode cX0_meetingPoint 29 = .ok (.iconst 0, 1) := by decide +kernel
theorem dX0_meetingPoint_30 : decode cX0_meetingPoint 30 = .ok (.istore 6, 2) := by decide +kernel
theorem dX0_meetingPoint_32 : decode cX0_meetingPoint 32 = .ok (.iload 6, 2) := by decide +kernel
theorem dX0_meetingPoint_34 : decode cX0_meetingPoint 34 = .ok (.bipush 64, 2) := by decide +kernel
theorem dX0_meetingPoint_36 : decode cX0_meetingPoint 36 = .ok (.if_icmp .ge 32, 3) := by decide +kernel
theorem dX0_meetingPoint_39 : decode cX0_meetingPoint 39 = .ok (.iload 4, 2) := by decide +kernel
theorem dX0_meetingPoint_41 : decode cX0_meetingPoint 41 = .ok (.iload 5, 2) := by decide +kernel
theorem dX0_meetingPoint_43 : decode cX0_meetingPoint 43 = .ok (.if_icmp .eq 25, 3) := by decide +kernel
theorem dX0_meetingPoint_46 : decode cX0_meetingPoint 46 = .ok (.aload_n 0, 1) := by decide +kernel
theorem dX0_meetingPoint_47 : decode cX0_meetingPoint 47 = .ok (.iload 4, 2) := by decide +kernel
theorem dX0_meetingPoint_49 : decode cX0_meetingPoint 49 = .ok (.invokevirtual 30, 3) := by decide +kernel
theorem dX0_meetingPoint_52 : decode cX0_meetingPoint 52 = .ok (.istore 4, 2) := by decide +kernel
theorem dX0_meetingPoint_54 : decode cX0_meetingPoint 54 = .ok (.aload_n 0, 1) := by decide +kernel
theorem dX0_meetingPoint_55 : decode cX0_meetingPoint 55 = .ok (.iload 5, 2) := by decide +kernel
theorem dX0_meetingPoint_57 : decode cX0_meetingPoint 57 = .ok (.invokevirtual 30, 3) := by decide +kernel
theorem dX0_meetingPoint_60 : decode cX0_meetingPoint 60 = .ok (.istore 5, 2) := by decide +kernel
theorem dX0_meetingPoint_62 : decode cX0_meetingPoint 62 = .ok (.iinc 6 1, 3) := by decide +kernel
theorem dX0_meetingPoint_65 : decode cX0_meetingPoint 65 = .ok (.goto (-33), 3) := by decide +kernel
theorem dX0_meetingPoint_68 : decode cX0_meetingPoint 68 = .ok (.iload 4, 2) := by decide +kernel
theorem dX0_meetingPoint_70 : decode cX0_meetingPoint 70 = .ok (.ireturn, 1) := by decide +kernel
set_option maxRecDepth 20000 in
theorem ggX0_edgesBetween_X0_depthOf : GoodIn wsX0_edgesBetween wsX0_depthOf := goodIn_r _ [5, 6, 7, 8, 4, 9, 10, 11, 12, 13, 14, 15, 24, 25, 26, 27] (by decide +kernel) (by decide +kernel)
set_option maxRecDepth 20000 in
theorem gX0_edgesBetween_X0_depthOf : GoodIn wsX0_edgesBetween (wsV RX0 44 RX0 yX0_depthOf wsX0_depthOf) := goodIn_app (goodIn_of _ (by decide +kernel)) ggX0_edgesBetween_X0_depthOf
set_option maxRecDepth 20000 in
theorem ggX0_edgesBetween_X0_meetingPoint : GoodIn wsX0_edgesBetween wsX0_meetingPoint := goodIn_r _ [19, 1, 2, 3, 4, 5, 6, 7, 8, 9, 10, 11, 12, 13, 14, 15, 20, 21, 22, 23, 24, 25, 26, 27] (by decide +kernel) (by decide +kernel)
set_option maxRecDepth 20000 in
theorem gX0_edgesBetween_X0_meetingPoint : GoodIn wsX0_edgesBetween (wsV RX0 55 RX0 yX0_meetingPoint wsX0_meetingPoint) := goodIn_app (goodIn_of _ (by decide +kernel)) ggX0_edgesBetween_X0_meetingPoint
theorem dX0_edgesBetween_0 : decode cX0_edgesBetween 0 = .ok (.aload_n 0, 1) := by decide +kernel
theorem dX0_edgesBetween_1 : decode cX0_edgesBetween 1 = .ok (.iload_n 1, 1) := by decide +kernel
theorem dX0_edgesBetween_2 : decode cX0_edgesBetween 2 = .ok (.invokevirtual 44, 3) := by decide +kernel
theorem dX0_edgesBetween_5 : decode cX0_edgesBetween 5 = .ok (.aload_n 0, 1) := by decide +kernel
theorem dX0_edgesBetween_6 : decode cX0_edgesBetween 6 = .ok (.iload_n 2, 1) := by decide +kernel
theorem dX0_edgesBetween_7 : decode cX0_edgesBetween 7 = .ok (.invokevirtual 44, 3) := by decide +kernel
theorem dX0_edgesBetween_10 : decode cX0_edgesBetween 10 = .ok (.iadd, 1) := by decide +kernel
theorem dX0_edgesBetween_11 : decode cX0_edgesBetween 11 = .ok (.iconst 2, 1) := by decide +kernel
theorem dX0_edgesBetween_12 : decode cX0_edgesBetween 12 = .ok (.aload_n 0, 1) := by decide +kernel
theorem dX0_edgesBetween_13 : decode cX0_edgesBetween 13 = .ok (.aload_n 0, 1) := by decide +kernel
theorem dX0_edgesBetween_14 : decode cX0_edgesBetween 14 = .ok (.iload_n 1, 1) := by decide +kernel
theorem dX0_edgesBetween_15 : decode cX0_edgesBetween 15 = .ok (.iload_n 2, 1) := by decide +kernel
theorem dX0_edgesBetween_16 : decode cX0_edgesBetween 16 = .ok (.invokevirtual 55, 3) := by decide +kernel
theorem dX0_edgesBetween_19 : decode cX0_edgesBetween 19 = .ok (.invokevirtual 44, 3) := by decide +kernel
theorem dX0_edgesBetween_22 : decode cX0_edgesBetween 22 = .ok (.imul, 1) := by decide +kernel
theorem dX0_edgesBetween_23 : decode cX0_edgesBetween 23 = .ok (.isub, 1) := by decide +kernel
theorem dX0_edgesBetween_24 : decode cX0_edgesBetween 24 = .ok (.ireturn, 1) := by decide +kernel
set_option maxRecDepth 20000 in
theorem ggX0_farthestFrom_X0_rootOf : GoodIn wsX0_farthestFrom wsX0_rootOf := goodIn_r _ [6, 7, 8, 9, 5, 10, 11, 12, 13, 14, 15, 16, 17, 18, 19, 1, 20, 21, 22, 23, 32, 33, 34, 35] (by decide +kernel) (by decide +kernel)
set_option maxRecDepth 20000 in
theorem gX0_farthestFrom_X0_rootOf : GoodIn wsX0_farthestFrom (wsV RX0 58 RX0 yX0_rootOf wsX0_rootOf) := goodIn_app (goodIn_of _ (by decide +kernel)) ggX0_farthestFrom_X0_rootOf
set_option maxRecDepth 20000 in
theorem ggX0_farthestFrom_X0_edgesBetween : GoodIn wsX0_farthestFrom wsX0_edgesBetween := goodIn_r _ [27, 7, 8, 9, 5, 10, 11, 12, 13, 14, 15, 16, 17, 18, 19, 1, 28, 29, 30, 31, 20, 21, 22, 23, 32, 33, 34, 35] (by decide +kernel) (by decide +kernel)
set_option maxRecDepth 20000 in
theorem gX0_farthestFrom_X0_edgesBetween : GoodIn wsX0_farthestFrom (wsV RX0 61 RX0 yX0_edgesBetween wsX0_edgesBetween) := goodIn_app (goodIn_of _ (by decide +kernel)) ggX0_farthestFrom_X0_edgesBetween
theorem dX0_farthestFrom_0 : decode cX0_farthestFrom 0 = .ok (.aload_n 0, 1) := by decide +kernel
theorem dX0_farthestFrom_1 : decode cX0_farthestFrom 1 = .ok (.iload_n 1, 1) := by decide +kernel
theorem dX0_farthestFrom_2 : decode cX0_farthestFrom 2 = .ok (.invokevirtual 58, 3) := by decide +kernel
theorem dX0_farthestFrom_5 : decode cX0_farthestFrom 5 = .ok (.istore_n 2, 1) := by decide +kernel
theorem dX0_farthestFrom_6 : decode cX0_farthestFrom 6 = .ok (.iload_n 1, 1) := by decide +kernel
theorem dX0_farthestFrom_7 : decode cX0_farthestFrom 7 = .ok (.istore_n 3, 1) := by decide +kernel
theorem dX0_farthestFrom_8 : decode cX0_farthestFrom 8 = .ok (.iconst 0, 1) := by decide +kernel
theorem dX0_farthestFrom_9 : decode cX0_farthestFrom 9 = .ok (.istore 4, 2) := by decide +kernel
theorem dX0_farthestFrom_11 : decode cX0_farthestFrom 11 = .ok (.iconst 0, 1) := by decide +kernel
theorem dX0_farthestFrom_12 : decode cX0_farthestFrom 12 = .ok (.istore 5, 2) := by decide +kernel
theorem dX0_farthestFrom_14 : decode cX0_farthestFrom 14 = .ok (.iload 5, 2) := by decide +kernel
theorem dX0_farthestFrom_16 : decode cX0_farthestFrom 16 = .ok (.aload_n 0, 1) := by decide +kernel
theorem dX0_farthestFrom_17 : decode cX0_farthestFrom 17 = .ok (.getfield 9, 3) := by decide +kernel
theorem dX0_farthestFrom_20 : decode cX0_farthestFrom 20 = .ok (.if_icmp .ge 46, 3) := by decide +kernel
theorem dX0_farthestFrom_23 : decode cX0_farthestFrom 23 = .ok (.aload_n 0, 1) := by decide +kernel
theorem dX0_farthestFrom_24 : decode cX0_farthestFrom 24 = .ok (.iload 5, 2) := by decide +kernel
theorem dX0_farthestFrom_26 : decode cX0_farthestFrom 26 = .ok (.invokevirtual 58, 3) := by decide +kernel
theorem dX0_farthestFrom_29 : decode cX0_farthestFrom 29 = .ok (.iload_n 2, 1) := by decide +kernel
theorem dX0_farthestFrom_30 : decode cX0_farthestFrom 30 = .ok (.if_icmp .ne 13, 3) := by decide +kernel
theorem dX0_farthestFrom_33 : decode cX0_farthestFrom 33 = .ok (.aload_n 0, 1) := by decide +kernel
theorem dX0_farthestFrom_34 : decode cX0_farthestFrom 34 = .ok (.iload_n 1, 1) := by decide +kernel
theorem dX0_farthestFrom_35 : decode cX0_farthestFrom 35 = .ok (.iload 5, 2) := by decide +kernel
theorem dX0_farthestFrom_37 : decode cX0_farthestFrom 37 = .ok (.invokevirtual 61, 3) := by decide +kernel
theorem dX0_farthestFrom_40 : decode cX0_farthestFrom 40 = .ok (.goto 4, 3) := by decide +kernel
theorem dX0_farthestFrom_43 : decode cX0_farthestFrom 43 = .ok (.iconst 0, 1) := by decide +kernel
theorem dX0_farthestFrom_44 : decode cX0_farthestFrom 44 = .ok (.istore 6, 2) := by decide +kernel
theorem dX0_farthestFrom_46 : decode cX0_farthestFrom 46 = .ok (.iload 6, 2) := by decide +kernel
theorem dX0_farthestFrom_48 : decode cX0_farthestFrom 48 = .ok (.iload 4, 2) := by decide +kernel
theorem dX0_farthestFrom_50 : decode cX0_farthestFrom 50 = .ok (.if_icmp .le 10, 3) := by decide +kernel
theorem dX0_farthestFrom_53 : decode cX0_farthestFrom 53 = .ok (.iload 5, 2) := by decide +kernel
theorem dX0_farthestFrom_55 : decode cX0_farthestFrom 55 = .ok (.istore_n 3, 1) := by decide +kernel
theorem dX0_farthestFrom_56 : decode cX0_farthestFrom 56 = .ok (.iload 6, 2) := by decide +kernel
theorem dX0_farthestFrom_58 : decode cX0_farthestFrom 58 = .ok (.istore 4, 2) := by decide +kernel
theorem dX0_farthestFrom_60 : decode cX0_farthestFrom 60 = .ok (.iinc 5 1, 3) := by decide +kernel
theorem dX0_farthestFrom_63 : decode cX0_farthestFrom 63 = .ok (.goto (-49), 3) := by decide +kernel
theorem dX0_farthestFrom_66 : decode cX0_farthestFrom 66 = .ok (.iload_n 3, 1) := by decide +kernel
theorem dX0_farthestFrom_67 : decode cX0_farthestFrom 67 = .ok (.ireturn, 1) := by decide +kernel
set_option maxRecDepth 20000 in
theorem ggX0_nearestMarkOf_X0_rootOf : GoodIn wsX0_nearestMarkOf wsX0_rootOf := goodIn_r _ [6, 7, 8, 9, 5, 10, 11, 12, 13, 14, 15, 16, 17, 18, 19, 1, 20, 21, 22, 23, 37, 38, 39, 40] (by decide +kernel) (by decide +kernel)
set_option maxRecDepth 20000 in
theorem gX0_nearestMarkOf_X0_rootOf : GoodIn wsX0_nearestMarkOf (wsV RX0 58 RX0 yX0_rootOf wsX0_rootOf) := goodIn_app (goodIn_of _ (by decide +kernel)) ggX0_nearestMarkOf_X0_rootOf
set_option maxRecDepth 20000 in
theorem ggX0_nearestMarkOf_X0_isMarked : GoodIn wsX0_nearestMarkOf wsX0_isMarked := goodIn_r _ [27, 28, 16, 17, 18, 5, 19, 1, 37, 38, 39, 40] (by decide +kernel) (by decide +kernel)
set_option maxRecDepth 20000 in
theorem gX0_nearestMarkOf_X0_isMarked : GoodIn wsX0_nearestMarkOf (wsV RX0 64 RX0 yX0_isMarked wsX0_isMarked) := goodIn_app (goodIn_of _ (by decide +kernel)) ggX0_nearestMarkOf_X0_isMarked
set_option maxRecDepth 20000 in
theorem ggX0_nearestMarkOf_X0_edgesBetween : GoodIn wsX0_nearestMarkOf wsX0_edgesBetween := goodIn_r _ [32, 7, 8, 9, 5, 10, 11, 12, 13, 14, 15, 16, 17, 18, 19, 1, 33, 34, 35, 36, 20, 21, 22, 23, 37, 38, 39, 40] (by decide +kernel) (by decide +kernel)
set_option maxRecDepth 20000 in
theorem gX0_nearestMarkOf_X0_edgesBetween : GoodIn wsX0_nearestMarkOf (wsV RX0 61 RX0 yX0_edgesBetween wsX0_edgesBetween) := goodIn_app (goodIn_of _ (by decide +kernel)) ggX0_nearestMarkOf_X0_edgesBetween
theorem dX0_nearestMarkOf_0 : decode cX0_nearestMarkOf 0 = .ok (.aload_n 0, 1) := by decide +kernel
theorem dX0_nearestMarkOf_1 : decode cX0_nearestMarkOf 1 = .ok (.iload_n 1, 1) := by decide +kernel
theorem dX0_nearestMarkOf_2 : decode cX0_nearestMarkOf 2 = .ok (.invokevirtual 58, 3) := by decide +kernel
theorem dX0_nearestMarkOf_5 : decode cX0_nearestMarkOf 5 = .ok (.istore_n 2, 1) := by decide +kernel
theorem dX0_nearestMarkOf_6 : decode cX0_nearestMarkOf 6 = .ok (.iconst (-1), 1) := by decide +kernel
theorem dX0_nearestMarkOf_7 : decode cX0_nearestMarkOf 7 = .ok (.istore_n 3, 1) := by decide +kernel
theorem dX0_nearestMarkOf_8 : decode cX0_nearestMarkOf 8 = .ok (.bipush 64, 2) := by decide +kernel
theorem dX0_nearestMarkOf_10 : decode cX0_nearestMarkOf 10 = .ok (.istore 4, 2) := by decide +kernel
theorem dX0_nearestMarkOf_12 : decode cX0_nearestMarkOf 12 = .ok (.iconst 0, 1) := by decide +kernel
theorem dX0_nearestMarkOf_13 : decode cX0_nearestMarkOf 13 = .ok (.istore 5, 2) := by decide +kernel
theorem dX0_nearestMarkOf_15 : decode cX0_nearestMarkOf 15 = .ok (.iload 5, 2) := by decide +kernel
theorem dX0_nearestMarkOf_17 : decode cX0_nearestMarkOf 17 = .ok (.aload_n 0, 1) := by decide +kernel
theorem dX0_nearestMarkOf_18 : decode cX0_nearestMarkOf 18 = .ok (.getfield 9, 3) := by decide +kernel
theorem dX0_nearestMarkOf_21 : decode cX0_nearestMarkOf 21 = .ok (.if_icmp .ge 68, 3) := by decide +kernel
theorem dX0_nearestMarkOf_24 : decode cX0_nearestMarkOf 24 = .ok (.aload_n 0, 1) := by decide +kernel
theorem dX0_nearestMarkOf_25 : decode cX0_nearestMarkOf 25 = .ok (.iload 5, 2) := by decide +kernel
theorem dX0_nearestMarkOf_27 : decode cX0_nearestMarkOf 27 = .ok (.invokevirtual 64, 3) := by decide +kernel
theorem dX0_nearestMarkOf_30 : decode cX0_nearestMarkOf 30 = .ok (.ifCond .eq 17, 3) := by decide +kernel
theorem dX0_nearestMarkOf_33 : decode cX0_nearestMarkOf 33 = .ok (.aload_n 0, 1) := by decide +kernel
theorem dX0_nearestMarkOf_34 : decode cX0_nearestMarkOf 34 = .ok (.iload 5, 2) := by decide +kernel
theorem dX0_nearestMarkOf_36 : decode cX0_nearestMarkOf 36 = .ok (.invokevirtual 58, 3) := by decide +kernel
theorem dX0_nearestMarkOf_39 : decode cX0_nearestMarkOf 39 = .ok (.iload_n 2, 1) := by decide +kernel
theorem dX0_nearestMarkOf_40 : decode cX0_nearestMarkOf 40 = .ok (.if_icmp .ne 7, 3) := by decide +kernel
theorem dX0_nearestMarkOf_43 : decode cX0_nearestMarkOf 43 = .ok (.iconst 1, 1) := by decide +kernel
theorem dX0_nearestMarkOf_44 : decode cX0_nearestMarkOf 44 = .ok (.goto 4, 3) := by decide +kernel
theorem dX0_nearestMarkOf_47 : decode cX0_nearestMarkOf 47 = .ok (.iconst 0, 1) := by decide +kernel
theorem dX0_nearestMarkOf_48 : decode cX0_nearestMarkOf 48 = .ok (.istore 6, 2) := by decide +kernel
theorem dX0_nearestMarkOf_50 : decode cX0_nearestMarkOf 50 = .ok (.iload 6, 2) := by decide +kernel
theorem dX0_nearestMarkOf_52 : decode cX0_nearestMarkOf 52 = .ok (.ifCond .eq 13, 3) := by decide +kernel
theorem dX0_nearestMarkOf_55 : decode cX0_nearestMarkOf 55 = .ok (.aload_n 0, 1) := by decide +kernel
theorem dX0_nearestMarkOf_56 : decode cX0_nearestMarkOf 56 = .ok (.iload_n 1, 1) := by decide +kernel
theorem dX0_nearestMarkOf_57 : decode cX0_nearestMarkOf 57 = .ok (.iload 5, 2) := by decide +kernel
theorem dX0_nearestMarkOf_59 : decode cX0_nearestMarkOf 59 = .ok (.invokevirtual 61, 3) := by decide +kernel
theorem dX0_nearestMarkOf_62 : decode cX0_nearestMarkOf 62 = .ok (.goto 5, 3) := by decide +kernel
theorem dX0_nearestMarkOf_65 : decode cX0_nearestMarkOf 65 = .ok (.bipush 64, 2) := by decide +kernel
theorem dX0_nearestMarkOf_67 : decode cX0_nearestMarkOf 67 = .ok (.istore 7, 2) := by decide +kernel
theorem dX0_nearestMarkOf_69 : decode cX0_nearestMarkOf 69 = .ok (.iload 7, 2) := by decide +kernel
theorem dX0_nearestMarkOf_71 : decode cX0_nearestMarkOf 71 = .ok (.iload 4, 2) := by decide +kernel
theorem dX0_nearestMarkOf_73 : decode cX0_nearestMarkOf 73 = .ok (.if_icmp .ge 10, 3) := by decide +kernel
theorem dX0_nearestMarkOf_76 : decode cX0_nearestMarkOf 76 = .ok (.iload 5, 2) := by decide +kernel
theorem dX0_nearestMarkOf_78 : decode cX0_nearestMarkOf 78 = .ok (.istore_n 3, 1) := by decide +kernel
theorem dX0_nearestMarkOf_79 : decode cX0_nearestMarkOf 79 = .ok (.iload 7, 2) := by decide +kernel
theorem dX0_nearestMarkOf_81 : decode cX0_nearestMarkOf 81 = .ok (.istore 4, 2) := by decide +kernel
theorem dX0_nearestMarkOf_83 : decode cX0_nearestMarkOf 83 = .ok (.iinc 5 1, 3) := by decide +kernel
theorem dX0_nearestMarkOf_86 : decode cX0_nearestMarkOf 86 = .ok (.goto (-71), 3) := by decide +kernel
theorem dX0_nearestMarkOf_89 : decode cX0_nearestMarkOf 89 = .ok (.iload_n 3, 1) := by decide +kernel
theorem dX0_nearestMarkOf_90 : decode cX0_nearestMarkOf 90 = .ok (.ireturn, 1) := by decide +kernel
set_option maxRecDepth 20000 in
theorem ggX0_turnTowards_X0_depthOf : GoodIn wsX0_turnTowards wsX0_depthOf := goodIn_r _ [5, 6, 7, 8, 4, 9, 10, 11, 12, 13, 14, 15, 20, 21, 22, 23] (by decide +kernel) (by decide +kernel)
set_option maxRecDepth 20000 in
theorem gX0_turnTowards_X0_depthOf : GoodIn wsX0_turnTowards (wsV RX0 44 RX0 yX0_depthOf wsX0_depthOf) := goodIn_app (goodIn_of _ (by decide +kernel)) ggX0_turnTowards_X0_depthOf
set_option maxRecDepth 20000 in
theorem ggX0_turnTowards_X0_parentOf : GoodIn wsX0_turnTowards wsX0_parentOf := goodIn_r _ [9, 10, 11, 12, 13, 4, 14, 15, 20, 21, 22, 23] (by decide +kernel) (by decide +kernel)
set_option maxRecDepth 20000 in
theorem gX0_turnTowards_X0_parentOf : GoodIn wsX0_turnTowards (wsV RX0 30 RX0 yX0_parentOf wsX0_parentOf) := goodIn_app (goodIn_of _ (by decide +kernel)) ggX0_turnTowards_X0_parentOf
set_option maxRecDepth 20000 in
theorem ggX0_turnTowards_X0_putParent : GoodIn wsX0_turnTowards wsX0_putParent := goodIn_r _ [19, 10, 11, 12, 13, 4, 14, 15, 20, 21, 22, 23] (by decide +kernel) (by decide +kernel)
set_option maxRecDepth 20000 in
theorem gX0_turnTowards_X0_putParent : GoodIn wsX0_turnTowards (wsV RX0 67 RX0 yX0_putParent wsX0_putParent) := goodIn_app (goodIn_of _ (by decide +kernel)) ggX0_turnTowards_X0_putParent
theorem dX0_turnTowards_0 : decode cX0_turnTowards 0 = .ok (.aload_n 0, 1) := by decide +kernel
theorem dX0_turnTowards_1 : decode cX0_turnTowards 1 = .ok (.iload_n 1, 1) := by decide +kernel
theorem dX0_turnTowards_2 : decode cX0_turnTowards 2 = .ok (.invokevirtual 44, 3) := by decide +kernel
theorem dX0_turnTowards_5 : decode cX0_turnTowards 5 = .ok (.istore_n 2, 1) := by decide +kernel
theorem dX0_turnTowards_6 : decode cX0_turnTowards 6 = .ok (.iconst (-1), 1) := by decide +kernel
theorem dX0_turnTowards_7 : decode cX0_turnTowards 7 = .ok (.istore_n 3, 1) := by decide +kernel
theorem dX0_turnTowards_8 : decode cX0_turnTowards 8 = .ok (.iload_n 1, 1) := by decide +kernel
theorem dX0_turnTowards_9 : decode cX0_turnTowards 9 = .ok (.istore 4, 2) := by decide +kernel
theorem dX0_turnTowards_11 : decode cX0_turnTowards 11 = .ok (.iconst 0, 1) := by decide +kernel
theorem dX0_turnTowards_12 : decode cX0_turnTowards 12 = .ok (.istore 5, 2) := by decide +kernel
theorem dX0_turnTowards_14 : decode cX0_turnTowards 14 = .ok (.iload 5, 2) := by decide +kernel
theorem dX0_turnTowards_16 : decode cX0_turnTowards 16 = .ok (.iload_n 2, 1) := by decide +kernel
theorem dX0_turnTowards_17 : decode cX0_turnTowards 17 = .ok (.if_icmp .gt 31, 3) := by decide +kernel
theorem dX0_turnTowards_20 : decode cX0_turnTowards 20 = .ok (.aload_n 0, 1) := by decide +kernel
theorem dX0_turnTowards_21 : decode cX0_turnTowards 21 = .ok (.iload 4, 2) := by decide +kernel
theorem dX0_turnTowards_23 : decode cX0_turnTowards 23 = .ok (.invokevirtual 30, 3) := by decide +kernel
theorem dX0_turnTowards_26 : decode cX0_turnTowards 26 = .ok (.istore 6, 2) := by decide +kernel
theorem dX0_turnTowards_28 : decode cX0_turnTowards 28 = .ok (.aload_n 0, 1) := by decide +kernel
theorem dX0_turnTowards_29 : decode cX0_turnTowards 29 = .ok (.iload 4, 2) := by decide +kernel
theorem dX0_turnTowards_31 : decode cX0_turnTowards 31 = .ok (.iload_n 3, 1) := by decide +kernel
theorem dX0_turnTowards_32 : decode cX0_turnTowards 32 = .ok (.invokevirtual 67, 3) := by decide +kernel
theorem dX0_turnTowards_35 : decode cX0_turnTowards 35 = .ok (.iload 4, 2) := by decide +kernel
theorem dX0_turnTowards_37 : decode cX0_turnTowards 37 = .ok (.istore_n 3, 1) := by decide +kernel
theorem dX0_turnTowards_38 : decode cX0_turnTowards 38 = .ok (.iload 6, 2) := by decide +kernel
theorem dX0_turnTowards_40 : decode cX0_turnTowards 40 = .ok (.istore 4, 2) := by decide +kernel
theorem dX0_turnTowards_42 : decode cX0_turnTowards 42 = .ok (.iinc 5 1, 3) := by decide +kernel
theorem dX0_turnTowards_45 : decode cX0_turnTowards 45 = .ok (.goto (-31), 3) := by decide +kernel
theorem dX0_turnTowards_48 : decode cX0_turnTowards 48 = .ok (.return_, 1) := by decide +kernel
theorem dX1_init_0 : decode cX1_init 0 = .ok (.aload_n 0, 1) := by decide +kernel
theorem dX1_init_1 : decode cX1_init 1 = .ok (.invokespecial 3, 3) := by decide +kernel
theorem dX1_init_4 : decode cX1_init 4 = .ok (.aload_n 0, 1) := by decide +kernel
theorem dX1_init_5 : decode cX1_init 5 = .ok (.bipush 64, 2) := by decide +kernel
theorem dX1_init_7 : decode cX1_init 7 = .ok (.newarray .int, 2) := by decide +kernel
theorem dX1_init_9 : decode cX1_init 9 = .ok (.putfield 9, 3) := by decide +kernel
theorem dX1_init_12 : decode cX1_init 12 = .ok (.aload_n 0, 1) := by decide +kernel
theorem dX1_init_13 : decode cX1_init 13 = .ok (.iconst 0, 1) := by decide +kernel
theorem dX1_init_14 : decode cX1_init 14 = .ok (.putfield 15, 3) := by decide +kernel
theorem dX1_init_17 : decode cX1_init 17 = .ok (.return_, 1) := by decide +kernel
theorem dX1_length_0 : decode cX1_length 0 = .ok (.aload_n 0, 1) := by decide +kernel
theorem dX1_length_1 : decode cX1_length 1 = .ok (.getfield 15, 3) := by decide +kernel
theorem dX1_length_4 : decode cX1_length 4 = .ok (.ireturn, 1) := by decide +kernel
theorem dX1_hasIndex_0 : decode cX1_hasIndex 0 = .ok (.iload_n 1, 1) := by decide +kernel
theorem dX1_hasIndex_1 : decode cX1_hasIndex 1 = .ok (.ifCond .lt 21, 3) := by decide +kernel
theorem dX1_hasIndex_4 : decode cX1_hasIndex 4 = .ok (.iload_n 1, 1) := by decide +kernel
theorem dX1_hasIndex_5 : decode cX1_hasIndex 5 = .ok (.aload_n 0, 1) := by decide +kernel
theorem dX1_hasIndex_6 : decode cX1_hasIndex 6 = .ok (.getfield 15, 3) := by decide +kernel
theorem dX1_hasIndex_9 : decode cX1_hasIndex 9 = .ok (.if_icmp .ge 13, 3) := by decide +kernel
theorem dX1_hasIndex_12 : decode cX1_hasIndex 12 = .ok (.iload_n 1, 1) := by decide +kernel
theorem dX1_hasIndex_13 : decode cX1_hasIndex 13 = .ok (.bipush 64, 2) := by decide +kernel
theorem dX1_hasIndex_15 : decode cX1_hasIndex 15 = .ok (.if_icmp .ge 7, 3) := by decide +kernel
theorem dX1_hasIndex_18 : decode cX1_hasIndex 18 = .ok (.iconst 1, 1) := by decide +kernel
theorem dX1_hasIndex_19 : decode cX1_hasIndex 19 = .ok (.goto 4, 3) := by decide +kernel
theorem dX1_hasIndex_22 : decode cX1_hasIndex 22 = .ok (.iconst 0, 1) := by decide +kernel
theorem dX1_hasIndex_23 : decode cX1_hasIndex 23 = .ok (.ireturn, 1) := by decide +kernel
set_option maxRecDepth 20000 in
theorem ggX1_vertexAt_X1_hasIndex : GoodIn wsX1_vertexAt wsX1_hasIndex := goodIn_r _ [6, 7, 8, 9] (by decide +kernel) (by decide +kernel)
set_option maxRecDepth 20000 in
theorem gX1_vertexAt_X1_hasIndex : GoodIn wsX1_vertexAt (wsV RX1 19 RX1 yX1_hasIndex wsX1_hasIndex) := goodIn_app (goodIn_of _ (by decide +kernel)) ggX1_vertexAt_X1_hasIndex
theorem dX1_vertexAt_0 : decode cX1_vertexAt 0 = .ok (.aload_n 0, 1) := by decide +kernel
theorem dX1_vertexAt_1 : decode cX1_vertexAt 1 = .ok (.iload_n 1, 1) := by decide +kernel
theorem dX1_vertexAt_2 : decode cX1_vertexAt 2 = .ok (.invokevirtual 19, 3) := by decide +kernel
theorem dX1_vertexAt_5 : decode cX1_vertexAt 5 = .ok (.ifCond .eq 12, 3) := by decide +kernel
theorem dX1_vertexAt_8 : decode cX1_vertexAt 8 = .ok (.aload_n 0, 1) := by decide +kernel
theorem dX1_vertexAt_9 : decode cX1_vertexAt 9 = .ok (.getfield 9, 3) := by decide +kernel
theorem dX1_vertexAt_12 : decode cX1_vertexAt 12 = .ok (.iload_n 1, 1) := by decide +kernel
theorem dX1_vertexAt_13 : decode cX1_vertexAt 13 = .ok (.iaload, 1) := by decide +kernel
theorem dX1_vertexAt_14 : decode cX1_vertexAt 14 = .ok (.goto 4, 3) := by decide +kernel
theorem dX1_vertexAt_17 : decode cX1_vertexAt 17 = .ok (.iconst (-1), 1) := by decide +kernel
theorem dX1_vertexAt_18 : decode cX1_vertexAt 18 = .ok (.ireturn, 1) := by decide +kernel
set_option maxRecDepth 20000 in
theorem ggX1_trace_X0_meetingPoint : GoodIn wsX1_trace wsX0_meetingPoint := goodIn_r _ [6, 7, 8, 9, 5, 10, 11, 12, 13, 14, 15, 16, 17, 18, 19, 20, 21, 22, 23, 24, 50, 51, 52, 53] (by decide +kernel) (by decide +kernel)
set_option maxRecDepth 20000 in
theorem gX1_trace_X0_meetingPoint : GoodIn wsX1_trace (wsV RX1 23 RX0 yX0_meetingPoint wsX0_meetingPoint) := goodIn_app (goodIn_of _ (by decide +kernel)) ggX1_trace_X0_meetingPoint
set_option maxRecDepth 20000 in
theorem ggX1_trace_X1_appendClimb : GoodIn wsX1_trace wsX1_appendClimb := goodIn_r _ [29, 30, 31, 32, 28, 33, 1, 34, 35, 12, 13, 5, 14, 15, 16, 17, 18, 19, 20, 48, 49, 50, 51, 52, 53] (by decide +kernel) (by decide +kernel)
set_option maxRecDepth 20000 in
theorem gX1_trace_X1_appendClimb : GoodIn wsX1_trace (wsV RX1 29 RX1 yX1_appendClimb wsX1_appendClimb) := goodIn_app (goodIn_of _ (by decide +kernel)) ggX1_trace_X1_appendClimb
set_option maxRecDepth 20000 in
theorem ggX1_trace_X1_append : GoodIn wsX1_trace wsX1_append := goodIn_r _ [33, 1, 34, 48, 49] (by decide +kernel) (by decide +kernel)
set_option maxRecDepth 20000 in
theorem gX1_trace_X1_append : GoodIn wsX1_trace (wsV RX1 33 RX1 yX1_append wsX1_append) := goodIn_app (goodIn_of _ (by decide +kernel)) ggX1_trace_X1_append
set_option maxRecDepth 20000 in
theorem ggX1_trace_X1_reverseFrom : GoodIn wsX1_trace wsX1_reverseFrom := goodIn_r _ [39, 1, 40, 41, 42, 28, 43, 34, 44, 45, 46, 47, 48, 49] (by decide +kernel) (by decide +kernel)
set_option maxRecDepth 20000 in
theorem gX1_trace_X1_reverseFrom : GoodIn wsX1_trace (wsV RX1 37 RX1 yX1_reverseFrom wsX1_reverseFrom) := goodIn_app (goodIn_of _ (by decide +kernel)) ggX1_trace_X1_reverseFrom
theorem dX1_trace_0 : decode cX1_trace 0 = .ok (.aload_n 1, 1) := by decide +kernel
theorem dX1_trace_1 : decode cX1_trace 1 = .ok (.iload_n 2, 1) := by decide +kernel
theorem dX1_trace_2 : decode cX1_trace 2 = .ok (.iload_n 3, 1) := by decide +kernel
theorem dX1_trace_3 : decode cX1_trace 3 = .ok (.invokevirtual 23, 3) := by decide +kernel
theorem dX1_trace_6 : decode cX1_trace 6 = .ok (.istore 4, 2) := by decide +kernel
theorem dX1_trace_8 : decode cX1_trace 8 = .ok (.aload_n 0, 1) := by decide +kernel
theorem dX1_trace_9 : decode cX1_trace 9 = .ok (.iconst 0, 1) := by decide +kernel
theorem dX1_trace_10 : decode cX1_trace 10 = .ok (.putfield 15, 3) := by decide +kernel
theorem dX1_trace_13 : decode cX1_trace 13 = .ok (.aload_n 0, 1) := by decide +kernel
theorem dX1_trace_14 : decode cX1_trace 14 = .ok (.aload_n 1, 1) := by decide +kernel
theorem dX1_trace_15 : decode cX1_trace 15 = .ok (.iload_n 2, 1) := by decide +kernel
theorem dX1_trace_16 : decode cX1_trace 16 = .ok (.iload 4, 2) := by decide +kernel
theorem dX1_trace_18 : decode cX1_trace 18 = .ok (.invokevirtual 29, 3) := by decide +kernel
theorem dX1_trace_21 : decode cX1_trace 21 = .ok (.aload_n 0, 1) := by decide +kernel
theorem dX1_trace_22 : decode cX1_trace 22 = .ok (.iload 4, 2) := by decide +kernel
theorem dX1_trace_24 : decode cX1_trace 24 = .ok (.invokevirtual 33, 3) := by decide +kernel
theorem dX1_trace_27 : decode cX1_trace 27 = .ok (.aload_n 0, 1) := by decide +kernel
theorem dX1_trace_28 : decode cX1_trace 28 = .ok (.getfield 15, 3) := by decide +kernel
theorem dX1_trace_31 : decode cX1_trace 31 = .ok (.istore 5, 2) := by decide +kernel
theorem dX1_trace_33 : decode cX1_trace 33 = .ok (.aload_n 0, 1) := by decide +kernel
theorem dX1_trace_34 : decode cX1_trace 34 = .ok (.aload_n 1, 1) := by decide +kernel
theorem dX1_trace_35 : decode cX1_trace 35 = .ok (.iload_n 3, 1) := by decide +kernel
theorem dX1_trace_36 : decode cX1_trace 36 = .ok (.iload 4, 2) := by decide +kernel
theorem dX1_trace_38 : decode cX1_trace 38 = .ok (.invokevirtual 29, 3) := by decide +kernel
theorem dX1_trace_41 : decode cX1_trace 41 = .ok (.aload_n 0, 1) := by decide +kernel
theorem dX1_trace_42 : decode cX1_trace 42 = .ok (.iload 5, 2) := by decide +kernel
theorem dX1_trace_44 : decode cX1_trace 44 = .ok (.invokevirtual 37, 3) := by decide +kernel
theorem dX1_trace_47 : decode cX1_trace 47 = .ok (.return_, 1) := by decide +kernel
set_option maxRecDepth 20000 in
theorem ggX1_appendClimb_X1_append : GoodIn wsX1_appendClimb wsX1_append := goodIn_r _ [5, 6, 7, 19, 20] (by decide +kernel) (by decide +kernel)
set_option maxRecDepth 20000 in
theorem gX1_appendClimb_X1_append : GoodIn wsX1_appendClimb (wsV RX1 33 RX1 yX1_append wsX1_append) := goodIn_app (goodIn_of _ (by decide +kernel)) ggX1_appendClimb_X1_append
set_option maxRecDepth 20000 in
theorem ggX1_appendClimb_X0_parentOf : GoodIn wsX1_appendClimb wsX0_parentOf := goodIn_r _ [12, 13, 14, 15, 16, 11, 17, 18, 21, 22, 23, 24] (by decide +kernel) (by decide +kernel)
set_option maxRecDepth 20000 in
theorem gX1_appendClimb_X0_parentOf : GoodIn wsX1_appendClimb (wsV RX1 40 RX0 yX0_parentOf wsX0_parentOf) := goodIn_app (goodIn_of _ (by decide +kernel)) ggX1_appendClimb_X0_parentOf
theorem dX1_appendClimb_0 : decode cX1_appendClimb 0 = .ok (.iload_n 2, 1) := by decide +kernel
theorem dX1_appendClimb_1 : decode cX1_appendClimb 1 = .ok (.istore 4, 2) := by decide +kernel
theorem dX1_appendClimb_3 : decode cX1_appendClimb 3 = .ok (.iconst 0, 1) := by decide +kernel
theorem dX1_appendClimb_4 : decode cX1_appendClimb 4 = .ok (.istore 5, 2) := by decide +kernel
theorem dX1_appendClimb_6 : decode cX1_appendClimb 6 = .ok (.iload 5, 2) := by decide +kernel
theorem dX1_appendClimb_8 : decode cX1_appendClimb 8 = .ok (.bipush 64, 2) := by decide +kernel
theorem dX1_appendClimb_10 : decode cX1_appendClimb 10 = .ok (.if_icmp .ge 29, 3) := by decide +kernel
theorem dX1_appendClimb_13 : decode cX1_appendClimb 13 = .ok (.iload 4, 2) := by decide +kernel
theorem dX1_appendClimb_15 : decode cX1_appendClimb 15 = .ok (.iload_n 3, 1) := by decide +kernel
theorem dX1_appendClimb_16 : decode cX1_appendClimb 16 = .ok (.if_icmp .eq 23, 3) := by decide +kernel
theorem dX1_appendClimb_19 : decode cX1_appendClimb 19 = .ok (.aload_n 0, 1) := by decide +kernel
theorem dX1_appendClimb_20 : decode cX1_appendClimb 20 = .ok (.iload 4, 2) := by decide +kernel
theorem dX1_appendClimb_22 : decode cX1_appendClimb 22 = .ok (.invokevirtual 33, 3) := by decide +kernel
theorem dX1_appendClimb_25 : decode cX1_appendClimb 25 = .ok (.aload_n 1, 1) := by decide +kernel
theorem dX1_appendClimb_26 : decode cX1_appendClimb 26 = .ok (.iload 4, 2) := by decide +kernel
theorem dX1_appendClimb_28 : decode cX1_appendClimb 28 = .ok (.invokevirtual 40, 3) := by decide +kernel
theorem dX1_appendClimb_31 : decode cX1_appendClimb 31 = .ok (.istore 4, 2) := by decide +kernel
theorem dX1_appendClimb_33 : decode cX1_appendClimb 33 = .ok (.iinc 5 1, 3) := by decide +kernel
theorem dX1_appendClimb_36 : decode cX1_appendClimb 36 = .ok (.goto (-30), 3) := by decide +kernel
theorem dX1_appendClimb_39 : decode cX1_appendClimb 39 = .ok (.return_, 1) := by decide +kernel
theorem dX1_append_0 : decode cX1_append 0 = .ok (.aload_n 0, 1) := by decide +kernel
theorem dX1_append_1 : decode cX1_append 1 = .ok (.getfield 15, 3) := by decide +kernel
theorem dX1_append_4 : decode cX1_append 4 = .ok (.ifCond .lt 32, 3) := by decide +kernel
theorem dX1_append_7 : decode cX1_append 7 = .ok (.aload_n 0, 1) := by decide +kernel
theorem dX1_append_8 : decode cX1_append 8 = .ok (.getfield 15, 3) := by decide +kernel
theorem dX1_append_11 : decode cX1_append 11 = .ok (.bipush 64, 2) := by decide +kernel
theorem dX1_append_13 : decode cX1_append 13 = .ok (.if_icmp .ge 23, 3) := by decide +kernel
theorem dX1_append_16 : decode cX1_append 16 = .ok (.aload_n 0, 1) := by decide +kernel
theorem dX1_append_17 : decode cX1_append 17 = .ok (.getfield 9, 3) := by decide +kernel
theorem dX1_append_20 : decode cX1_append 20 = .ok (.aload_n 0, 1) := by decide +kernel
theorem dX1_append_21 : decode cX1_append 21 = .ok (.getfield 15, 3) := by decide +kernel
theorem dX1_append_24 : decode cX1_append 24 = .ok (.iload_n 1, 1) := by decide +kernel
theorem dX1_append_25 : decode cX1_append 25 = .ok (.iastore, 1) := by decide +kernel
theorem dX1_append_26 : decode cX1_append 26 = .ok (.aload_n 0, 1) := by decide +kernel
theorem dX1_append_27 : decode cX1_append 27 = .ok (.dup, 1) := by decide +kernel
theorem dX1_append_28 : decode cX1_append 28 = .ok (.getfield 15, 3) := by decide +kernel
theorem dX1_append_31 : decode cX1_append 31 = .ok (.iconst 1, 1) := by decide +kernel
theorem dX1_append_32 : decode cX1_append 32 = .ok (.iadd, 1) := by decide +kernel
theorem dX1_append_33 : decode cX1_append 33 = .ok (.putfield 15, 3) := by decide +kernel
theorem dX1_append_36 : decode cX1_append 36 = .ok (.return_, 1) := by decide +kernel
set_option maxRecDepth 20000 in
theorem ggX1_reverseFrom_X1_swap : GoodIn wsX1_reverseFrom wsX1_swap := goodIn_r _ [6, 7, 8, 9, 10, 5, 11, 1, 12, 13] (by decide +kernel) (by decide +kernel)
set_option maxRecDepth 20000 in
theorem gX1_reverseFrom_X1_swap : GoodIn wsX1_reverseFrom (wsV RX1 44 RX1 yX1_swap wsX1_swap) := goodIn_app (goodIn_of _ (by decide +kernel)) ggX1_reverseFrom_X1_swap
theorem dX1_reverseFrom_0 : decode cX1_reverseFrom 0 = .ok (.iload_n 1, 1) := by decide +kernel
theorem dX1_reverseFrom_1 : decode cX1_reverseFrom 1 = .ok (.istore_n 2, 1) := by decide +kernel
theorem dX1_reverseFrom_2 : decode cX1_reverseFrom 2 = .ok (.aload_n 0, 1) := by decide +kernel
theorem dX1_reverseFrom_3 : decode cX1_reverseFrom 3 = .ok (.getfield 15, 3) := by decide +kernel
theorem dX1_reverseFrom_6 : decode cX1_reverseFrom 6 = .ok (.iconst 1, 1) := by decide +kernel
theorem dX1_reverseFrom_7 : decode cX1_reverseFrom 7 = .ok (.isub, 1) := by decide +kernel
theorem dX1_reverseFrom_8 : decode cX1_reverseFrom 8 = .ok (.istore_n 3, 1) := by decide +kernel
theorem dX1_reverseFrom_9 : decode cX1_reverseFrom 9 = .ok (.iload_n 3, 1) := by decide +kernel
theorem dX1_reverseFrom_10 : decode cX1_reverseFrom 10 = .ok (.iload_n 2, 1) := by decide +kernel
theorem dX1_reverseFrom_11 : decode cX1_reverseFrom 11 = .ok (.if_icmp .le 18, 3) := by decide +kernel
theorem dX1_reverseFrom_14 : decode cX1_reverseFrom 14 = .ok (.aload_n 0, 1) := by decide +kernel
theorem dX1_reverseFrom_15 : decode cX1_reverseFrom 15 = .ok (.iload_n 2, 1) := by decide +kernel
theorem dX1_reverseFrom_16 : decode cX1_reverseFrom 16 = .ok (.iload_n 3, 1) := by decide +kernel
theorem dX1_reverseFrom_17 : decode cX1_reverseFrom 17 = .ok (.invokevirtual 44, 3) := by decide +kernel
theorem dX1_reverseFrom_20 : decode cX1_reverseFrom 20 = .ok (.iinc 2 1, 3) := by decide +kernel
theorem dX1_reverseFrom_23 : decode cX1_reverseFrom 23 = .ok (.iinc 3 (-1), 3) := by decide +kernel
theorem dX1_reverseFrom_26 : decode cX1_reverseFrom 26 = .ok (.goto (-17), 3) := by decide +kernel
theorem dX1_reverseFrom_29 : decode cX1_reverseFrom 29 = .ok (.return_, 1) := by decide +kernel
set_option maxRecDepth 20000 in
theorem ggX1_swap_X1_hasIndex : GoodIn wsX1_swap wsX1_hasIndex := goodIn_r _ [6, 7, 8, 9] (by decide +kernel) (by decide +kernel)
set_option maxRecDepth 20000 in
theorem gX1_swap_X1_hasIndex : GoodIn wsX1_swap (wsV RX1 19 RX1 yX1_hasIndex wsX1_hasIndex) := goodIn_app (goodIn_of _ (by decide +kernel)) ggX1_swap_X1_hasIndex
theorem dX1_swap_0 : decode cX1_swap 0 = .ok (.aload_n 0, 1) := by decide +kernel
theorem dX1_swap_1 : decode cX1_swap 1 = .ok (.iload_n 1, 1) := by decide +kernel
theorem dX1_swap_2 : decode cX1_swap 2 = .ok (.invokevirtual 19, 3) := by decide +kernel
theorem dX1_swap_5 : decode cX1_swap 5 = .ok (.ifCond .eq 37, 3) := by decide +kernel
theorem dX1_swap_8 : decode cX1_swap 8 = .ok (.aload_n 0, 1) := by decide +kernel
theorem dX1_swap_9 : decode cX1_swap 9 = .ok (.iload_n 2, 1) := by decide +kernel
theorem dX1_swap_10 : decode cX1_swap 10 = .ok (.invokevirtual 19, 3) := by decide +kernel
theorem dX1_swap_13 : decode cX1_swap 13 = .ok (.ifCond .eq 29, 3) := by decide +kernel
theorem dX1_swap_16 : decode cX1_swap 16 = .ok (.aload_n 0, 1) := by decide +kernel
theorem dX1_swap_17 : decode cX1_swap 17 = .ok (.getfield 9, 3) := by decide +kernel
theorem dX1_swap_20 : decode cX1_swap 20 = .ok (.iload_n 1, 1) := by decide +kernel
theorem dX1_swap_21 : decode cX1_swap 21 = .ok (.iaload, 1) := by decide +kernel
theorem dX1_swap_22 : decode cX1_swap 22 = .ok (.istore_n 3, 1) := by decide +kernel
theorem dX1_swap_23 : decode cX1_swap 23 = .ok (.aload_n 0, 1) := by decide +kernel
theorem dX1_swap_24 : decode cX1_swap 24 = .ok (.getfield 9, 3) := by decide +kernel
theorem dX1_swap_27 : decode cX1_swap 27 = .ok (.iload_n 1, 1) := by decide +kernel
theorem dX1_swap_28 : decode cX1_swap 28 = .ok (.aload_n 0, 1) := by decide +kernel
theorem dX1_swap_29 : decode cX1_swap 29 = .ok (.getfield 9, 3) := by decide +kernel
theorem dX1_swap_32 : decode cX1_swap 32 = .ok (.iload_n 2, 1) := by decide +kernel
theorem dX1_swap_33 : decode cX1_swap 33 = .ok (.iaload, 1) := by decide +kernel
theorem dX1_swap_34 : decode cX1_swap 34 = .ok (.iastore, 1) := by decide +kernel
theorem dX1_swap_35 : decode cX1_swap 35 = .ok (.aload_n 0, 1) := by decide +kernel
theorem dX1_swap_36 : decode cX1_swap 36 = .ok (.getfield 9, 3) := by decide +kernel
theorem dX1_swap_39 : decode cX1_swap 39 = .ok (.iload_n 2, 1) := by decide +kernel
theorem dX1_swap_40 : decode cX1_swap 40 = .ok (.iload_n 3, 1) := by decide +kernel
theorem dX1_swap_41 : decode cX1_swap 41 = .ok (.iastore, 1) := by decide +kernel
theorem dX1_swap_42 : decode cX1_swap 42 = .ok (.return_, 1) := by decide +kernel
set_option maxRecDepth 20000 in
theorem ggX2_init_X0_init : GoodIn wsX2_init wsX0_init := goodIn_r _ [16, 17, 2, 3, 18, 19, 20, 21, 22, 23, 34, 35, 36, 37] (by decide +kernel) (by decide +kernel)
set_option maxRecDepth 20000 in
theorem gX2_init_X0_init : GoodIn wsX2_init (wsX0_init) := ggX2_init_X0_init
set_option maxRecDepth 20000 in
theorem ggX2_init_X1_init : GoodIn wsX2_init wsX1_init := goodIn_r _ [26, 27, 2, 3, 19, 28, 29, 42, 43] (by decide +kernel) (by decide +kernel)
set_option maxRecDepth 20000 in
theorem gX2_init_X1_init : GoodIn wsX2_init (wsX1_init) := ggX2_init_X1_init
set_option maxRecDepth 20000 in
theorem ggX2_init_X0_startAnew : GoodIn wsX2_init wsX0_startAnew := goodIn_r _ [33, 18, 20, 21, 23, 34, 35, 36, 37] (by decide +kernel) (by decide +kernel)
set_option maxRecDepth 20000 in
theorem gX2_init_X0_startAnew : GoodIn wsX2_init (wsV RX2 29 RX0 yX0_startAnew wsX0_startAnew) := goodIn_app (goodIn_of _ (by decide +kernel)) ggX2_init_X0_startAnew
