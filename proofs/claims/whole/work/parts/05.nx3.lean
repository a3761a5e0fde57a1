theorem dX3_init_0 : decode cX3_init 0 = .ok (.aload_n 0, 1) := by decide +kernel
theorem dX3_init_1 : decode cX3_init 1 = .ok (.invokespecial 1, 3) := by decide +kernel
theorem dX3_init_4 : decode cX3_init 4 = .ok (.aload_n 0, 1) := by decide +kernel
theorem dX3_init_5 : decode cX3_init 5 = .ok (.sipush 193, 3) := by decide +kernel
theorem dX3_init_8 : decode cX3_init 8 = .ok (.newarray .int, 2) := by decide +kernel
theorem dX3_init_10 : decode cX3_init 10 = .ok (.putfield 7, 3) := by decide +kernel
theorem dX3_init_13 : decode cX3_init 13 = .ok (.aload_n 0, 1) := by decide +kernel
theorem dX3_init_14 : decode cX3_init 14 = .ok (.sipush 386, 3) := by decide +kernel
theorem dX3_init_17 : decode cX3_init 17 = .ok (.newarray .int, 2) := by decide +kernel
theorem dX3_init_19 : decode cX3_init 19 = .ok (.putfield 13, 3) := by decide +kernel
theorem dX3_init_22 : decode cX3_init 22 = .ok (.aload_n 0, 1) := by decide +kernel
theorem dX3_init_23 : decode cX3_init 23 = .ok (.iconst 2, 1) := by decide +kernel
theorem dX3_init_24 : decode cX3_init 24 = .ok (.newarray .boolean, 2) := by decide +kernel
theorem dX3_init_26 : decode cX3_init 26 = .ok (.putfield 16, 3) := by decide +kernel
theorem dX3_init_29 : decode cX3_init 29 = .ok (.aload_n 0, 1) := by decide +kernel
theorem dX3_init_30 : decode cX3_init 30 = .ok (.bipush 64, 2) := by decide +kernel
theorem dX3_init_32 : decode cX3_init 32 = .ok (.newarray .int, 2) := by decide +kernel
theorem dX3_init_34 : decode cX3_init 34 = .ok (.putfield 20, 3) := by decide +kernel
theorem dX3_init_37 : decode cX3_init 37 = .ok (.aload_n 0, 1) := by decide +kernel
theorem dX3_init_38 : decode cX3_init 38 = .ok (.bipush 16, 2) := by decide +kernel
theorem dX3_init_40 : decode cX3_init 40 = .ok (.invokevirtual 23, 3) := by decide +kernel
theorem dX3_init_43 : decode cX3_init 43 = .ok (.return_, 1) := by decide +kernel
theorem dX3_in_0 : decode cX3_in 0 = .ok (.iload_n 0, 1) := by decide +kernel
theorem dX3_in_1 : decode cX3_in 1 = .ok (.iload_n 1, 1) := by decide +kernel
theorem dX3_in_2 : decode cX3_in 2 = .ok (.if_icmp .lt 12, 3) := by decide +kernel
theorem dX3_in_5 : decode cX3_in 5 = .ok (.iload_n 0, 1) := by decide +kernel
theorem dX3_in_6 : decode cX3_in 6 = .ok (.iload_n 2, 1) := by decide +kernel
theorem dX3_in_7 : decode cX3_in 7 = .ok (.if_icmp .gt 7, 3) := by decide +kernel
theorem dX3_in_10 : decode cX3_in 10 = .ok (.iconst 1, 1) := by decide +kernel
theorem dX3_in_11 : decode cX3_in 11 = .ok (.goto 4, 3) := by decide +kernel
theorem dX3_in_14 : decode cX3_in 14 = .ok (.iconst 0, 1) := by decide +kernel
theorem dX3_in_15 : decode cX3_in 15 = .ok (.ireturn, 1) := by decide +kernel
theorem dX3_begin_0 : decode cX3_begin 0 = .ok (.aload_n 0, 1) := by decide +kernel
theorem dX3_begin_1 : decode cX3_begin 1 = .ok (.getfield 7, 3) := by decide +kernel
theorem dX3_begin_4 : decode cX3_begin 4 = .ok (.iconst 0, 1) := by decide +kernel
theorem dX3_begin_5 : decode cX3_begin 5 = .ok (.iload_n 1, 1) := by decide +kernel
theorem dX3_begin_6 : decode cX3_begin 6 = .ok (.iastore, 1) := by decide +kernel
theorem dX3_begin_7 : decode cX3_begin 7 = .ok (.iconst 0, 1) := by decide +kernel
theorem dX3_begin_8 : decode cX3_begin 8 = .ok (.istore_n 2, 1) := by decide +kernel
theorem dX3_begin_9 : decode cX3_begin 9 = .ok (.iload_n 2, 1) := by decide +kernel
theorem dX3_begin_10 : decode cX3_begin 10 = .ok (.bipush 64, 2) := by decide +kernel
theorem dX3_begin_12 : decode cX3_begin 12 = .ok (.if_icmp .ge 39, 3) := by decide +kernel
theorem dX3_begin_15 : decode cX3_begin 15 = .ok (.aload_n 0, 1) := by decide +kernel
theorem dX3_begin_16 : decode cX3_begin 16 = .ok (.getfield 7, 3) := by decide +kernel
theorem dX3_begin_19 : decode cX3_begin 19 = .ok (.iconst 1, 1) := by decide +kernel
theorem dX3_begin_20 : decode cX3_begin 20 = .ok (.iload_n 2, 1) := by decide +kernel
theorem dX3_begin_21 : decode cX3_begin 21 = .ok (.iadd, 1) := by decide +kernel
theorem dX3_begin_22 : decode cX3_begin 22 = .ok (.iload_n 2, 1) := by decide +kernel
theorem dX3_begin_23 : decode cX3_begin 23 = .ok (.iastore, 1) := by decide +kernel
theorem dX3_begin_24 : decode cX3_begin 24 = .ok (.aload_n 0, 1) := by decide +kernel
theorem dX3_begin_25 : decode cX3_begin 25 = .ok (.getfield 7, 3) := by decide +kernel
theorem dX3_begin_28 : decode cX3_begin 28 = .ok (.bipush 65, 2) := by decide +kernel
theorem dX3_begin_30 : decode cX3_begin 30 = .ok (.iload_n 2, 1) := by decide +kernel
theorem dX3_begin_31 : decode cX3_begin 31 = .ok (.iadd, 1) := by decide +kernel
theorem dX3_begin_32 : decode cX3_begin 32 = .ok (.iconst 0, 1) := by decide +kernel
theorem dX3_begin_33 : decode cX3_begin 33 = .ok (.iastore, 1) := by decide +kernel
theorem dX3_begin_34 : decode cX3_begin 34 = .ok (.aload_n 0, 1) := by decide +kernel
theorem dX3_begin_35 : decode cX3_begin 35 = .ok (.getfield 7, 3) := by decide +kernel
theorem dX3_begin_38 : decode cX3_begin 38 = .ok (.sipush 129, 3) := by decide +kernel
theorem dX3_begin_41 : decode cX3_begin 41 = .ok (.iload_n 2, 1) := by decide +kernel
theorem dX3_begin_42 : decode cX3_begin 42 = .ok (.iadd, 1) := by decide +kernel
theorem dX3_begin_43 : decode cX3_begin 43 = .ok (.iconst 0, 1) := by decide +kernel
theorem dX3_begin_44 : decode cX3_begin 44 = .ok (.iastore, 1) := by decide +kernel
theorem dX3_begin_45 : decode cX3_begin 45 = .ok (.iinc 2 1, 3) := by decide +kernel
theorem dX3_begin_48 : decode cX3_begin 48 = .ok (.goto (-39), 3) := by decide +kernel
theorem dX3_begin_51 : decode cX3_begin 51 = .ok (.return_, 1) := by decide +kernel
theorem dX3_many_0 : decode cX3_many 0 = .ok (.aload_n 0, 1) := by decide +kernel
theorem dX3_many_1 : decode cX3_many 1 = .ok (.getfield 7, 3) := by decide +kernel
theorem dX3_many_4 : decode cX3_many 4 = .ok (.iconst 0, 1) := by decide +kernel
theorem dX3_many_5 : decode cX3_many 5 = .ok (.iaload, 1) := by decide +kernel
theorem dX3_many_6 : decode cX3_many 6 = .ok (.ireturn, 1) := by decide +kernel
set_option maxRecDepth 20000 in
theorem ggX3_isVertex_X3_many : GoodIn wsX3_isVertex wsX3_many := goodIn_r _ [5, 6, 10, 11, 12, 13, 14] (by decide +kernel) (by decide +kernel)
set_option maxRecDepth 20000 in
theorem gX3_isVertex_X3_many : GoodIn wsX3_isVertex (wsV RX3 27 RX3 yX3_many wsX3_many) := goodIn_app (goodIn_of _ (by decide +kernel)) ggX3_isVertex_X3_many
set_option maxRecDepth 20000 in
theorem ggX3_isVertex_X3_in : GoodIn wsX3_isVertex wsX3_in := goodIn_r _ [9] (by decide +kernel) (by decide +kernel)
set_option maxRecDepth 20000 in
theorem gX3_isVertex_X3_in : GoodIn wsX3_isVertex (va_wsS RX3 31 yX3_in wsX3_in) := goodIn_app (goodIn_of _ (by decide +kernel)) ggX3_isVertex_X3_in
theorem dX3_isVertex_0 : decode cX3_isVertex 0 = .ok (.iload_n 1, 1) := by decide +kernel
theorem dX3_isVertex_1 : decode cX3_isVertex 1 = .ok (.iconst 0, 1) := by decide +kernel
theorem dX3_isVertex_2 : decode cX3_isVertex 2 = .ok (.aload_n 0, 1) := by decide +kernel
theorem dX3_isVertex_3 : decode cX3_isVertex 3 = .ok (.invokevirtual 27, 3) := by decide +kernel
theorem dX3_isVertex_6 : decode cX3_isVertex 6 = .ok (.iconst 1, 1) := by decide +kernel
theorem dX3_isVertex_7 : decode cX3_isVertex 7 = .ok (.isub, 1) := by decide +kernel
theorem dX3_isVertex_8 : decode cX3_isVertex 8 = .ok (.invokestatic 31, 3) := by decide +kernel
theorem dX3_isVertex_11 : decode cX3_isVertex 11 = .ok (.ireturn, 1) := by decide +kernel
theorem dX3_above_0 : decode cX3_above 0 = .ok (.aload_n 0, 1) := by decide +kernel
theorem dX3_above_1 : decode cX3_above 1 = .ok (.getfield 7, 3) := by decide +kernel
theorem dX3_above_4 : decode cX3_above 4 = .ok (.iconst 1, 1) := by decide +kernel
theorem dX3_above_5 : decode cX3_above 5 = .ok (.iload_n 1, 1) := by decide +kernel
theorem dX3_above_6 : decode cX3_above 6 = .ok (.iadd, 1) := by decide +kernel
theorem dX3_above_7 : decode cX3_above 7 = .ok (.iaload, 1) := by decide +kernel
theorem dX3_above_8 : decode cX3_above 8 = .ok (.ireturn, 1) := by decide +kernel
set_option maxRecDepth 20000 in
theorem ggX3_isRoot_X3_above : GoodIn wsX3_isRoot wsX3_above := goodIn_r _ [5, 6, 7, 8, 9, 10, 11] (by decide +kernel) (by decide +kernel)
set_option maxRecDepth 20000 in
theorem gX3_isRoot_X3_above : GoodIn wsX3_isRoot (wsV RX3 35 RX3 yX3_above wsX3_above) := goodIn_app (goodIn_of _ (by decide +kernel)) ggX3_isRoot_X3_above
theorem dX3_isRoot_0 : decode cX3_isRoot 0 = .ok (.aload_n 0, 1) := by decide +kernel
theorem dX3_isRoot_1 : decode cX3_isRoot 1 = .ok (.iload_n 1, 1) := by decide +kernel
theorem dX3_isRoot_2 : decode cX3_isRoot 2 = .ok (.invokevirtual 35, 3) := by decide +kernel
theorem dX3_isRoot_5 : decode cX3_isRoot 5 = .ok (.iload_n 1, 1) := by decide +kernel
theorem dX3_isRoot_6 : decode cX3_isRoot 6 = .ok (.if_icmp .ne 7, 3) := by decide +kernel
theorem dX3_isRoot_9 : decode cX3_isRoot 9 = .ok (.iconst 1, 1) := by decide +kernel
theorem dX3_isRoot_10 : decode cX3_isRoot 10 = .ok (.goto 4, 3) := by decide +kernel
theorem dX3_isRoot_13 : decode cX3_isRoot 13 = .ok (.iconst 0, 1) := by decide +kernel
theorem dX3_isRoot_14 : decode cX3_isRoot 14 = .ok (.ireturn, 1) := by decide +kernel
theorem dX3_valueOf_0 : decode cX3_valueOf 0 = .ok (.aload_n 0, 1) := by decide +kernel
theorem dX3_valueOf_1 : decode cX3_valueOf 1 = .ok (.getfield 7, 3) := by decide +kernel
theorem dX3_valueOf_4 : decode cX3_valueOf 4 = .ok (.bipush 65, 2) := by decide +kernel
theorem dX3_valueOf_6 : decode cX3_valueOf 6 = .ok (.iload_n 1, 1) := by decide +kernel
theorem dX3_valueOf_7 : decode cX3_valueOf 7 = .ok (.iadd, 1) := by decide +kernel
theorem dX3_valueOf_8 : decode cX3_valueOf 8 = .ok (.iaload, 1) := by decide +kernel
theorem dX3_valueOf_9 : decode cX3_valueOf 9 = .ok (.ireturn, 1) := by decide +kernel
set_option maxRecDepth 20000 in
theorem ggX3_rootOf_X3_isRoot : GoodIn wsX3_rootOf wsX3_isRoot := goodIn_r _ [5, 6, 7, 8, 4, 9, 10, 11, 12, 13, 14, 15] (by decide +kernel) (by decide +kernel)
set_option maxRecDepth 20000 in
theorem gX3_rootOf_X3_isRoot : GoodIn wsX3_rootOf (wsV RX3 39 RX3 yX3_isRoot wsX3_isRoot) := goodIn_app (goodIn_of _ (by decide +kernel)) ggX3_rootOf_X3_isRoot
set_option maxRecDepth 20000 in
theorem ggX3_rootOf_X3_above : GoodIn wsX3_rootOf wsX3_above := goodIn_r _ [9, 10, 11, 12, 13, 14, 15] (by decide +kernel) (by decide +kernel)
set_option maxRecDepth 20000 in
theorem gX3_rootOf_X3_above : GoodIn wsX3_rootOf (wsV RX3 35 RX3 yX3_above wsX3_above) := goodIn_app (goodIn_of _ (by decide +kernel)) ggX3_rootOf_X3_above
theorem dX3_rootOf_0 : decode cX3_rootOf 0 = .ok (.iload_n 1, 1) := by decide +kernel
theorem dX3_rootOf_1 : decode cX3_rootOf 1 = .ok (.istore_n 2, 1) := by decide +kernel
theorem dX3_rootOf_2 : decode cX3_rootOf 2 = .ok (.aload_n 0, 1) := by decide +kernel
theorem dX3_rootOf_3 : decode cX3_rootOf 3 = .ok (.iload_n 2, 1) := by decide +kernel
theorem dX3_rootOf_4 : decode cX3_rootOf 4 = .ok (.invokevirtual 39, 3) := by decide +kernel
theorem dX3_rootOf_7 : decode cX3_rootOf 7 = .ok (.ifCond .ne 12, 3) := by decide +kernel
theorem dX3_rootOf_10 : decode cX3_rootOf 10 = .ok (.aload_n 0, 1) := by decide +kernel
theorem dX3_rootOf_11 : decode cX3_rootOf 11 = .ok (.iload_n 2, 1) := by decide +kernel
theorem dX3_rootOf_12 : decode cX3_rootOf 12 = .ok (.invokevirtual 35, 3) := by decide +kernel
theorem dX3_rootOf_15 : decode cX3_rootOf 15 = .ok (.istore_n 2, 1) := by decide +kernel
theorem dX3_rootOf_16 : decode cX3_rootOf 16 = .ok (.goto (-14), 3) := by decide +kernel
theorem dX3_rootOf_19 : decode cX3_rootOf 19 = .ok (.iload_n 2, 1) := by decide +kernel
theorem dX3_rootOf_20 : decode cX3_rootOf 20 = .ok (.ireturn, 1) := by decide +kernel
set_option maxRecDepth 20000 in
theorem ggX3_depthOf_X3_isRoot : GoodIn wsX3_depthOf wsX3_isRoot := goodIn_r _ [5, 6, 7, 8, 4, 9, 10, 11, 12, 13, 14, 15] (by decide +kernel) (by decide +kernel)
set_option maxRecDepth 20000 in
theorem gX3_depthOf_X3_isRoot : GoodIn wsX3_depthOf (wsV RX3 39 RX3 yX3_isRoot wsX3_isRoot) := goodIn_app (goodIn_of _ (by decide +kernel)) ggX3_depthOf_X3_isRoot
set_option maxRecDepth 20000 in
theorem ggX3_depthOf_X3_above : GoodIn wsX3_depthOf wsX3_above := goodIn_r _ [9, 10, 11, 12, 13, 14, 15] (by decide +kernel) (by decide +kernel)
set_option maxRecDepth 20000 in
theorem gX3_depthOf_X3_above : GoodIn wsX3_depthOf (wsV RX3 35 RX3 yX3_above wsX3_above) := goodIn_app (goodIn_of _ (by decide +kernel)) ggX3_depthOf_X3_above
theorem dX3_depthOf_0 : decode cX3_depthOf 0 = .ok (.iconst 0, 1) := by decide +kernel
theorem dX3_depthOf_1 : decode cX3_depthOf 1 = .ok (.istore_n 2, 1) := by decide +kernel
theorem dX3_depthOf_2 : decode cX3_depthOf 2 = .ok (.iload_n 1, 1) := by decide +kernel
theorem dX3_depthOf_3 : decode cX3_depthOf 3 = .ok (.istore_n 3, 1) := by decide +kernel
theorem dX3_depthOf_4 : decode cX3_depthOf 4 = .ok (.aload_n 0, 1) := by decide +kernel
theorem dX3_depthOf_5 : decode cX3_depthOf 5 = .ok (.iload_n 3, 1) := by decide +kernel
theorem dX3_depthOf_6 : decode cX3_depthOf 6 = .ok (.invokevirtual 39, 3) := by decide +kernel
theorem dX3_depthOf_9 : decode cX3_depthOf 9 = .ok (.ifCond .ne 15, 3) := by decide +kernel
theorem dX3_depthOf_12 : decode cX3_depthOf 12 = .ok (.iinc 2 1, 3) := by decide +kernel
theorem dX3_depthOf_15 : decode cX3_depthOf 15 = .ok (.aload_n 0, 1) := by decide +kernel
theorem dX3_depthOf_16 : decode cX3_depthOf 16 = .ok (.iload_n 3, 1) := by decide +kernel
theorem dX3_depthOf_17 : decode cX3_depthOf 17 = .ok (.invokevirtual 35, 3) := by decide +kernel
theorem dX3_depthOf_20 : decode cX3_depthOf 20 = .ok (.istore_n 3, 1) := by decide +kernel
theorem dX3_depthOf_21 : decode cX3_depthOf 21 = .ok (.goto (-17), 3) := by decide +kernel
theorem dX3_depthOf_24 : decode cX3_depthOf 24 = .ok (.iload_n 2, 1) := by decide +kernel
theorem dX3_depthOf_25 : decode cX3_depthOf 25 = .ok (.ireturn, 1) := by decide +kernel
set_option maxRecDepth 20000 in
theorem ggX3_reset_X3_in : GoodIn wsX3_reset wsX3_in := goodIn_r _ [5] (by decide +kernel) (by decide +kernel)
set_option maxRecDepth 20000 in
theorem gX3_reset_X3_in : GoodIn wsX3_reset (va_wsS RX3 31 yX3_in wsX3_in) := goodIn_app (goodIn_of _ (by decide +kernel)) ggX3_reset_X3_in
set_option maxRecDepth 20000 in
theorem ggX3_reset_X3_many : GoodIn wsX3_reset wsX3_many := goodIn_r _ [9, 10, 15, 16, 17, 18, 19] (by decide +kernel) (by decide +kernel)
set_option maxRecDepth 20000 in
theorem gX3_reset_X3_many : GoodIn wsX3_reset (wsV RX3 27 RX3 yX3_many wsX3_many) := goodIn_app (goodIn_of _ (by decide +kernel)) ggX3_reset_X3_many
set_option maxRecDepth 20000 in
theorem ggX3_reset_X3_begin : GoodIn wsX3_reset wsX3_begin := goodIn_r _ [14, 10, 15, 16, 17, 18, 19] (by decide +kernel) (by decide +kernel)
set_option maxRecDepth 20000 in
theorem gX3_reset_X3_begin : GoodIn wsX3_reset (wsV RX3 23 RX3 yX3_begin wsX3_begin) := goodIn_app (goodIn_of _ (by decide +kernel)) ggX3_reset_X3_begin
theorem dX3_reset_0 : decode cX3_reset 0 = .ok (.iload_n 1, 1) := by decide +kernel
theorem dX3_reset_1 : decode cX3_reset 1 = .ok (.iconst 1, 1) := by decide +kernel
theorem dX3_reset_2 : decode cX3_reset 2 = .ok (.bipush 64, 2) := by decide +kernel
theorem dX3_reset_4 : decode cX3_reset 4 = .ok (.invokestatic 31, 3) := by decide +kernel
theorem dX3_reset_7 : decode cX3_reset 7 = .ok (.ifCond .ne 6, 3) := by decide +kernel
theorem dX3_reset_10 : decode cX3_reset 10 = .ok (.ldc 43, 2) := by decide +kernel
theorem dX3_reset_12 : decode cX3_reset 12 = .ok (.ireturn, 1) := by decide +kernel
theorem dX3_reset_13 : decode cX3_reset 13 = .ok (.aload_n 0, 1) := by decide +kernel
theorem dX3_reset_14 : decode cX3_reset 14 = .ok (.invokevirtual 27, 3) := by decide +kernel
theorem dX3_reset_17 : decode cX3_reset 17 = .ok (.istore_n 2, 1) := by decide +kernel
theorem dX3_reset_18 : decode cX3_reset 18 = .ok (.aload_n 0, 1) := by decide +kernel
theorem dX3_reset_19 : decode cX3_reset 19 = .ok (.iload_n 1, 1) := by decide +kernel
theorem dX3_reset_20 : decode cX3_reset 20 = .ok (.invokevirtual 23, 3) := by decide +kernel
theorem dX3_reset_23 : decode cX3_reset 23 = .ok (.iload_n 2, 1) := by decide +kernel
theorem dX3_reset_24 : decode cX3_reset 24 = .ok (.ireturn, 1) := by decide +kernel
set_option maxRecDepth 20000 in
theorem ggX3_link_X3_isVertex : GoodIn wsX3_link wsX3_isVertex := goodIn_r _ [9, 10, 11, 12, 8, 13, 4, 14, 15, 16, 29, 30, 31, 32, 33] (by decide +kernel) (by decide +kernel)
set_option maxRecDepth 20000 in
theorem gX3_link_X3_isVertex : GoodIn wsX3_link (wsV RX3 44 RX3 yX3_isVertex wsX3_isVertex) := goodIn_app (goodIn_of _ (by decide +kernel)) ggX3_link_X3_isVertex
set_option maxRecDepth 20000 in
theorem ggX3_link_X3_isRoot : GoodIn wsX3_link wsX3_isRoot := goodIn_r _ [20, 21, 22, 23, 8, 24, 4, 29, 30, 31, 32, 33] (by decide +kernel) (by decide +kernel)
set_option maxRecDepth 20000 in
theorem gX3_link_X3_isRoot : GoodIn wsX3_link (wsV RX3 39 RX3 yX3_isRoot wsX3_isRoot) := goodIn_app (goodIn_of _ (by decide +kernel)) ggX3_link_X3_isRoot
set_option maxRecDepth 20000 in
theorem ggX3_link_X3_rootOf : GoodIn wsX3_link wsX3_rootOf := goodIn_r _ [28, 17, 18, 19, 8, 20, 21, 22, 23, 24, 4, 29, 30, 31, 32, 33] (by decide +kernel) (by decide +kernel)
set_option maxRecDepth 20000 in
theorem gX3_link_X3_rootOf : GoodIn wsX3_link (wsV RX3 49 RX3 yX3_rootOf wsX3_rootOf) := goodIn_app (goodIn_of _ (by decide +kernel)) ggX3_link_X3_rootOf
set_option maxRecDepth 20000 in
theorem ggX3_link_X3_many : GoodIn wsX3_link wsX3_many := goodIn_r _ [13, 4, 29, 30, 31, 32, 33] (by decide +kernel) (by decide +kernel)
set_option maxRecDepth 20000 in
theorem gX3_link_X3_many : GoodIn wsX3_link (wsV RX3 27 RX3 yX3_many wsX3_many) := goodIn_app (goodIn_of _ (by decide +kernel)) ggX3_link_X3_many
theorem dX3_link_0 : decode cX3_link 0 = .ok (.aload_n 0, 1) := by decide +kernel
theorem dX3_link_1 : decode cX3_link 1 = .ok (.iload_n 1, 1) := by decide +kernel
theorem dX3_link_2 : decode cX3_link 2 = .ok (.invokevirtual 44, 3) := by decide +kernel
theorem dX3_link_5 : decode cX3_link 5 = .ok (.ifCond .eq 11, 3) := by decide +kernel
theorem dX3_link_8 : decode cX3_link 8 = .ok (.aload_n 0, 1) := by decide +kernel
theorem dX3_link_9 : decode cX3_link 9 = .ok (.iload_n 2, 1) := by decide +kernel
theorem dX3_link_10 : decode cX3_link 10 = .ok (.invokevirtual 44, 3) := by decide +kernel
theorem dX3_link_13 : decode cX3_link 13 = .ok (.ifCond .ne 6, 3) := by decide +kernel
theorem dX3_link_16 : decode cX3_link 16 = .ok (.ldc 47, 2) := by decide +kernel
theorem dX3_link_18 : decode cX3_link 18 = .ok (.ireturn, 1) := by decide +kernel
theorem dX3_link_19 : decode cX3_link 19 = .ok (.aload_n 0, 1) := by decide +kernel
theorem dX3_link_20 : decode cX3_link 20 = .ok (.iload_n 1, 1) := by decide +kernel
theorem dX3_link_21 : decode cX3_link 21 = .ok (.invokevirtual 39, 3) := by decide +kernel
theorem dX3_link_24 : decode cX3_link 24 = .ok (.ifCond .ne 6, 3) := by decide +kernel
theorem dX3_link_27 : decode cX3_link 27 = .ok (.ldc 48, 2) := by decide +kernel
theorem dX3_link_29 : decode cX3_link 29 = .ok (.ireturn, 1) := by decide +kernel
theorem dX3_link_30 : decode cX3_link 30 = .ok (.aload_n 0, 1) := by decide +kernel
theorem dX3_link_31 : decode cX3_link 31 = .ok (.iload_n 2, 1) := by decide +kernel
theorem dX3_link_32 : decode cX3_link 32 = .ok (.invokevirtual 49, 3) := by decide +kernel
theorem dX3_link_35 : decode cX3_link 35 = .ok (.iload_n 1, 1) := by decide +kernel
theorem dX3_link_36 : decode cX3_link 36 = .ok (.if_icmp .ne 6, 3) := by decide +kernel
theorem dX3_link_39 : decode cX3_link 39 = .ok (.ldc 52, 2) := by decide +kernel
theorem dX3_link_41 : decode cX3_link 41 = .ok (.ireturn, 1) := by decide +kernel
theorem dX3_link_42 : decode cX3_link 42 = .ok (.aload_n 0, 1) := by decide +kernel
theorem dX3_link_43 : decode cX3_link 43 = .ok (.getfield 7, 3) := by decide +kernel
theorem dX3_link_46 : decode cX3_link 46 = .ok (.iconst 1, 1) := by decide +kernel
theorem dX3_link_47 : decode cX3_link 47 = .ok (.iload_n 1, 1) := by decide +kernel
theorem dX3_link_48 : decode cX3_link 48 = .ok (.iadd, 1) := by decide +kernel
theorem dX3_link_49 : decode cX3_link 49 = .ok (.iload_n 2, 1) := by decide +kernel
theorem dX3_link_50 : decode cX3_link 50 = .ok (.iastore, 1) := by decide +kernel
theorem dX3_link_51 : decode cX3_link 51 = .ok (.aload_n 0, 1) := by decide +kernel
theorem dX3_link_52 : decode cX3_link 52 = .ok (.iload_n 2, 1) := by decide +kernel
theorem dX3_link_53 : decode cX3_link 53 = .ok (.invokevirtual 49, 3) := by decide +kernel
theorem dX3_link_56 : decode cX3_link 56 = .ok (.istore_n 3, 1) := by decide +kernel
theorem dX3_link_57 : decode cX3_link 57 = .ok (.iconst 0, 1) := by decide +kernel
theorem dX3_link_58 : decode cX3_link 58 = .ok (.istore 4, 2) := by decide +kernel
theorem dX3_link_60 : decode cX3_link 60 = .ok (.iconst 0, 1) := by decide +kernel
theorem dX3_link_61 : decode cX3_link 61 = .ok (.istore 5, 2) := by decide +kernel
theorem dX3_link_63 : decode cX3_link 63 = .ok (.iload 5, 2) := by decide +kernel
theorem dX3_link_65 : decode cX3_link 65 = .ok (.aload_n 0, 1) := by decide +kernel
theorem dX3_link_66 : decode cX3_link 66 = .ok (.invokevirtual 27, 3) := by decide +kernel
theorem dX3_link_69 : decode cX3_link 69 = .ok (.if_icmp .ge 29, 3) := by decide +kernel
theorem dX3_link_72 : decode cX3_link 72 = .ok (.iload 4, 2) := by decide +kernel
theorem dX3_link_74 : decode cX3_link 74 = .ok (.aload_n 0, 1) := by decide +kernel
theorem dX3_link_75 : decode cX3_link 75 = .ok (.iload 5, 2) := by decide +kernel
theorem dX3_link_77 : decode cX3_link 77 = .ok (.invokevirtual 49, 3) := by decide +kernel
theorem dX3_link_80 : decode cX3_link 80 = .ok (.iload_n 3, 1) := by decide +kernel
theorem dX3_link_81 : decode cX3_link 81 = .ok (.if_icmp .ne 7, 3) := by decide +kernel
theorem dX3_link_84 : decode cX3_link 84 = .ok (.iconst 1, 1) := by decide +kernel
theorem dX3_link_85 : decode cX3_link 85 = .ok (.goto 4, 3) := by decide +kernel
theorem dX3_link_88 : decode cX3_link 88 = .ok (.iconst 0, 1) := by decide +kernel
theorem dX3_link_89 : decode cX3_link 89 = .ok (.iadd, 1) := by decide +kernel
theorem dX3_link_90 : decode cX3_link 90 = .ok (.istore 4, 2) := by decide +kernel
theorem dX3_link_92 : decode cX3_link 92 = .ok (.iinc 5 1, 3) := by decide +kernel
theorem dX3_link_95 : decode cX3_link 95 = .ok (.goto (-32), 3) := by decide +kernel
theorem dX3_link_98 : decode cX3_link 98 = .ok (.iload 4, 2) := by decide +kernel
theorem dX3_link_100 : decode cX3_link 100 = .ok (.ireturn, 1) := by decide +kernel
set_option maxRecDepth 20000 in
theorem ggX3_cut_X3_isVertex : GoodIn wsX3_cut wsX3_isVertex := goodIn_r _ [8, 9, 10, 11, 7, 12, 3, 13, 14, 15, 24, 25, 26, 27, 28] (by decide +kernel) (by decide +kernel)
set_option maxRecDepth 20000 in
theorem gX3_cut_X3_isVertex : GoodIn wsX3_cut (wsV RX3 44 RX3 yX3_isVertex wsX3_isVertex) := goodIn_app (goodIn_of _ (by decide +kernel)) ggX3_cut_X3_isVertex
set_option maxRecDepth 20000 in
theorem ggX3_cut_X3_isRoot : GoodIn wsX3_cut wsX3_isRoot := goodIn_r _ [19, 20, 21, 22, 7, 23, 3, 24, 25, 26, 27, 28] (by decide +kernel) (by decide +kernel)
set_option maxRecDepth 20000 in
theorem gX3_cut_X3_isRoot : GoodIn wsX3_cut (wsV RX3 39 RX3 yX3_isRoot wsX3_isRoot) := goodIn_app (goodIn_of _ (by decide +kernel)) ggX3_cut_X3_isRoot
set_option maxRecDepth 20000 in
theorem ggX3_cut_X3_above : GoodIn wsX3_cut wsX3_above := goodIn_r _ [23, 3, 24, 25, 26, 27, 28] (by decide +kernel) (by decide +kernel)
set_option maxRecDepth 20000 in
theorem gX3_cut_X3_above : GoodIn wsX3_cut (wsV RX3 35 RX3 yX3_above wsX3_above) := goodIn_app (goodIn_of _ (by decide +kernel)) ggX3_cut_X3_above
theorem dX3_cut_0 : decode cX3_cut 0 = .ok (.aload_n 0, 1) := by decide +kernel
theorem dX3_cut_1 : decode cX3_cut 1 = .ok (.iload_n 1, 1) := by decide +kernel
theorem dX3_cut_2 : decode cX3_cut 2 = .ok (.invokevirtual 44, 3) := by decide +kernel
theorem dX3_cut_5 : decode cX3_cut 5 = .ok (.ifCond .ne 6, 3) := by decide +kernel
theorem dX3_cut_8 : decode cX3_cut 8 = .ok (.ldc 47, 2) := by decide +kernel
theorem dX3_cut_10 : decode cX3_cut 10 = .ok (.ireturn, 1) := by decide +kernel
theorem dX3_cut_11 : decode cX3_cut 11 = .ok (.aload_n 0, 1) := by decide +kernel
theorem dX3_cut_12 : decode cX3_cut 12 = .ok (.iload_n 1, 1) := by decide +kernel
theorem dX3_cut_13 : decode cX3_cut 13 = .ok (.invokevirtual 39, 3) := by decide +kernel
theorem dX3_cut_16 : decode cX3_cut 16 = .ok (.ifCond .eq 6, 3) := by decide +kernel
theorem dX3_cut_19 : decode cX3_cut 19 = .ok (.ldc 53, 2) := by decide +kernel
theorem dX3_cut_21 : decode cX3_cut 21 = .ok (.ireturn, 1) := by decide +kernel
theorem dX3_cut_22 : decode cX3_cut 22 = .ok (.aload_n 0, 1) := by decide +kernel
theorem dX3_cut_23 : decode cX3_cut 23 = .ok (.iload_n 1, 1) := by decide +kernel
theorem dX3_cut_24 : decode cX3_cut 24 = .ok (.invokevirtual 35, 3) := by decide +kernel
theorem dX3_cut_27 : decode cX3_cut 27 = .ok (.istore_n 2, 1) := by decide +kernel
theorem dX3_cut_28 : decode cX3_cut 28 = .ok (.aload_n 0, 1) := by decide +kernel
theorem dX3_cut_29 : decode cX3_cut 29 = .ok (.getfield 7, 3) := by decide +kernel
theorem dX3_cut_32 : decode cX3_cut 32 = .ok (.iconst 1, 1) := by decide +kernel
theorem dX3_cut_33 : decode cX3_cut 33 = .ok (.iload_n 1, 1) := by decide +kernel
theorem dX3_cut_34 : decode cX3_cut 34 = .ok (.iadd, 1) := by decide +kernel
theorem dX3_cut_35 : decode cX3_cut 35 = .ok (.iload_n 1, 1) := by decide +kernel
theorem dX3_cut_36 : decode cX3_cut 36 = .ok (.iastore, 1) := by decide +kernel
theorem dX3_cut_37 : decode cX3_cut 37 = .ok (.iload_n 2, 1) := by decide +kernel
theorem dX3_cut_38 : decode cX3_cut 38 = .ok (.ireturn, 1) := by decide +kernel
set_option maxRecDepth 20000 in
theorem ggX3_reroot_X3_isVertex : GoodIn wsX3_reroot wsX3_isVertex := goodIn_r _ [7, 8, 9, 10, 6, 11, 2, 12, 13, 14, 27, 28, 29, 30, 31] (by decide +kernel) (by decide +kernel)
set_option maxRecDepth 20000 in
theorem gX3_reroot_X3_isVertex : GoodIn wsX3_reroot (wsV RX3 44 RX3 yX3_isVertex wsX3_isVertex) := goodIn_app (goodIn_of _ (by decide +kernel)) ggX3_reroot_X3_isVertex
set_option maxRecDepth 20000 in
theorem ggX3_reroot_X3_rootOf : GoodIn wsX3_reroot wsX3_rootOf := goodIn_r _ [18, 19, 20, 21, 6, 22, 23, 24, 25, 26, 2, 27, 28, 29, 30, 31] (by decide +kernel) (by decide +kernel)
set_option maxRecDepth 20000 in
theorem gX3_reroot_X3_rootOf : GoodIn wsX3_reroot (wsV RX3 49 RX3 yX3_rootOf wsX3_rootOf) := goodIn_app (goodIn_of _ (by decide +kernel)) ggX3_reroot_X3_rootOf
set_option maxRecDepth 20000 in
theorem ggX3_reroot_X3_above : GoodIn wsX3_reroot wsX3_above := goodIn_r _ [26, 2, 27, 28, 29, 30, 31] (by decide +kernel) (by decide +kernel)
set_option maxRecDepth 20000 in
theorem gX3_reroot_X3_above : GoodIn wsX3_reroot (wsV RX3 35 RX3 yX3_above wsX3_above) := goodIn_app (goodIn_of _ (by decide +kernel)) ggX3_reroot_X3_above
theorem dX3_reroot_0 : decode cX3_reroot 0 = .ok (.aload_n 0, 1) := by decide +kernel
theorem dX3_reroot_1 : decode cX3_reroot 1 = .ok (.iload_n 1, 1) := by decide +kernel
theorem dX3_reroot_2 : decode cX3_reroot 2 = .ok (.invokevirtual 44, 3) := by decide +kernel
theorem dX3_reroot_5 : decode cX3_reroot 5 = .ok (.ifCond .ne 6, 3) := by decide +kernel
theorem dX3_reroot_8 : decode cX3_reroot 8 = .ok (.ldc 47, 2) := by decide +kernel
theorem dX3_reroot_10 : decode cX3_reroot 10 = .ok (.ireturn, 1) := by decide +kernel
theorem dX3_reroot_11 : decode cX3_reroot 11 = .ok (.aload_n 0, 1) := by decide +kernel
theorem dX3_reroot_12 : decode cX3_reroot 12 = .ok (.iload_n 1, 1) := by decide +kernel
theorem dX3_reroot_13 : decode cX3_reroot 13 = .ok (.invokevirtual 49, 3) := by decide +kernel
theorem dX3_reroot_16 : decode cX3_reroot 16 = .ok (.istore_n 2, 1) := by decide +kernel
theorem dX3_reroot_17 : decode cX3_reroot 17 = .ok (.iload_n 1, 1) := by decide +kernel
theorem dX3_reroot_18 : decode cX3_reroot 18 = .ok (.istore_n 3, 1) := by decide +kernel
theorem dX3_reroot_19 : decode cX3_reroot 19 = .ok (.aload_n 0, 1) := by decide +kernel
theorem dX3_reroot_20 : decode cX3_reroot 20 = .ok (.iload_n 3, 1) := by decide +kernel
theorem dX3_reroot_21 : decode cX3_reroot 21 = .ok (.invokevirtual 35, 3) := by decide +kernel
theorem dX3_reroot_24 : decode cX3_reroot 24 = .ok (.istore 4, 2) := by decide +kernel
theorem dX3_reroot_26 : decode cX3_reroot 26 = .ok (.aload_n 0, 1) := by decide +kernel
theorem dX3_reroot_27 : decode cX3_reroot 27 = .ok (.getfield 7, 3) := by decide +kernel
theorem dX3_reroot_30 : decode cX3_reroot 30 = .ok (.iconst 1, 1) := by decide +kernel
theorem dX3_reroot_31 : decode cX3_reroot 31 = .ok (.iload_n 3, 1) := by decide +kernel
theorem dX3_reroot_32 : decode cX3_reroot 32 = .ok (.iadd, 1) := by decide +kernel
theorem dX3_reroot_33 : decode cX3_reroot 33 = .ok (.iload_n 3, 1) := by decide +kernel
theorem dX3_reroot_34 : decode cX3_reroot 34 = .ok (.iastore, 1) := by decide +kernel
theorem dX3_reroot_35 : decode cX3_reroot 35 = .ok (.iload 4, 2) := by decide +kernel
theorem dX3_reroot_37 : decode cX3_reroot 37 = .ok (.iload_n 3, 1) := by decide +kernel
theorem dX3_reroot_38 : decode cX3_reroot 38 = .ok (.if_icmp .eq 31, 3) := by decide +kernel
theorem dX3_reroot_41 : decode cX3_reroot 41 = .ok (.aload_n 0, 1) := by decide +kernel
theorem dX3_reroot_42 : decode cX3_reroot 42 = .ok (.iload 4, 2) := by decide +kernel
theorem dX3_reroot_44 : decode cX3_reroot 44 = .ok (.invokevirtual 35, 3) := by decide +kernel
theorem dX3_reroot_47 : decode cX3_reroot 47 = .ok (.istore 5, 2) := by decide +kernel
theorem dX3_reroot_49 : decode cX3_reroot 49 = .ok (.aload_n 0, 1) := by decide +kernel
theorem dX3_reroot_50 : decode cX3_reroot 50 = .ok (.getfield 7, 3) := by decide +kernel
theorem dX3_reroot_53 : decode cX3_reroot 53 = .ok (.iconst 1, 1) := by decide +kernel
theorem dX3_reroot_54 : decode cX3_reroot 54 = .ok (.iload 4, 2) := by decide +kernel
theorem dX3_reroot_56 : decode cX3_reroot 56 = .ok (.iadd, 1) := by decide +kernel
theorem dX3_reroot_57 : decode cX3_reroot 57 = .ok (.iload_n 3, 1) := by decide +kernel
theorem dX3_reroot_58 : decode cX3_reroot 58 = .ok (.iastore, 1) := by decide +kernel
theorem dX3_reroot_59 : decode cX3_reroot 59 = .ok (.iload 4, 2) := by decide +kernel
theorem dX3_reroot_61 : decode cX3_reroot 61 = .ok (.istore_n 3, 1) := by decide +kernel
theorem dX3_reroot_62 : decode cX3_reroot 62 = .ok (.iload 5, 2) := by decide +kernel
theorem dX3_reroot_64 : decode cX3_reroot 64 = .ok (.istore 4, 2) := by decide +kernel
theorem dX3_reroot_66 : decode cX3_reroot 66 = .ok (.goto (-31), 3) := by decide +kernel
theorem dX3_reroot_69 : decode cX3_reroot 69 = .ok (.iload_n 2, 1) := by decide +kernel
theorem dX3_reroot_70 : decode cX3_reroot 70 = .ok (.ireturn, 1) := by decide +kernel
set_option maxRecDepth 20000 in
theorem ggX3_vertexCount_X3_many : GoodIn wsX3_vertexCount wsX3_many := goodIn_r _ [5, 6, 7, 8, 9, 10, 11] (by decide +kernel) (by decide +kernel)
set_option maxRecDepth 20000 in
theorem gX3_vertexCount_X3_many : GoodIn wsX3_vertexCount (wsV RX3 27 RX3 yX3_many wsX3_many) := goodIn_app (goodIn_of _ (by decide +kernel)) ggX3_vertexCount_X3_many
theorem dX3_vertexCount_0 : decode cX3_vertexCount 0 = .ok (.aload_n 0, 1) := by decide +kernel
theorem dX3_vertexCount_1 : decode cX3_vertexCount 1 = .ok (.invokevirtual 27, 3) := by decide +kernel
theorem dX3_vertexCount_4 : decode cX3_vertexCount 4 = .ok (.ireturn, 1) := by decide +kernel
set_option maxRecDepth 20000 in
theorem ggX3_treeCount_X3_many : GoodIn wsX3_treeCount wsX3_many := goodIn_r _ [5, 6, 15, 16, 17, 18, 19] (by decide +kernel) (by decide +kernel)
set_option maxRecDepth 20000 in
theorem gX3_treeCount_X3_many : GoodIn wsX3_treeCount (wsV RX3 27 RX3 yX3_many wsX3_many) := goodIn_app (goodIn_of _ (by decide +kernel)) ggX3_treeCount_X3_many
set_option maxRecDepth 20000 in
theorem ggX3_treeCount_X3_isRoot : GoodIn wsX3_treeCount wsX3_isRoot := goodIn_r _ [10, 11, 12, 13, 4, 14, 6, 15, 16, 17, 18, 19] (by decide +kernel) (by decide +kernel)
set_option maxRecDepth 20000 in
theorem gX3_treeCount_X3_isRoot : GoodIn wsX3_treeCount (wsV RX3 39 RX3 yX3_isRoot wsX3_isRoot) := goodIn_app (goodIn_of _ (by decide +kernel)) ggX3_treeCount_X3_isRoot
theorem dX3_treeCount_0 : decode cX3_treeCount 0 = .ok (.iconst 0, 1) := by decide +kernel
theorem dX3_treeCount_1 : decode cX3_treeCount 1 = .ok (.istore_n 1, 1) := by decide +kernel
theorem dX3_treeCount_2 : decode cX3_treeCount 2 = .ok (.iconst 0, 1) := by decide +kernel
theorem dX3_treeCount_3 : decode cX3_treeCount 3 = .ok (.istore_n 2, 1) := by decide +kernel
theorem dX3_treeCount_4 : decode cX3_treeCount 4 = .ok (.iload_n 2, 1) := by decide +kernel
theorem dX3_treeCount_5 : decode cX3_treeCount 5 = .ok (.aload_n 0, 1) := by decide +kernel
theorem dX3_treeCount_6 : decode cX3_treeCount 6 = .ok (.invokevirtual 27, 3) := by decide +kernel
theorem dX3_treeCount_9 : decode cX3_treeCount 9 = .ok (.if_icmp .ge 25, 3) := by decide +kernel
theorem dX3_treeCount_12 : decode cX3_treeCount 12 = .ok (.iload_n 1, 1) := by decide +kernel
theorem dX3_treeCount_13 : decode cX3_treeCount 13 = .ok (.aload_n 0, 1) := by decide +kernel
theorem dX3_treeCount_14 : decode cX3_treeCount 14 = .ok (.iload_n 2, 1) := by decide +kernel
theorem dX3_treeCount_15 : decode cX3_treeCount 15 = .ok (.invokevirtual 39, 3) := by decide +kernel
theorem dX3_treeCount_18 : decode cX3_treeCount 18 = .ok (.ifCond .eq 7, 3) := by decide +kernel
theorem dX3_treeCount_21 : decode cX3_treeCount 21 = .ok (.iconst 1, 1) := by decide +kernel
theorem dX3_treeCount_22 : decode cX3_treeCount 22 = .ok (.goto 4, 3) := by decide +kernel
theorem dX3_treeCount_25 : decode cX3_treeCount 25 = .ok (.iconst 0, 1) := by decide +kernel
theorem dX3_treeCount_26 : decode cX3_treeCount 26 = .ok (.iadd, 1) := by decide +kernel
theorem dX3_treeCount_27 : decode cX3_treeCount 27 = .ok (.istore_n 1, 1) := by decide +kernel
theorem dX3_treeCount_28 : decode cX3_treeCount 28 = .ok (.iinc 2 1, 3) := by decide +kernel
theorem dX3_treeCount_31 : decode cX3_treeCount 31 = .ok (.goto (-27), 3) := by decide +kernel
theorem dX3_treeCount_34 : decode cX3_treeCount 34 = .ok (.iload_n 1, 1) := by decide +kernel
theorem dX3_treeCount_35 : decode cX3_treeCount 35 = .ok (.ireturn, 1) := by decide +kernel
set_option maxRecDepth 20000 in
theorem ggX3_parent_X3_isVertex : GoodIn wsX3_parent wsX3_isVertex := goodIn_r _ [7, 8, 9, 10, 6, 11, 12, 13, 14, 15, 24, 25, 26, 27, 28] (by decide +kernel) (by decide +kernel)
set_option maxRecDepth 20000 in
theorem gX3_parent_X3_isVertex : GoodIn wsX3_parent (wsV RX3 44 RX3 yX3_isVertex wsX3_isVertex) := goodIn_app (goodIn_of _ (by decide +kernel)) ggX3_parent_X3_isVertex
set_option maxRecDepth 20000 in
theorem ggX3_parent_X3_isRoot : GoodIn wsX3_parent wsX3_isRoot := goodIn_r _ [19, 20, 21, 22, 6, 23, 12, 24, 25, 26, 27, 28] (by decide +kernel) (by decide +kernel)
set_option maxRecDepth 20000 in
theorem gX3_parent_X3_isRoot : GoodIn wsX3_parent (wsV RX3 39 RX3 yX3_isRoot wsX3_isRoot) := goodIn_app (goodIn_of _ (by decide +kernel)) ggX3_parent_X3_isRoot
set_option maxRecDepth 20000 in
theorem ggX3_parent_X3_above : GoodIn wsX3_parent wsX3_above := goodIn_r _ [23, 12, 24, 25, 26, 27, 28] (by decide +kernel) (by decide +kernel)
set_option maxRecDepth 20000 in
theorem gX3_parent_X3_above : GoodIn wsX3_parent (wsV RX3 35 RX3 yX3_above wsX3_above) := goodIn_app (goodIn_of _ (by decide +kernel)) ggX3_parent_X3_above
theorem dX3_parent_0 : decode cX3_parent 0 = .ok (.aload_n 0, 1) := by decide +kernel
theorem dX3_parent_1 : decode cX3_parent 1 = .ok (.iload_n 1, 1) := by decide +kernel
theorem dX3_parent_2 : decode cX3_parent 2 = .ok (.invokevirtual 44, 3) := by decide +kernel
theorem dX3_parent_5 : decode cX3_parent 5 = .ok (.ifCond .ne 6, 3) := by decide +kernel
theorem dX3_parent_8 : decode cX3_parent 8 = .ok (.ldc 47, 2) := by decide +kernel
theorem dX3_parent_10 : decode cX3_parent 10 = .ok (.ireturn, 1) := by decide +kernel
theorem dX3_parent_11 : decode cX3_parent 11 = .ok (.aload_n 0, 1) := by decide +kernel
theorem dX3_parent_12 : decode cX3_parent 12 = .ok (.iload_n 1, 1) := by decide +kernel
theorem dX3_parent_13 : decode cX3_parent 13 = .ok (.invokevirtual 39, 3) := by decide +kernel
theorem dX3_parent_16 : decode cX3_parent 16 = .ok (.ifCond .eq 8, 3) := by decide +kernel
theorem dX3_parent_19 : decode cX3_parent 19 = .ok (.ldc 53, 2) := by decide +kernel
theorem dX3_parent_21 : decode cX3_parent 21 = .ok (.goto 8, 3) := by decide +kernel
theorem dX3_parent_24 : decode cX3_parent 24 = .ok (.aload_n 0, 1) := by decide +kernel
theorem dX3_parent_25 : decode cX3_parent 25 = .ok (.iload_n 1, 1) := by decide +kernel
theorem dX3_parent_26 : decode cX3_parent 26 = .ok (.invokevirtual 35, 3) := by decide +kernel
theorem dX3_parent_29 : decode cX3_parent 29 = .ok (.ireturn, 1) := by decide +kernel
set_option maxRecDepth 20000 in
theorem ggX3_root_X3_isVertex : GoodIn wsX3_root wsX3_isVertex := goodIn_r _ [6, 7, 8, 9, 5, 10, 11, 12, 13, 14, 27, 28, 29, 30, 31] (by decide +kernel) (by decide +kernel)
set_option maxRecDepth 20000 in
theorem gX3_root_X3_isVertex : GoodIn wsX3_root (wsV RX3 44 RX3 yX3_isVertex wsX3_isVertex) := goodIn_app (goodIn_of _ (by decide +kernel)) ggX3_root_X3_isVertex
set_option maxRecDepth 20000 in
theorem ggX3_root_X3_rootOf : GoodIn wsX3_root wsX3_rootOf := goodIn_r _ [18, 19, 20, 21, 5, 22, 23, 24, 25, 26, 11, 27, 28, 29, 30, 31] (by decide +kernel) (by decide +kernel)
set_option maxRecDepth 20000 in
theorem gX3_root_X3_rootOf : GoodIn wsX3_root (wsV RX3 49 RX3 yX3_rootOf wsX3_rootOf) := goodIn_app (goodIn_of _ (by decide +kernel)) ggX3_root_X3_rootOf
theorem dX3_root_0 : decode cX3_root 0 = .ok (.aload_n 0, 1) := by decide +kernel
theorem dX3_root_1 : decode cX3_root 1 = .ok (.iload_n 1, 1) := by decide +kernel
theorem dX3_root_2 : decode cX3_root 2 = .ok (.invokevirtual 44, 3) := by decide +kernel
theorem dX3_root_5 : decode cX3_root 5 = .ok (.ifCond .eq 11, 3) := by decide +kernel
theorem dX3_root_8 : decode cX3_root 8 = .ok (.aload_n 0, 1) := by decide +kernel
theorem dX3_root_9 : decode cX3_root 9 = .ok (.iload_n 1, 1) := by decide +kernel
theorem dX3_root_10 : decode cX3_root 10 = .ok (.invokevirtual 49, 3) := by decide +kernel
theorem dX3_root_13 : decode cX3_root 13 = .ok (.goto 5, 3) := by decide +kernel
theorem dX3_root_16 : decode cX3_root 16 = .ok (.ldc 47, 2) := by decide +kernel
theorem dX3_root_18 : decode cX3_root 18 = .ok (.ireturn, 1) := by decide +kernel
set_option maxRecDepth 20000 in
theorem ggX3_depth_X3_isVertex : GoodIn wsX3_depth wsX3_isVertex := goodIn_r _ [6, 7, 8, 9, 5, 10, 11, 12, 13, 14, 27, 28, 29, 30, 31] (by decide +kernel) (by decide +kernel)
set_option maxRecDepth 20000 in
theorem gX3_depth_X3_isVertex : GoodIn wsX3_depth (wsV RX3 44 RX3 yX3_isVertex wsX3_isVertex) := goodIn_app (goodIn_of _ (by decide +kernel)) ggX3_depth_X3_isVertex
set_option maxRecDepth 20000 in
theorem ggX3_depth_X3_depthOf : GoodIn wsX3_depth wsX3_depthOf := goodIn_r _ [18, 19, 20, 21, 5, 22, 23, 24, 25, 26, 11, 27, 28, 29, 30, 31] (by decide +kernel) (by decide +kernel)
set_option maxRecDepth 20000 in
theorem gX3_depth_X3_depthOf : GoodIn wsX3_depth (wsV RX3 54 RX3 yX3_depthOf wsX3_depthOf) := goodIn_app (goodIn_of _ (by decide +kernel)) ggX3_depth_X3_depthOf
theorem dX3_depth_0 : decode cX3_depth 0 = .ok (.aload_n 0, 1) := by decide +kernel
theorem dX3_depth_1 : decode cX3_depth 1 = .ok (.iload_n 1, 1) := by decide +kernel
theorem dX3_depth_2 : decode cX3_depth 2 = .ok (.invokevirtual 44, 3) := by decide +kernel
theorem dX3_depth_5 : decode cX3_depth 5 = .ok (.ifCond .eq 11, 3) := by decide +kernel
theorem dX3_depth_8 : decode cX3_depth 8 = .ok (.aload_n 0, 1) := by decide +kernel
theorem dX3_depth_9 : decode cX3_depth 9 = .ok (.iload_n 1, 1) := by decide +kernel
theorem dX3_depth_10 : decode cX3_depth 10 = .ok (.invokevirtual 54, 3) := by decide +kernel
theorem dX3_depth_13 : decode cX3_depth 13 = .ok (.goto 5, 3) := by decide +kernel
theorem dX3_depth_16 : decode cX3_depth 16 = .ok (.ldc 47, 2) := by decide +kernel
theorem dX3_depth_18 : decode cX3_depth 18 = .ok (.ireturn, 1) := by decide +kernel
set_option maxRecDepth 20000 in
theorem ggX3_connected_X3_isVertex : GoodIn wsX3_connected wsX3_isVertex := goodIn_r _ [6, 7, 8, 9, 5, 10, 11, 12, 13, 14, 27, 28, 29, 30, 31] (by decide +kernel) (by decide +kernel)
set_option maxRecDepth 20000 in
theorem gX3_connected_X3_isVertex : GoodIn wsX3_connected (wsV RX3 44 RX3 yX3_isVertex wsX3_isVertex) := goodIn_app (goodIn_of _ (by decide +kernel)) ggX3_connected_X3_isVertex
set_option maxRecDepth 20000 in
theorem ggX3_connected_X3_rootOf : GoodIn wsX3_connected wsX3_rootOf := goodIn_r _ [18, 19, 20, 21, 5, 22, 23, 24, 25, 26, 11, 27, 28, 29, 30, 31] (by decide +kernel) (by decide +kernel)
set_option maxRecDepth 20000 in
theorem gX3_connected_X3_rootOf : GoodIn wsX3_connected (wsV RX3 49 RX3 yX3_rootOf wsX3_rootOf) := goodIn_app (goodIn_of _ (by decide +kernel)) ggX3_connected_X3_rootOf
theorem dX3_connected_0 : decode cX3_connected 0 = .ok (.aload_n 0, 1) := by decide +kernel
theorem dX3_connected_1 : decode cX3_connected 1 = .ok (.iload_n 1, 1) := by decide +kernel
theorem dX3_connected_2 : decode cX3_connected 2 = .ok (.invokevirtual 44, 3) := by decide +kernel
theorem dX3_connected_5 : decode cX3_connected 5 = .ok (.ifCond .eq 11, 3) := by decide +kernel
theorem dX3_connected_8 : decode cX3_connected 8 = .ok (.aload_n 0, 1) := by decide +kernel
theorem dX3_connected_9 : decode cX3_connected 9 = .ok (.iload_n 2, 1) := by decide +kernel
theorem dX3_connected_10 : decode cX3_connected 10 = .ok (.invokevirtual 44, 3) := by decide +kernel
theorem dX3_connected_13 : decode cX3_connected 13 = .ok (.ifCond .ne 6, 3) := by decide +kernel
theorem dX3_connected_16 : decode cX3_connected 16 = .ok (.ldc 47, 2) := by decide +kernel
theorem dX3_connected_18 : decode cX3_connected 18 = .ok (.ireturn, 1) := by decide +kernel
theorem dX3_connected_19 : decode cX3_connected 19 = .ok (.aload_n 0, 1) := by decide +kernel
theorem dX3_connected_20 : decode cX3_connected 20 = .ok (.iload_n 1, 1) := by decide +kernel
theorem dX3_connected_21 : decode cX3_connected 21 = .ok (.invokevirtual 49, 3) := by decide +kernel
theorem dX3_connected_24 : decode cX3_connected 24 = .ok (.aload_n 0, 1) := by decide +kernel
theorem dX3_connected_25 : decode cX3_connected 25 = .ok (.iload_n 2, 1) := by decide +kernel
theorem dX3_connected_26 : decode cX3_connected 26 = .ok (.invokevirtual 49, 3) := by decide +kernel
theorem dX3_connected_29 : decode cX3_connected 29 = .ok (.if_icmp .ne 7, 3) := by decide +kernel
theorem dX3_connected_32 : decode cX3_connected 32 = .ok (.iconst 1, 1) := by decide +kernel
theorem dX3_connected_33 : decode cX3_connected 33 = .ok (.goto 4, 3) := by decide +kernel
theorem dX3_connected_36 : decode cX3_connected 36 = .ok (.iconst 0, 1) := by decide +kernel
theorem dX3_connected_37 : decode cX3_connected 37 = .ok (.ireturn, 1) := by decide +kernel
set_option maxRecDepth 20000 in
theorem ggX3_wrongPair_X3_isVertex : GoodIn wsX3_wrongPair wsX3_isVertex := goodIn_r _ [7, 8, 9, 10, 6, 11, 12, 13, 14, 15, 28, 29, 30, 31, 32] (by decide +kernel) (by decide +kernel)
set_option maxRecDepth 20000 in
theorem gX3_wrongPair_X3_isVertex : GoodIn wsX3_wrongPair (wsV RX3 44 RX3 yX3_isVertex wsX3_isVertex) := goodIn_app (goodIn_of _ (by decide +kernel)) ggX3_wrongPair_X3_isVertex
set_option maxRecDepth 20000 in
theorem ggX3_wrongPair_X3_rootOf : GoodIn wsX3_wrongPair wsX3_rootOf := goodIn_r _ [19, 20, 21, 22, 6, 23, 24, 25, 26, 27, 12, 28, 29, 30, 31, 32] (by decide +kernel) (by decide +kernel)
set_option maxRecDepth 20000 in
theorem gX3_wrongPair_X3_rootOf : GoodIn wsX3_wrongPair (wsV RX3 49 RX3 yX3_rootOf wsX3_rootOf) := goodIn_app (goodIn_of _ (by decide +kernel)) ggX3_wrongPair_X3_rootOf
theorem dX3_wrongPair_0 : decode cX3_wrongPair 0 = .ok (.aload_n 0, 1) := by decide +kernel
theorem dX3_wrongPair_1 : decode cX3_wrongPair 1 = .ok (.iload_n 1, 1) := by decide +kernel
theorem dX3_wrongPair_2 : decode cX3_wrongPair 2 = .ok (.invokevirtual 44, 3) := by decide +kernel
theorem dX3_wrongPair_5 : decode cX3_wrongPair 5 = .ok (.ifCond .eq 11, 3) := by decide +kernel
theorem dX3_wrongPair_8 : decode cX3_wrongPair 8 = .ok (.aload_n 0, 1) := by decide +kernel
theorem dX3_wrongPair_9 : decode cX3_wrongPair 9 = .ok (.iload_n 2, 1) := by decide +kernel
theorem dX3_wrongPair_10 : decode cX3_wrongPair 10 = .ok (.invokevirtual 44, 3) := by decide +kernel
theorem dX3_wrongPair_13 : decode cX3_wrongPair 13 = .ok (.ifCond .ne 6, 3) := by decide +kernel
theorem dX3_wrongPair_16 : decode cX3_wrongPair 16 = .ok (.ldc 47, 2) := by decide +kernel
theorem dX3_wrongPair_18 : decode cX3_wrongPair 18 = .ok (.ireturn, 1) := by decide +kernel
theorem dX3_wrongPair_19 : decode cX3_wrongPair 19 = .ok (.aload_n 0, 1) := by decide +kernel
theorem dX3_wrongPair_20 : decode cX3_wrongPair 20 = .ok (.iload_n 1, 1) := by decide +kernel
theorem dX3_wrongPair_21 : decode cX3_wrongPair 21 = .ok (.invokevirtual 49, 3) := by decide +kernel
theorem dX3_wrongPair_24 : decode cX3_wrongPair 24 = .ok (.aload_n 0, 1) := by decide +kernel
theorem dX3_wrongPair_25 : decode cX3_wrongPair 25 = .ok (.iload_n 2, 1) := by decide +kernel
theorem dX3_wrongPair_26 : decode cX3_wrongPair 26 = .ok (.invokevirtual 49, 3) := by decide +kernel
theorem dX3_wrongPair_29 : decode cX3_wrongPair 29 = .ok (.if_icmp .ne 7, 3) := by decide +kernel
theorem dX3_wrongPair_32 : decode cX3_wrongPair 32 = .ok (.iconst 0, 1) := by decide +kernel
theorem dX3_wrongPair_33 : decode cX3_wrongPair 33 = .ok (.goto 5, 3) := by decide +kernel
theorem dX3_wrongPair_36 : decode cX3_wrongPair 36 = .ok (.ldc 57, 2) := by decide +kernel
theorem dX3_wrongPair_38 : decode cX3_wrongPair 38 = .ok (.ireturn, 1) := by decide +kernel
set_option maxRecDepth 20000 in
theorem ggX3_meetingOf_X3_depthOf : GoodIn wsX3_meetingOf wsX3_depthOf := goodIn_r _ [5, 6, 7, 8, 4, 9, 10, 11, 12, 13, 14, 15, 16, 17, 18, 19] (by decide +kernel) (by decide +kernel)
set_option maxRecDepth 20000 in
theorem gX3_meetingOf_X3_depthOf : GoodIn wsX3_meetingOf (wsV RX3 54 RX3 yX3_depthOf wsX3_depthOf) := goodIn_app (goodIn_of _ (by decide +kernel)) ggX3_meetingOf_X3_depthOf
set_option maxRecDepth 20000 in
theorem ggX3_meetingOf_X3_above : GoodIn wsX3_meetingOf wsX3_above := goodIn_r _ [13, 14, 15, 16, 17, 18, 19] (by decide +kernel) (by decide +kernel)
set_option maxRecDepth 20000 in
theorem gX3_meetingOf_X3_above : GoodIn wsX3_meetingOf (wsV RX3 35 RX3 yX3_above wsX3_above) := goodIn_app (goodIn_of _ (by decide +kernel)) ggX3_meetingOf_X3_above
theorem dX3_meetingOf_0 : decode cX3_meetingOf 0 = .ok (.iload_n 1, 1) := by decide +kernel
theorem dX3_meetingOf_1 : decode cX3_meetingOf 1 = .ok (.istore_n 3, 1) := by decide +kernel
theorem dX3_meetingOf_2 : decode cX3_meetingOf 2 = .ok (.iload_n 2, 1) := by decide +kernel
theorem dX3_meetingOf_3 : decode cX3_meetingOf 3 = .ok (.istore 4, 2) := by decide +kernel
theorem dX3_meetingOf_5 : decode cX3_meetingOf 5 = .ok (.iload_n 3, 1) := by decide +kernel
theorem dX3_meetingOf_6 : decode cX3_meetingOf 6 = .ok (.iload 4, 2) := by decide +kernel
theorem dX3_meetingOf_8 : decode cX3_meetingOf 8 = .ok (.if_icmp .eq 37, 3) := by decide +kernel
theorem dX3_meetingOf_11 : decode cX3_meetingOf 11 = .ok (.aload_n 0, 1) := by decide +kernel
theorem dX3_meetingOf_12 : decode cX3_meetingOf 12 = .ok (.iload_n 3, 1) := by decide +kernel
theorem dX3_meetingOf_13 : decode cX3_meetingOf 13 = .ok (.invokevirtual 54, 3) := by decide +kernel
theorem dX3_meetingOf_16 : decode cX3_meetingOf 16 = .ok (.aload_n 0, 1) := by decide +kernel
theorem dX3_meetingOf_17 : decode cX3_meetingOf 17 = .ok (.iload 4, 2) := by decide +kernel
theorem dX3_meetingOf_19 : decode cX3_meetingOf 19 = .ok (.invokevirtual 54, 3) := by decide +kernel
theorem dX3_meetingOf_22 : decode cX3_meetingOf 22 = .ok (.if_icmp .lt 12, 3) := by decide +kernel
theorem dX3_meetingOf_25 : decode cX3_meetingOf 25 = .ok (.aload_n 0, 1) := by decide +kernel
theorem dX3_meetingOf_26 : decode cX3_meetingOf 26 = .ok (.iload_n 3, 1) := by decide +kernel
theorem dX3_meetingOf_27 : decode cX3_meetingOf 27 = .ok (.invokevirtual 35, 3) := by decide +kernel
theorem dX3_meetingOf_30 : decode cX3_meetingOf 30 = .ok (.istore_n 3, 1) := by decide +kernel
theorem dX3_meetingOf_31 : decode cX3_meetingOf 31 = .ok (.goto (-26), 3) := by decide +kernel
theorem dX3_meetingOf_34 : decode cX3_meetingOf 34 = .ok (.aload_n 0, 1) := by decide +kernel
theorem dX3_meetingOf_35 : decode cX3_meetingOf 35 = .ok (.iload 4, 2) := by decide +kernel
theorem dX3_meetingOf_37 : decode cX3_meetingOf 37 = .ok (.invokevirtual 35, 3) := by decide +kernel
theorem dX3_meetingOf_40 : decode cX3_meetingOf 40 = .ok (.istore 4, 2) := by decide +kernel
theorem dX3_meetingOf_42 : decode cX3_meetingOf 42 = .ok (.goto (-37), 3) := by decide +kernel
theorem dX3_meetingOf_45 : decode cX3_meetingOf 45 = .ok (.iload_n 3, 1) := by decide +kernel
theorem dX3_meetingOf_46 : decode cX3_meetingOf 46 = .ok (.ireturn, 1) := by decide +kernel
set_option maxRecDepth 20000 in
theorem ggX3_layPath_X3_meetingOf : GoodIn wsX3_layPath wsX3_meetingOf := goodIn_r _ [7, 8, 9, 10, 6, 11, 12, 13, 14, 15, 16, 17, 18, 19, 20, 21, 22, 23, 24, 25] (by decide +kernel) (by decide +kernel)
set_option maxRecDepth 20000 in
theorem gX3_layPath_X3_meetingOf : GoodIn wsX3_layPath (wsV RX3 58 RX3 yX3_meetingOf wsX3_meetingOf) := goodIn_app (goodIn_of _ (by decide +kernel)) ggX3_layPath_X3_meetingOf
set_option maxRecDepth 20000 in
theorem ggX3_layPath_X3_above : GoodIn wsX3_layPath wsX3_above := goodIn_r _ [19, 20, 21, 22, 23, 24, 25] (by decide +kernel) (by decide +kernel)
set_option maxRecDepth 20000 in
theorem gX3_layPath_X3_above : GoodIn wsX3_layPath (wsV RX3 35 RX3 yX3_above wsX3_above) := goodIn_app (goodIn_of _ (by decide +kernel)) ggX3_layPath_X3_above
set_option maxRecDepth 20000 in
theorem ggX3_layPath_X3_depthOf : GoodIn wsX3_layPath wsX3_depthOf := goodIn_r _ [11, 12, 13, 14, 6, 15, 16, 17, 18, 19, 20, 21, 22, 23, 24, 25] (by decide +kernel) (by decide +kernel)
set_option maxRecDepth 20000 in
theorem gX3_layPath_X3_depthOf : GoodIn wsX3_layPath (wsV RX3 54 RX3 yX3_depthOf wsX3_depthOf) := goodIn_app (goodIn_of _ (by decide +kernel)) ggX3_layPath_X3_depthOf
theorem dX3_layPath_0 : decode cX3_layPath 0 = .ok (.aload_n 0, 1) := by decide +kernel
theorem dX3_layPath_1 : decode cX3_layPath 1 = .ok (.iload_n 1, 1) := by decide +kernel
theorem dX3_layPath_2 : decode cX3_layPath 2 = .ok (.iload_n 2, 1) := by decide +kernel
theorem dX3_layPath_3 : decode cX3_layPath 3 = .ok (.invokevirtual 58, 3) := by decide +kernel
theorem dX3_layPath_6 : decode cX3_layPath 6 = .ok (.istore_n 3, 1) := by decide +kernel
theorem dX3_layPath_7 : decode cX3_layPath 7 = .ok (.aload_n 0, 1) := by decide +kernel
theorem dX3_layPath_8 : decode cX3_layPath 8 = .ok (.iconst 0, 1) := by decide +kernel
theorem dX3_layPath_9 : decode cX3_layPath 9 = .ok (.putfield 62, 3) := by decide +kernel
theorem dX3_layPath_12 : decode cX3_layPath 12 = .ok (.iload_n 1, 1) := by decide +kernel
theorem dX3_layPath_13 : decode cX3_layPath 13 = .ok (.istore 4, 2) := by decide +kernel
theorem dX3_layPath_15 : decode cX3_layPath 15 = .ok (.iload 4, 2) := by decide +kernel
theorem dX3_layPath_17 : decode cX3_layPath 17 = .ok (.iload_n 3, 1) := by decide +kernel
theorem dX3_layPath_18 : decode cX3_layPath 18 = .ok (.if_icmp .eq 35, 3) := by decide +kernel
theorem dX3_layPath_21 : decode cX3_layPath 21 = .ok (.aload_n 0, 1) := by decide +kernel
theorem dX3_layPath_22 : decode cX3_layPath 22 = .ok (.getfield 20, 3) := by decide +kernel
theorem dX3_layPath_25 : decode cX3_layPath 25 = .ok (.aload_n 0, 1) := by decide +kernel
theorem dX3_layPath_26 : decode cX3_layPath 26 = .ok (.getfield 62, 3) := by decide +kernel
theorem dX3_layPath_29 : decode cX3_layPath 29 = .ok (.iload 4, 2) := by decide +kernel
theorem dX3_layPath_31 : decode cX3_layPath 31 = .ok (.iastore, 1) := by decide +kernel
theorem dX3_layPath_32 : decode cX3_layPath 32 = .ok (.aload_n 0, 1) := by decide +kernel
theorem dX3_layPath_33 : decode cX3_layPath 33 = .ok (.dup, 1) := by decide +kernel
theorem dX3_layPath_34 : decode cX3_layPath 34 = .ok (.getfield 62, 3) := by decide +kernel
theorem dX3_layPath_37 : decode cX3_layPath 37 = .ok (.iconst 1, 1) := by decide +kernel
theorem dX3_layPath_38 : decode cX3_layPath 38 = .ok (.iadd, 1) := by decide +kernel
theorem dX3_layPath_39 : decode cX3_layPath 39 = .ok (.putfield 62, 3) := by decide +kernel
theorem dX3_layPath_42 : decode cX3_layPath 42 = .ok (.aload_n 0, 1) := by decide +kernel
theorem dX3_layPath_43 : decode cX3_layPath 43 = .ok (.iload 4, 2) := by decide +kernel
theorem dX3_layPath_45 : decode cX3_layPath 45 = .ok (.invokevirtual 35, 3) := by decide +kernel
theorem dX3_layPath_48 : decode cX3_layPath 48 = .ok (.istore 4, 2) := by decide +kernel
theorem dX3_layPath_50 : decode cX3_layPath 50 = .ok (.goto (-35), 3) := by decide +kernel
theorem dX3_layPath_53 : decode cX3_layPath 53 = .ok (.aload_n 0, 1) := by decide +kernel
theorem dX3_layPath_54 : decode cX3_layPath 54 = .ok (.getfield 20, 3) := by decide +kernel
theorem dX3_layPath_57 : decode cX3_layPath 57 = .ok (.aload_n 0, 1) := by decide +kernel
theorem dX3_layPath_58 : decode cX3_layPath 58 = .ok (.getfield 62, 3) := by decide +kernel
theorem dX3_layPath_61 : decode cX3_layPath 61 = .ok (.iload_n 3, 1) := by decide +kernel
theorem dX3_layPath_62 : decode cX3_layPath 62 = .ok (.iastore, 1) := by decide +kernel
theorem dX3_layPath_63 : decode cX3_layPath 63 = .ok (.aload_n 0, 1) := by decide +kernel
theorem dX3_layPath_64 : decode cX3_layPath 64 = .ok (.dup, 1) := by decide +kernel
theorem dX3_layPath_65 : decode cX3_layPath 65 = .ok (.getfield 62, 3) := by decide +kernel
theorem dX3_layPath_68 : decode cX3_layPath 68 = .ok (.iconst 1, 1) := by decide +kernel
theorem dX3_layPath_69 : decode cX3_layPath 69 = .ok (.aload_n 0, 1) := by decide +kernel
theorem dX3_layPath_70 : decode cX3_layPath 70 = .ok (.iload_n 2, 1) := by decide +kernel
theorem dX3_layPath_71 : decode cX3_layPath 71 = .ok (.invokevirtual 54, 3) := by decide +kernel
theorem dX3_layPath_74 : decode cX3_layPath 74 = .ok (.iadd, 1) := by decide +kernel
theorem dX3_layPath_75 : decode cX3_layPath 75 = .ok (.aload_n 0, 1) := by decide +kernel
theorem dX3_layPath_76 : decode cX3_layPath 76 = .ok (.iload_n 3, 1) := by decide +kernel
theorem dX3_layPath_77 : decode cX3_layPath 77 = .ok (.invokevirtual 54, 3) := by decide +kernel
theorem dX3_layPath_80 : decode cX3_layPath 80 = .ok (.isub, 1) := by decide +kernel
theorem dX3_layPath_81 : decode cX3_layPath 81 = .ok (.iadd, 1) := by decide +kernel
theorem dX3_layPath_82 : decode cX3_layPath 82 = .ok (.putfield 62, 3) := by decide +kernel
theorem dX3_layPath_85 : decode cX3_layPath 85 = .ok (.aload_n 0, 1) := by decide +kernel
theorem dX3_layPath_86 : decode cX3_layPath 86 = .ok (.getfield 62, 3) := by decide +kernel
theorem dX3_layPath_89 : decode cX3_layPath 89 = .ok (.iconst 1, 1) := by decide +kernel
theorem dX3_layPath_90 : decode cX3_layPath 90 = .ok (.isub, 1) := by decide +kernel
theorem dX3_layPath_91 : decode cX3_layPath 91 = .ok (.istore 4, 2) := by decide +kernel
theorem dX3_layPath_93 : decode cX3_layPath 93 = .ok (.iload_n 2, 1) := by decide +kernel
theorem dX3_layPath_94 : decode cX3_layPath 94 = .ok (.istore 5, 2) := by decide +kernel
theorem dX3_layPath_96 : decode cX3_layPath 96 = .ok (.iload 5, 2) := by decide +kernel
theorem dX3_layPath_98 : decode cX3_layPath 98 = .ok (.iload_n 3, 1) := by decide +kernel
theorem dX3_layPath_99 : decode cX3_layPath 99 = .ok (.if_icmp .eq 26, 3) := by decide +kernel
theorem dX3_layPath_102 : decode cX3_layPath 102 = .ok (.aload_n 0, 1) := by decide +kernel
theorem dX3_layPath_103 : decode cX3_layPath 103 = .ok (.getfield 20, 3) := by decide +kernel
theorem dX3_layPath_106 : decode cX3_layPath 106 = .ok (.iload 4, 2) := by decide +kernel
theorem dX3_layPath_108 : decode cX3_layPath 108 = .ok (.iload 5, 2) := by decide +kernel
theorem dX3_layPath_110 : decode cX3_layPath 110 = .ok (.iastore, 1) := by decide +kernel
theorem dX3_layPath_111 : decode cX3_layPath 111 = .ok (.iinc 4 (-1), 3) := by decide +kernel
theorem dX3_layPath_114 : decode cX3_layPath 114 = .ok (.aload_n 0, 1) := by decide +kernel
theorem dX3_layPath_115 : decode cX3_layPath 115 = .ok (.iload 5, 2) := by decide +kernel
theorem dX3_layPath_117 : decode cX3_layPath 117 = .ok (.invokevirtual 35, 3) := by decide +kernel
theorem dX3_layPath_120 : decode cX3_layPath 120 = .ok (.istore 5, 2) := by decide +kernel
theorem dX3_layPath_122 : decode cX3_layPath 122 = .ok (.goto (-26), 3) := by decide +kernel
theorem dX3_layPath_125 : decode cX3_layPath 125 = .ok (.return_, 1) := by decide +kernel
set_option maxRecDepth 20000 in
theorem ggX3_commonAncestor_X3_wrongPair : GoodIn wsX3_commonAncestor wsX3_wrongPair := goodIn_r _ [5, 6, 7, 8, 9, 10, 4, 11, 12, 13, 14, 15, 16, 17, 18, 19, 20, 21, 22, 23, 24, 25, 26, 27, 28, 29, 30, 31, 40, 41, 42, 43, 44] (by decide +kernel) (by decide +kernel)
set_option maxRecDepth 20000 in
theorem gX3_commonAncestor_X3_wrongPair : GoodIn wsX3_commonAncestor (wsV RX3 66 RX3 yX3_wrongPair wsX3_wrongPair) := goodIn_app (goodIn_of _ (by decide +kernel)) ggX3_commonAncestor_X3_wrongPair
set_option maxRecDepth 20000 in
theorem ggX3_commonAncestor_X3_meetingOf : GoodIn wsX3_commonAncestor wsX3_meetingOf := goodIn_r _ [35, 36, 37, 38, 4, 39, 24, 25, 26, 27, 28, 29, 30, 31, 16, 40, 41, 42, 43, 44] (by decide +kernel) (by decide +kernel)
set_option maxRecDepth 20000 in
theorem gX3_commonAncestor_X3_meetingOf : GoodIn wsX3_commonAncestor (wsV RX3 58 RX3 yX3_meetingOf wsX3_meetingOf) := goodIn_app (goodIn_of _ (by decide +kernel)) ggX3_commonAncestor_X3_meetingOf
theorem dX3_commonAncestor_0 : decode cX3_commonAncestor 0 = .ok (.aload_n 0, 1) := by decide +kernel
theorem dX3_commonAncestor_1 : decode cX3_commonAncestor 1 = .ok (.iload_n 1, 1) := by decide +kernel
theorem dX3_commonAncestor_2 : decode cX3_commonAncestor 2 = .ok (.iload_n 2, 1) := by decide +kernel
theorem dX3_commonAncestor_3 : decode cX3_commonAncestor 3 = .ok (.invokevirtual 66, 3) := by decide +kernel
theorem dX3_commonAncestor_6 : decode cX3_commonAncestor 6 = .ok (.istore_n 3, 1) := by decide +kernel
theorem dX3_commonAncestor_7 : decode cX3_commonAncestor 7 = .ok (.iload_n 3, 1) := by decide +kernel
theorem dX3_commonAncestor_8 : decode cX3_commonAncestor 8 = .ok (.ifCond .eq 7, 3) := by decide +kernel
theorem dX3_commonAncestor_11 : decode cX3_commonAncestor 11 = .ok (.iload_n 3, 1) := by decide +kernel
theorem dX3_commonAncestor_12 : decode cX3_commonAncestor 12 = .ok (.goto 9, 3) := by decide +kernel
theorem dX3_commonAncestor_15 : decode cX3_commonAncestor 15 = .ok (.aload_n 0, 1) := by decide +kernel
theorem dX3_commonAncestor_16 : decode cX3_commonAncestor 16 = .ok (.iload_n 1, 1) := by decide +kernel
theorem dX3_commonAncestor_17 : decode cX3_commonAncestor 17 = .ok (.iload_n 2, 1) := by decide +kernel
theorem dX3_commonAncestor_18 : decode cX3_commonAncestor 18 = .ok (.invokevirtual 58, 3) := by decide +kernel
theorem dX3_commonAncestor_21 : decode cX3_commonAncestor 21 = .ok (.ireturn, 1) := by decide +kernel
set_option maxRecDepth 20000 in
theorem ggX3_distanceOf_X3_depthOf : GoodIn wsX3_distanceOf wsX3_depthOf := goodIn_r _ [5, 6, 7, 8, 4, 9, 10, 11, 12, 13, 14, 19, 20, 21, 22, 23] (by decide +kernel) (by decide +kernel)
set_option maxRecDepth 20000 in
theorem gX3_distanceOf_X3_depthOf : GoodIn wsX3_distanceOf (wsV RX3 54 RX3 yX3_depthOf wsX3_depthOf) := goodIn_app (goodIn_of _ (by decide +kernel)) ggX3_distanceOf_X3_depthOf
set_option maxRecDepth 20000 in
theorem ggX3_distanceOf_X3_meetingOf : GoodIn wsX3_distanceOf wsX3_meetingOf := goodIn_r _ [18, 1, 2, 3, 4, 5, 6, 7, 8, 9, 10, 11, 12, 13, 14, 19, 20, 21, 22, 23] (by decide +kernel) (by decide +kernel)
set_option maxRecDepth 20000 in
theorem gX3_distanceOf_X3_meetingOf : GoodIn wsX3_distanceOf (wsV RX3 58 RX3 yX3_meetingOf wsX3_meetingOf) := goodIn_app (goodIn_of _ (by decide +kernel)) ggX3_distanceOf_X3_meetingOf
theorem dX3_distanceOf_0 : decode cX3_distanceOf 0 = .ok (.aload_n 0, 1) := by decide +kernel
theorem dX3_distanceOf_1 : decode cX3_distanceOf 1 = .ok (.iload_n 1, 1) := by decide +kernel
theorem dX3_distanceOf_2 : decode cX3_distanceOf 2 = .ok (.invokevirtual 54, 3) := by decide +kernel
theorem dX3_distanceOf_5 : decode cX3_distanceOf 5 = .ok (.aload_n 0, 1) := by decide +kernel
theorem dX3_distanceOf_6 : decode cX3_distanceOf 6 = .ok (.iload_n 2, 1) := by decide +kernel
theorem dX3_distanceOf_7 : decode cX3_distanceOf 7 = .ok (.invokevirtual 54, 3) := by decide +kernel
theorem dX3_distanceOf_10 : decode cX3_distanceOf 10 = .ok (.iadd, 1) := by decide +kernel
theorem dX3_distanceOf_11 : decode cX3_distanceOf 11 = .ok (.iconst 2, 1) := by decide +kernel
theorem dX3_distanceOf_12 : decode cX3_distanceOf 12 = .ok (.aload_n 0, 1) := by decide +kernel
theorem dX3_distanceOf_13 : decode cX3_distanceOf 13 = .ok (.aload_n 0, 1) := by decide +kernel
theorem dX3_distanceOf_14 : decode cX3_distanceOf 14 = .ok (.iload_n 1, 1) := by decide +kernel
theorem dX3_distanceOf_15 : decode cX3_distanceOf 15 = .ok (.iload_n 2, 1) := by decide +kernel
theorem dX3_distanceOf_16 : decode cX3_distanceOf 16 = .ok (.invokevirtual 58, 3) := by decide +kernel
theorem dX3_distanceOf_19 : decode cX3_distanceOf 19 = .ok (.invokevirtual 54, 3) := by decide +kernel
theorem dX3_distanceOf_22 : decode cX3_distanceOf 22 = .ok (.imul, 1) := by decide +kernel
theorem dX3_distanceOf_23 : decode cX3_distanceOf 23 = .ok (.isub, 1) := by decide +kernel
theorem dX3_distanceOf_24 : decode cX3_distanceOf 24 = .ok (.ireturn, 1) := by decide +kernel
set_option maxRecDepth 20000 in
theorem ggX3_distance_X3_wrongPair : GoodIn wsX3_distance wsX3_wrongPair := goodIn_r _ [5, 6, 7, 8, 9, 10, 4, 11, 12, 13, 14, 15, 16, 17, 18, 19, 20, 21, 22, 23, 24, 25, 26, 27, 28, 29, 30, 31, 44, 45, 46, 47, 48] (by decide +kernel) (by decide +kernel)
set_option maxRecDepth 20000 in
theorem gX3_distance_X3_wrongPair : GoodIn wsX3_distance (wsV RX3 66 RX3 yX3_wrongPair wsX3_wrongPair) := goodIn_app (goodIn_of _ (by decide +kernel)) ggX3_distance_X3_wrongPair
set_option maxRecDepth 20000 in
theorem ggX3_distance_X3_distanceOf : GoodIn wsX3_distance wsX3_distanceOf := goodIn_r _ [35, 36, 37, 38, 4, 39, 24, 25, 26, 27, 28, 29, 30, 31, 16, 40, 41, 42, 43, 44, 45, 46, 47, 48] (by decide +kernel) (by decide +kernel)
set_option maxRecDepth 20000 in
theorem gX3_distance_X3_distanceOf : GoodIn wsX3_distance (wsV RX3 69 RX3 yX3_distanceOf wsX3_distanceOf) := goodIn_app (goodIn_of _ (by decide +kernel)) ggX3_distance_X3_distanceOf
theorem dX3_distance_0 : decode cX3_distance 0 = .ok (.aload_n 0, 1) := by decide +kernel
theorem dX3_distance_1 : decode cX3_distance 1 = .ok (.iload_n 1, 1) := by decide +kernel
theorem dX3_distance_2 : decode cX3_distance 2 = .ok (.iload_n 2, 1) := by decide +kernel
theorem dX3_distance_3 : decode cX3_distance 3 = .ok (.invokevirtual 66, 3) := by decide +kernel
theorem dX3_distance_6 : decode cX3_distance 6 = .ok (.istore_n 3, 1) := by decide +kernel
theorem dX3_distance_7 : decode cX3_distance 7 = .ok (.iload_n 3, 1) := by decide +kernel
theorem dX3_distance_8 : decode cX3_distance 8 = .ok (.ifCond .eq 7, 3) := by decide +kernel
theorem dX3_distance_11 : decode cX3_distance 11 = .ok (.iload_n 3, 1) := by decide +kernel
theorem dX3_distance_12 : decode cX3_distance 12 = .ok (.goto 9, 3) := by decide +kernel
theorem dX3_distance_15 : decode cX3_distance 15 = .ok (.aload_n 0, 1) := by decide +kernel
theorem dX3_distance_16 : decode cX3_distance 16 = .ok (.iload_n 1, 1) := by decide +kernel
theorem dX3_distance_17 : decode cX3_distance 17 = .ok (.iload_n 2, 1) := by decide +kernel
theorem dX3_distance_18 : decode cX3_distance 18 = .ok (.invokevirtual 69, 3) := by decide +kernel
theorem dX3_distance_21 : decode cX3_distance 21 = .ok (.ireturn, 1) := by decide +kernel
set_option maxRecDepth 20000 in
theorem ggX3_pathVertex_X3_wrongPair : GoodIn wsX3_pathVertex wsX3_wrongPair := goodIn_r _ [8, 9, 10, 11, 12, 13, 7, 14, 15, 16, 17, 18, 19, 20, 21, 22, 23, 24, 25, 26, 27, 28, 29, 30, 31, 32, 33, 34, 47, 48, 49, 50, 51] (by decide +kernel) (by decide +kernel)
set_option maxRecDepth 20000 in
theorem gX3_pathVertex_X3_wrongPair : GoodIn wsX3_pathVertex (wsV RX3 66 RX3 yX3_wrongPair wsX3_wrongPair) := goodIn_app (goodIn_of _ (by decide +kernel)) ggX3_pathVertex_X3_wrongPair
set_option maxRecDepth 20000 in
theorem ggX3_pathVertex_X3_layPath : GoodIn wsX3_pathVertex wsX3_layPath := goodIn_r _ [38, 1, 2, 39, 40, 41, 7, 42, 43, 44, 45, 46, 27, 28, 29, 30, 31, 32, 33, 34, 19, 47, 48, 49, 50, 51] (by decide +kernel) (by decide +kernel)
set_option maxRecDepth 20000 in
theorem gX3_pathVertex_X3_layPath : GoodIn wsX3_pathVertex (wsV RX3 72 RX3 yX3_layPath wsX3_layPath) := goodIn_app (goodIn_of _ (by decide +kernel)) ggX3_pathVertex_X3_layPath
set_option maxRecDepth 20000 in
theorem ggX3_pathVertex_X3_in : GoodIn wsX3_pathVertex wsX3_in := goodIn_r _ [22] (by decide +kernel) (by decide +kernel)
set_option maxRecDepth 20000 in
theorem gX3_pathVertex_X3_in : GoodIn wsX3_pathVertex (va_wsS RX3 31 yX3_in wsX3_in) := goodIn_app (goodIn_of _ (by decide +kernel)) ggX3_pathVertex_X3_in
theorem dX3_pathVertex_0 : decode cX3_pathVertex 0 = .ok (.aload_n 0, 1) := by decide +kernel
theorem dX3_pathVertex_1 : decode cX3_pathVertex 1 = .ok (.iload_n 1, 1) := by decide +kernel
theorem dX3_pathVertex_2 : decode cX3_pathVertex 2 = .ok (.iload_n 2, 1) := by decide +kernel
theorem dX3_pathVertex_3 : decode cX3_pathVertex 3 = .ok (.invokevirtual 66, 3) := by decide +kernel
theorem dX3_pathVertex_6 : decode cX3_pathVertex 6 = .ok (.istore 4, 2) := by decide +kernel
theorem dX3_pathVertex_8 : decode cX3_pathVertex 8 = .ok (.iload 4, 2) := by decide +kernel
theorem dX3_pathVertex_10 : decode cX3_pathVertex 10 = .ok (.ifCond .eq 6, 3) := by decide +kernel
theorem dX3_pathVertex_13 : decode cX3_pathVertex 13 = .ok (.iload 4, 2) := by decide +kernel
theorem dX3_pathVertex_15 : decode cX3_pathVertex 15 = .ok (.ireturn, 1) := by decide +kernel
theorem dX3_pathVertex_16 : decode cX3_pathVertex 16 = .ok (.aload_n 0, 1) := by decide +kernel
theorem dX3_pathVertex_17 : decode cX3_pathVertex 17 = .ok (.iload_n 1, 1) := by decide +kernel
theorem dX3_pathVertex_18 : decode cX3_pathVertex 18 = .ok (.iload_n 2, 1) := by decide +kernel
theorem dX3_pathVertex_19 : decode cX3_pathVertex 19 = .ok (.invokevirtual 72, 3) := by decide +kernel
theorem dX3_pathVertex_22 : decode cX3_pathVertex 22 = .ok (.iload_n 3, 1) := by decide +kernel
theorem dX3_pathVertex_23 : decode cX3_pathVertex 23 = .ok (.iconst 0, 1) := by decide +kernel
theorem dX3_pathVertex_24 : decode cX3_pathVertex 24 = .ok (.aload_n 0, 1) := by decide +kernel
theorem dX3_pathVertex_25 : decode cX3_pathVertex 25 = .ok (.getfield 62, 3) := by decide +kernel
theorem dX3_pathVertex_28 : decode cX3_pathVertex 28 = .ok (.iconst 1, 1) := by decide +kernel
theorem dX3_pathVertex_29 : decode cX3_pathVertex 29 = .ok (.isub, 1) := by decide +kernel
theorem dX3_pathVertex_30 : decode cX3_pathVertex 30 = .ok (.invokestatic 31, 3) := by decide +kernel
theorem dX3_pathVertex_33 : decode cX3_pathVertex 33 = .ok (.ifCond .eq 12, 3) := by decide +kernel
theorem dX3_pathVertex_36 : decode cX3_pathVertex 36 = .ok (.aload_n 0, 1) := by decide +kernel
theorem dX3_pathVertex_37 : decode cX3_pathVertex 37 = .ok (.getfield 20, 3) := by decide +kernel
theorem dX3_pathVertex_40 : decode cX3_pathVertex 40 = .ok (.iload_n 3, 1) := by decide +kernel
theorem dX3_pathVertex_41 : decode cX3_pathVertex 41 = .ok (.iaload, 1) := by decide +kernel
theorem dX3_pathVertex_42 : decode cX3_pathVertex 42 = .ok (.goto 5, 3) := by decide +kernel
theorem dX3_pathVertex_45 : decode cX3_pathVertex 45 = .ok (.ldc 53, 2) := by decide +kernel
theorem dX3_pathVertex_47 : decode cX3_pathVertex 47 = .ok (.ireturn, 1) := by decide +kernel
set_option maxRecDepth 20000 in
theorem ggX3_pathSum_X3_wrongPair : GoodIn wsX3_pathSum wsX3_wrongPair := goodIn_r _ [7, 8, 9, 10, 11, 12, 6, 13, 14, 15, 16, 17, 18, 19, 20, 21, 22, 23, 24, 25, 26, 27, 28, 29, 30, 31, 32, 33, 50, 51, 52, 53, 54] (by decide +kernel) (by decide +kernel)
set_option maxRecDepth 20000 in
theorem gX3_pathSum_X3_wrongPair : GoodIn wsX3_pathSum (wsV RX3 66 RX3 yX3_wrongPair wsX3_wrongPair) := goodIn_app (goodIn_of _ (by decide +kernel)) ggX3_pathSum_X3_wrongPair
set_option maxRecDepth 20000 in
theorem ggX3_pathSum_X3_layPath : GoodIn wsX3_pathSum wsX3_layPath := goodIn_r _ [37, 1, 2, 38, 39, 40, 6, 41, 42, 43, 44, 45, 26, 27, 28, 29, 30, 31, 32, 33, 18, 50, 51, 52, 53, 54] (by decide +kernel) (by decide +kernel)
set_option maxRecDepth 20000 in
theorem gX3_pathSum_X3_layPath : GoodIn wsX3_pathSum (wsV RX3 72 RX3 yX3_layPath wsX3_layPath) := goodIn_app (goodIn_of _ (by decide +kernel)) ggX3_pathSum_X3_layPath
set_option maxRecDepth 20000 in
theorem ggX3_pathSum_X3_valueOf : GoodIn wsX3_pathSum wsX3_valueOf := goodIn_r _ [49, 18, 50, 51, 52, 53, 54] (by decide +kernel) (by decide +kernel)
set_option maxRecDepth 20000 in
theorem gX3_pathSum_X3_valueOf : GoodIn wsX3_pathSum (wsV RX3 76 RX3 yX3_valueOf wsX3_valueOf) := goodIn_app (goodIn_of _ (by decide +kernel)) ggX3_pathSum_X3_valueOf
theorem dX3_pathSum_0 : decode cX3_pathSum 0 = .ok (.aload_n 0, 1) := by decide +kernel
theorem dX3_pathSum_1 : decode cX3_pathSum 1 = .ok (.iload_n 1, 1) := by decide +kernel
theorem dX3_pathSum_2 : decode cX3_pathSum 2 = .ok (.iload_n 2, 1) := by decide +kernel
theorem dX3_pathSum_3 : decode cX3_pathSum 3 = .ok (.invokevirtual 66, 3) := by decide +kernel
theorem dX3_pathSum_6 : decode cX3_pathSum 6 = .ok (.istore_n 3, 1) := by decide +kernel
theorem dX3_pathSum_7 : decode cX3_pathSum 7 = .ok (.iload_n 3, 1) := by decide +kernel
theorem dX3_pathSum_8 : decode cX3_pathSum 8 = .ok (.ifCond .eq 5, 3) := by decide +kernel
theorem dX3_pathSum_11 : decode cX3_pathSum 11 = .ok (.iload_n 3, 1) := by decide +kernel
theorem dX3_pathSum_12 : decode cX3_pathSum 12 = .ok (.ireturn, 1) := by decide +kernel
theorem dX3_pathSum_13 : decode cX3_pathSum 13 = .ok (.aload_n 0, 1) := by decide +kernel
theorem dX3_pathSum_14 : decode cX3_pathSum 14 = .ok (.iload_n 1, 1) := by decide +kernel
theorem dX3_pathSum_15 : decode cX3_pathSum 15 = .ok (.iload_n 2, 1) := by decide +kernel
theorem dX3_pathSum_16 : decode cX3_pathSum 16 = .ok (.invokevirtual 72, 3) := by decide +kernel
theorem dX3_pathSum_19 : decode cX3_pathSum 19 = .ok (.iconst 0, 1) := by decide +kernel
theorem dX3_pathSum_20 : decode cX3_pathSum 20 = .ok (.istore 4, 2) := by decide +kernel
theorem dX3_pathSum_22 : decode cX3_pathSum 22 = .ok (.iconst 0, 1) := by decide +kernel
theorem dX3_pathSum_23 : decode cX3_pathSum 23 = .ok (.istore 5, 2) := by decide +kernel
theorem dX3_pathSum_25 : decode cX3_pathSum 25 = .ok (.iload 5, 2) := by decide +kernel
theorem dX3_pathSum_27 : decode cX3_pathSum 27 = .ok (.aload_n 0, 1) := by decide +kernel
theorem dX3_pathSum_28 : decode cX3_pathSum 28 = .ok (.getfield 62, 3) := by decide +kernel
theorem dX3_pathSum_31 : decode cX3_pathSum 31 = .ok (.if_icmp .ge 25, 3) := by decide +kernel
theorem dX3_pathSum_34 : decode cX3_pathSum 34 = .ok (.iload 4, 2) := by decide +kernel
theorem dX3_pathSum_36 : decode cX3_pathSum 36 = .ok (.aload_n 0, 1) := by decide +kernel
theorem dX3_pathSum_37 : decode cX3_pathSum 37 = .ok (.aload_n 0, 1) := by decide +kernel
theorem dX3_pathSum_38 : decode cX3_pathSum 38 = .ok (.getfield 20, 3) := by decide +kernel
theorem dX3_pathSum_41 : decode cX3_pathSum 41 = .ok (.iload 5, 2) := by decide +kernel
theorem dX3_pathSum_43 : decode cX3_pathSum 43 = .ok (.iaload, 1) := by decide +kernel
theorem dX3_pathSum_44 : decode cX3_pathSum 44 = .ok (.invokevirtual 76, 3) := by decide +kernel
theorem dX3_pathSum_47 : decode cX3_pathSum 47 = .ok (.iadd, 1) := by decide +kernel
theorem dX3_pathSum_48 : decode cX3_pathSum 48 = .ok (.istore 4, 2) := by decide +kernel
theorem dX3_pathSum_50 : decode cX3_pathSum 50 = .ok (.iinc 5 1, 3) := by decide +kernel
theorem dX3_pathSum_53 : decode cX3_pathSum 53 = .ok (.goto (-28), 3) := by decide +kernel
theorem dX3_pathSum_56 : decode cX3_pathSum 56 = .ok (.iload 4, 2) := by decide +kernel
theorem dX3_pathSum_58 : decode cX3_pathSum 58 = .ok (.ireturn, 1) := by decide +kernel
set_option maxRecDepth 20000 in
theorem ggX3_farthest_X3_valueOf : GoodIn wsX3_farthest wsX3_valueOf := goodIn_r _ [7, 8, 9, 10, 11, 12, 13] (by decide +kernel) (by decide +kernel)
set_option maxRecDepth 20000 in
theorem gX3_farthest_X3_valueOf : GoodIn wsX3_farthest (wsV RX3 76 RX3 yX3_valueOf wsX3_valueOf) := goodIn_app (goodIn_of _ (by decide +kernel)) ggX3_farthest_X3_valueOf
theorem dX3_farthest_0 : decode cX3_farthest 0 = .ok (.aload_n 0, 1) := by decide +kernel
theorem dX3_farthest_1 : decode cX3_farthest 1 = .ok (.getfield 20, 3) := by decide +kernel
theorem dX3_farthest_4 : decode cX3_farthest 4 = .ok (.iconst 0, 1) := by decide +kernel
theorem dX3_farthest_5 : decode cX3_farthest 5 = .ok (.iaload, 1) := by decide +kernel
theorem dX3_farthest_6 : decode cX3_farthest 6 = .ok (.istore_n 2, 1) := by decide +kernel
theorem dX3_farthest_7 : decode cX3_farthest 7 = .ok (.iconst 1, 1) := by decide +kernel
theorem dX3_farthest_8 : decode cX3_farthest 8 = .ok (.istore_n 3, 1) := by decide +kernel
theorem dX3_farthest_9 : decode cX3_farthest 9 = .ok (.iload_n 3, 1) := by decide +kernel
theorem dX3_farthest_10 : decode cX3_farthest 10 = .ok (.aload_n 0, 1) := by decide +kernel
theorem dX3_farthest_11 : decode cX3_farthest 11 = .ok (.getfield 62, 3) := by decide +kernel
theorem dX3_farthest_14 : decode cX3_farthest 14 = .ok (.if_icmp .ge 42, 3) := by decide +kernel
theorem dX3_farthest_17 : decode cX3_farthest 17 = .ok (.iload_n 1, 1) := by decide +kernel
theorem dX3_farthest_18 : decode cX3_farthest 18 = .ok (.aload_n 0, 1) := by decide +kernel
theorem dX3_farthest_19 : decode cX3_farthest 19 = .ok (.aload_n 0, 1) := by decide +kernel
theorem dX3_farthest_20 : decode cX3_farthest 20 = .ok (.getfield 20, 3) := by decide +kernel
theorem dX3_farthest_23 : decode cX3_farthest 23 = .ok (.iload_n 3, 1) := by decide +kernel
theorem dX3_farthest_24 : decode cX3_farthest 24 = .ok (.iaload, 1) := by decide +kernel
theorem dX3_farthest_25 : decode cX3_farthest 25 = .ok (.invokevirtual 76, 3) := by decide +kernel
theorem dX3_farthest_28 : decode cX3_farthest 28 = .ok (.imul, 1) := by decide +kernel
theorem dX3_farthest_29 : decode cX3_farthest 29 = .ok (.iload_n 1, 1) := by decide +kernel
theorem dX3_farthest_30 : decode cX3_farthest 30 = .ok (.aload_n 0, 1) := by decide +kernel
theorem dX3_farthest_31 : decode cX3_farthest 31 = .ok (.iload_n 2, 1) := by decide +kernel
theorem dX3_farthest_32 : decode cX3_farthest 32 = .ok (.invokevirtual 76, 3) := by decide +kernel
theorem dX3_farthest_35 : decode cX3_farthest 35 = .ok (.imul, 1) := by decide +kernel
theorem dX3_farthest_36 : decode cX3_farthest 36 = .ok (.if_icmp .le 12, 3) := by decide +kernel
theorem dX3_farthest_39 : decode cX3_farthest 39 = .ok (.aload_n 0, 1) := by decide +kernel
theorem dX3_farthest_40 : decode cX3_farthest 40 = .ok (.getfield 20, 3) := by decide +kernel
theorem dX3_farthest_43 : decode cX3_farthest 43 = .ok (.iload_n 3, 1) := by decide +kernel
theorem dX3_farthest_44 : decode cX3_farthest 44 = .ok (.iaload, 1) := by decide +kernel
theorem dX3_farthest_45 : decode cX3_farthest 45 = .ok (.goto 4, 3) := by decide +kernel
theorem dX3_farthest_48 : decode cX3_farthest 48 = .ok (.iload_n 2, 1) := by decide +kernel
theorem dX3_farthest_49 : decode cX3_farthest 49 = .ok (.istore_n 2, 1) := by decide +kernel
theorem dX3_farthest_50 : decode cX3_farthest 50 = .ok (.iinc 3 1, 3) := by decide +kernel
theorem dX3_farthest_53 : decode cX3_farthest 53 = .ok (.goto (-44), 3) := by decide +kernel
theorem dX3_farthest_56 : decode cX3_farthest 56 = .ok (.iload_n 2, 1) := by decide +kernel
theorem dX3_farthest_57 : decode cX3_farthest 57 = .ok (.ireturn, 1) := by decide +kernel
set_option maxRecDepth 20000 in
theorem ggX3_pathMinimum_X3_wrongPair : GoodIn wsX3_pathMinimum wsX3_wrongPair := goodIn_r _ [5, 6, 7, 8, 9, 10, 4, 11, 12, 13, 14, 15, 16, 17, 18, 19, 20, 21, 22, 23, 24, 25, 26, 27, 28, 29, 30, 31, 54, 55, 56, 57, 58] (by decide +kernel) (by decide +kernel)
set_option maxRecDepth 20000 in
theorem gX3_pathMinimum_X3_wrongPair : GoodIn wsX3_pathMinimum (wsV RX3 66 RX3 yX3_wrongPair wsX3_wrongPair) := goodIn_app (goodIn_of _ (by decide +kernel)) ggX3_pathMinimum_X3_wrongPair
set_option maxRecDepth 20000 in
theorem ggX3_pathMinimum_X3_layPath : GoodIn wsX3_pathMinimum wsX3_layPath := goodIn_r _ [35, 36, 37, 38, 39, 40, 4, 41, 42, 43, 44, 45, 24, 25, 26, 27, 28, 29, 30, 31, 16, 54, 55, 56, 57, 58] (by decide +kernel) (by decide +kernel)
set_option maxRecDepth 20000 in
theorem gX3_pathMinimum_X3_layPath : GoodIn wsX3_pathMinimum (wsV RX3 72 RX3 yX3_layPath wsX3_layPath) := goodIn_app (goodIn_of _ (by decide +kernel)) ggX3_pathMinimum_X3_layPath
set_option maxRecDepth 20000 in
theorem ggX3_pathMinimum_X3_farthest : GoodIn wsX3_pathMinimum wsX3_farthest := goodIn_r _ [49, 37, 36, 50, 51, 52, 4, 53, 16, 54, 55, 56, 57, 58] (by decide +kernel) (by decide +kernel)
set_option maxRecDepth 20000 in
theorem gX3_pathMinimum_X3_farthest : GoodIn wsX3_pathMinimum (wsV RX3 79 RX3 yX3_farthest wsX3_farthest) := goodIn_app (goodIn_of _ (by decide +kernel)) ggX3_pathMinimum_X3_farthest
theorem dX3_pathMinimum_0 : decode cX3_pathMinimum 0 = .ok (.aload_n 0, 1) := by decide +kernel
theorem dX3_pathMinimum_1 : decode cX3_pathMinimum 1 = .ok (.iload_n 1, 1) := by decide +kernel
theorem dX3_pathMinimum_2 : decode cX3_pathMinimum 2 = .ok (.iload_n 2, 1) := by decide +kernel
theorem dX3_pathMinimum_3 : decode cX3_pathMinimum 3 = .ok (.invokevirtual 66, 3) := by decide +kernel
theorem dX3_pathMinimum_6 : decode cX3_pathMinimum 6 = .ok (.istore_n 3, 1) := by decide +kernel
theorem dX3_pathMinimum_7 : decode cX3_pathMinimum 7 = .ok (.iload_n 3, 1) := by decide +kernel
theorem dX3_pathMinimum_8 : decode cX3_pathMinimum 8 = .ok (.ifCond .eq 5, 3) := by decide +kernel
theorem dX3_pathMinimum_11 : decode cX3_pathMinimum 11 = .ok (.iload_n 3, 1) := by decide +kernel
theorem dX3_pathMinimum_12 : decode cX3_pathMinimum 12 = .ok (.ireturn, 1) := by decide +kernel
theorem dX3_pathMinimum_13 : decode cX3_pathMinimum 13 = .ok (.aload_n 0, 1) := by decide +kernel
theorem dX3_pathMinimum_14 : decode cX3_pathMinimum 14 = .ok (.iload_n 1, 1) := by decide +kernel
theorem dX3_pathMinimum_15 : decode cX3_pathMinimum 15 = .ok (.iload_n 2, 1) := by decide +kernel
theorem dX3_pathMinimum_16 : decode cX3_pathMinimum 16 = .ok (.invokevirtual 72, 3) := by decide +kernel
theorem dX3_pathMinimum_19 : decode cX3_pathMinimum 19 = .ok (.aload_n 0, 1) := by decide +kernel
theorem dX3_pathMinimum_20 : decode cX3_pathMinimum 20 = .ok (.iconst (-1), 1) := by decide +kernel
theorem dX3_pathMinimum_21 : decode cX3_pathMinimum 21 = .ok (.invokevirtual 79, 3) := by decide +kernel
theorem dX3_pathMinimum_24 : decode cX3_pathMinimum 24 = .ok (.ireturn, 1) := by decide +kernel
set_option maxRecDepth 20000 in
theorem ggX3_pathMaximum_X3_wrongPair : GoodIn wsX3_pathMaximum wsX3_wrongPair := goodIn_r _ [5, 6, 7, 8, 9, 10, 4, 11, 12, 13, 14, 15, 16, 17, 18, 19, 20, 21, 22, 23, 24, 25, 26, 27, 28, 29, 30, 31, 54, 55, 56, 57, 58] (by decide +kernel) (by decide +kernel)
set_option maxRecDepth 20000 in
theorem gX3_pathMaximum_X3_wrongPair : GoodIn wsX3_pathMaximum (wsV RX3 66 RX3 yX3_wrongPair wsX3_wrongPair) := goodIn_app (goodIn_of _ (by decide +kernel)) ggX3_pathMaximum_X3_wrongPair
set_option maxRecDepth 20000 in
theorem ggX3_pathMaximum_X3_layPath : GoodIn wsX3_pathMaximum wsX3_layPath := goodIn_r _ [35, 36, 37, 38, 39, 40, 4, 41, 42, 43, 44, 45, 24, 25, 26, 27, 28, 29, 30, 31, 16, 54, 55, 56, 57, 58] (by decide +kernel) (by decide +kernel)
set_option maxRecDepth 20000 in
theorem gX3_pathMaximum_X3_layPath : GoodIn wsX3_pathMaximum (wsV RX3 72 RX3 yX3_layPath wsX3_layPath) := goodIn_app (goodIn_of _ (by decide +kernel)) ggX3_pathMaximum_X3_layPath
set_option maxRecDepth 20000 in
theorem ggX3_pathMaximum_X3_farthest : GoodIn wsX3_pathMaximum wsX3_farthest := goodIn_r _ [49, 37, 36, 50, 51, 52, 4, 53, 16, 54, 55, 56, 57, 58] (by decide +kernel) (by decide +kernel)
set_option maxRecDepth 20000 in
theorem gX3_pathMaximum_X3_farthest : GoodIn wsX3_pathMaximum (wsV RX3 79 RX3 yX3_farthest wsX3_farthest) := goodIn_app (goodIn_of _ (by decide +kernel)) ggX3_pathMaximum_X3_farthest
theorem dX3_pathMaximum_0 : decode cX3_pathMaximum 0 = .ok (.aload_n 0, 1) := by decide +kernel
theorem dX3_pathMaximum_1 : decode cX3_pathMaximum 1 = .ok (.iload_n 1, 1) := by decide +kernel
theorem dX3_pathMaximum_2 : decode cX3_pathMaximum 2 = .ok (.iload_n 2, 1) := by decide +kernel
theorem dX3_pathMaximum_3 : decode cX3_pathMaximum 3 = .ok (.invokevirtual 66, 3) := by decide +kernel
theorem dX3_pathMaximum_6 : decode cX3_pathMaximum 6 = .ok (.istore_n 3, 1) := by decide +kernel
theorem dX3_pathMaximum_7 : decode cX3_pathMaximum 7 = .ok (.iload_n 3, 1) := by decide +kernel
theorem dX3_pathMaximum_8 : decode cX3_pathMaximum 8 = .ok (.ifCond .eq 5, 3) := by decide +kernel
theorem dX3_pathMaximum_11 : decode cX3_pathMaximum 11 = .ok (.iload_n 3, 1) := by decide +kernel
theorem dX3_pathMaximum_12 : decode cX3_pathMaximum 12 = .ok (.ireturn, 1) := by decide +kernel
theorem dX3_pathMaximum_13 : decode cX3_pathMaximum 13 = .ok (.aload_n 0, 1) := by decide +kernel
theorem dX3_pathMaximum_14 : decode cX3_pathMaximum 14 = .ok (.iload_n 1, 1) := by decide +kernel
theorem dX3_pathMaximum_15 : decode cX3_pathMaximum 15 = .ok (.iload_n 2, 1) := by decide +kernel
theorem dX3_pathMaximum_16 : decode cX3_pathMaximum 16 = .ok (.invokevirtual 72, 3) := by decide +kernel
theorem dX3_pathMaximum_19 : decode cX3_pathMaximum 19 = .ok (.aload_n 0, 1) := by decide +kernel
theorem dX3_pathMaximum_20 : decode cX3_pathMaximum 20 = .ok (.iconst 1, 1) := by decide +kernel
theorem dX3_pathMaximum_21 : decode cX3_pathMaximum 21 = .ok (.invokevirtual 79, 3) := by decide +kernel
theorem dX3_pathMaximum_24 : decode cX3_pathMaximum 24 = .ok (.ireturn, 1) := by decide +kernel
set_option maxRecDepth 20000 in
theorem ggX3_reach_X3_wrongPair : GoodIn wsX3_reach wsX3_wrongPair := goodIn_r _ [8, 9, 10, 11, 12, 13, 7, 14, 15, 16, 17, 18, 19, 20, 21, 22, 23, 24, 25, 26, 27, 28, 29, 30, 31, 32, 33, 34, 51, 52, 53, 54, 55] (by decide +kernel) (by decide +kernel)
set_option maxRecDepth 20000 in
theorem gX3_reach_X3_wrongPair : GoodIn wsX3_reach (wsV RX3 66 RX3 yX3_wrongPair wsX3_wrongPair) := goodIn_app (goodIn_of _ (by decide +kernel)) ggX3_reach_X3_wrongPair
set_option maxRecDepth 20000 in
theorem ggX3_reach_X3_layPath : GoodIn wsX3_reach wsX3_layPath := goodIn_r _ [38, 1, 2, 39, 40, 41, 7, 42, 43, 44, 45, 46, 27, 28, 29, 30, 31, 32, 33, 34, 19, 51, 52, 53, 54, 55] (by decide +kernel) (by decide +kernel)
set_option maxRecDepth 20000 in
theorem gX3_reach_X3_layPath : GoodIn wsX3_reach (wsV RX3 72 RX3 yX3_layPath wsX3_layPath) := goodIn_app (goodIn_of _ (by decide +kernel)) ggX3_reach_X3_layPath
set_option maxRecDepth 20000 in
theorem ggX3_reach_X3_valueOf : GoodIn wsX3_reach wsX3_valueOf := goodIn_r _ [50, 19, 51, 52, 53, 54, 55] (by decide +kernel) (by decide +kernel)
set_option maxRecDepth 20000 in
theorem gX3_reach_X3_valueOf : GoodIn wsX3_reach (wsV RX3 76 RX3 yX3_valueOf wsX3_valueOf) := goodIn_app (goodIn_of _ (by decide +kernel)) ggX3_reach_X3_valueOf
theorem dX3_reach_0 : decode cX3_reach 0 = .ok (.aload_n 0, 1) := by decide +kernel
theorem dX3_reach_1 : decode cX3_reach 1 = .ok (.iload_n 1, 1) := by decide +kernel
theorem dX3_reach_2 : decode cX3_reach 2 = .ok (.iload_n 2, 1) := by decide +kernel
theorem dX3_reach_3 : decode cX3_reach 3 = .ok (.invokevirtual 66, 3) := by decide +kernel
theorem dX3_reach_6 : decode cX3_reach 6 = .ok (.istore 4, 2) := by decide +kernel
theorem dX3_reach_8 : decode cX3_reach 8 = .ok (.iload 4, 2) := by decide +kernel
theorem dX3_reach_10 : decode cX3_reach 10 = .ok (.ifCond .eq 6, 3) := by decide +kernel
theorem dX3_reach_13 : decode cX3_reach 13 = .ok (.iload 4, 2) := by decide +kernel
theorem dX3_reach_15 : decode cX3_reach 15 = .ok (.ireturn, 1) := by decide +kernel
theorem dX3_reach_16 : decode cX3_reach 16 = .ok (.aload_n 0, 1) := by decide +kernel
theorem dX3_reach_17 : decode cX3_reach 17 = .ok (.iload_n 1, 1) := by decide +kernel
theorem dX3_reach_18 : decode cX3_reach 18 = .ok (.iload_n 2, 1) := by decide +kernel
theorem dX3_reach_19 : decode cX3_reach 19 = .ok (.invokevirtual 72, 3) := by decide +kernel
theorem dX3_reach_22 : decode cX3_reach 22 = .ok (.iconst 0, 1) := by decide +kernel
theorem dX3_reach_23 : decode cX3_reach 23 = .ok (.istore 5, 2) := by decide +kernel
theorem dX3_reach_25 : decode cX3_reach 25 = .ok (.iconst 0, 1) := by decide +kernel
theorem dX3_reach_26 : decode cX3_reach 26 = .ok (.istore 6, 2) := by decide +kernel
theorem dX3_reach_28 : decode cX3_reach 28 = .ok (.iload 6, 2) := by decide +kernel
theorem dX3_reach_30 : decode cX3_reach 30 = .ok (.aload_n 0, 1) := by decide +kernel
theorem dX3_reach_31 : decode cX3_reach 31 = .ok (.getfield 62, 3) := by decide +kernel
theorem dX3_reach_34 : decode cX3_reach 34 = .ok (.if_icmp .ge 39, 3) := by decide +kernel
theorem dX3_reach_37 : decode cX3_reach 37 = .ok (.iload 5, 2) := by decide +kernel
theorem dX3_reach_39 : decode cX3_reach 39 = .ok (.aload_n 0, 1) := by decide +kernel
theorem dX3_reach_40 : decode cX3_reach 40 = .ok (.aload_n 0, 1) := by decide +kernel
theorem dX3_reach_41 : decode cX3_reach 41 = .ok (.getfield 20, 3) := by decide +kernel
theorem dX3_reach_44 : decode cX3_reach 44 = .ok (.iload 6, 2) := by decide +kernel
theorem dX3_reach_46 : decode cX3_reach 46 = .ok (.iaload, 1) := by decide +kernel
theorem dX3_reach_47 : decode cX3_reach 47 = .ok (.invokevirtual 76, 3) := by decide +kernel
theorem dX3_reach_50 : decode cX3_reach 50 = .ok (.iadd, 1) := by decide +kernel
theorem dX3_reach_51 : decode cX3_reach 51 = .ok (.istore 5, 2) := by decide +kernel
theorem dX3_reach_53 : decode cX3_reach 53 = .ok (.iload 5, 2) := by decide +kernel
theorem dX3_reach_55 : decode cX3_reach 55 = .ok (.iload_n 3, 1) := by decide +kernel
theorem dX3_reach_56 : decode cX3_reach 56 = .ok (.if_icmp .lt 11, 3) := by decide +kernel
theorem dX3_reach_59 : decode cX3_reach 59 = .ok (.aload_n 0, 1) := by decide +kernel
theorem dX3_reach_60 : decode cX3_reach 60 = .ok (.getfield 20, 3) := by decide +kernel
theorem dX3_reach_63 : decode cX3_reach 63 = .ok (.iload 6, 2) := by decide +kernel
theorem dX3_reach_65 : decode cX3_reach 65 = .ok (.iaload, 1) := by decide +kernel
theorem dX3_reach_66 : decode cX3_reach 66 = .ok (.ireturn, 1) := by decide +kernel
theorem dX3_reach_67 : decode cX3_reach 67 = .ok (.iinc 6 1, 3) := by decide +kernel
theorem dX3_reach_70 : decode cX3_reach 70 = .ok (.goto (-42), 3) := by decide +kernel
theorem dX3_reach_73 : decode cX3_reach 73 = .ok (.ldc 53, 2) := by decide +kernel
theorem dX3_reach_75 : decode cX3_reach 75 = .ok (.ireturn, 1) := by decide +kernel
set_option maxRecDepth 20000 in
theorem ggX3_isValue_X3_in : GoodIn wsX3_isValue wsX3_in := goodIn_r _ [6] (by decide +kernel) (by decide +kernel)
set_option maxRecDepth 20000 in
theorem gX3_isValue_X3_in : GoodIn wsX3_isValue (va_wsS RX3 31 yX3_in wsX3_in) := goodIn_app (goodIn_of _ (by decide +kernel)) ggX3_isValue_X3_in
theorem dX3_isValue_0 : decode cX3_isValue 0 = .ok (.iload_n 0, 1) := by decide +kernel
theorem dX3_isValue_1 : decode cX3_isValue 1 = .ok (.ldc 82, 2) := by decide +kernel
theorem dX3_isValue_3 : decode cX3_isValue 3 = .ok (.ldc 83, 2) := by decide +kernel
theorem dX3_isValue_5 : decode cX3_isValue 5 = .ok (.invokestatic 31, 3) := by decide +kernel
theorem dX3_isValue_8 : decode cX3_isValue 8 = .ok (.ireturn, 1) := by decide +kernel
set_option maxRecDepth 20000 in
theorem ggX3_addOnPath_X3_wrongPair : GoodIn wsX3_addOnPath wsX3_wrongPair := goodIn_r _ [10, 11, 12, 13, 14, 15, 9, 16, 17, 18, 19, 20, 5, 21, 22, 23, 24, 25, 26, 27, 28, 29, 30, 31, 32, 33, 34, 35, 57, 58, 59, 60, 61] (by decide +kernel) (by decide +kernel)
set_option maxRecDepth 20000 in
theorem gX3_addOnPath_X3_wrongPair : GoodIn wsX3_addOnPath (wsV RX3 66 RX3 yX3_wrongPair wsX3_wrongPair) := goodIn_app (goodIn_of _ (by decide +kernel)) ggX3_addOnPath_X3_wrongPair
set_option maxRecDepth 20000 in
theorem ggX3_addOnPath_X3_isValue : GoodIn wsX3_addOnPath wsX3_isValue := goodIn_r _ [38, 39, 40, 21, 22, 9, 23] (by decide +kernel) (by decide +kernel)
set_option maxRecDepth 20000 in
theorem gX3_addOnPath_X3_isValue : GoodIn wsX3_addOnPath (va_wsS RX3 84 yX3_isValue wsX3_isValue) := goodIn_app (goodIn_of _ (by decide +kernel)) ggX3_addOnPath_X3_isValue
set_option maxRecDepth 20000 in
theorem ggX3_addOnPath_X3_layPath : GoodIn wsX3_addOnPath wsX3_layPath := goodIn_r _ [44, 2, 3, 45, 46, 47, 9, 48, 49, 50, 51, 52, 28, 29, 30, 31, 32, 33, 34, 35, 5, 57, 58, 59, 60, 61] (by decide +kernel) (by decide +kernel)
set_option maxRecDepth 20000 in
theorem gX3_addOnPath_X3_layPath : GoodIn wsX3_addOnPath (wsV RX3 72 RX3 yX3_layPath wsX3_layPath) := goodIn_app (goodIn_of _ (by decide +kernel)) ggX3_addOnPath_X3_layPath
set_option maxRecDepth 20000 in
theorem ggX3_addOnPath_X3_valueOf : GoodIn wsX3_addOnPath wsX3_valueOf := goodIn_r _ [56, 5, 57, 58, 59, 60, 61] (by decide +kernel) (by decide +kernel)
set_option maxRecDepth 20000 in
theorem gX3_addOnPath_X3_valueOf : GoodIn wsX3_addOnPath (wsV RX3 76 RX3 yX3_valueOf wsX3_valueOf) := goodIn_app (goodIn_of _ (by decide +kernel)) ggX3_addOnPath_X3_valueOf
theorem dX3_addOnPath_0 : decode cX3_addOnPath 0 = .ok (.aload_n 0, 1) := by decide +kernel
theorem dX3_addOnPath_1 : decode cX3_addOnPath 1 = .ok (.iload_n 1, 1) := by decide +kernel
theorem dX3_addOnPath_2 : decode cX3_addOnPath 2 = .ok (.iload_n 2, 1) := by decide +kernel
theorem dX3_addOnPath_3 : decode cX3_addOnPath 3 = .ok (.invokevirtual 66, 3) := by decide +kernel
theorem dX3_addOnPath_6 : decode cX3_addOnPath 6 = .ok (.istore 4, 2) := by decide +kernel
theorem dX3_addOnPath_8 : decode cX3_addOnPath 8 = .ok (.iload 4, 2) := by decide +kernel
theorem dX3_addOnPath_10 : decode cX3_addOnPath 10 = .ok (.ifCond .eq 6, 3) := by decide +kernel
theorem dX3_addOnPath_13 : decode cX3_addOnPath 13 = .ok (.iload 4, 2) := by decide +kernel
theorem dX3_addOnPath_15 : decode cX3_addOnPath 15 = .ok (.ireturn, 1) := by decide +kernel
theorem dX3_addOnPath_16 : decode cX3_addOnPath 16 = .ok (.iload_n 3, 1) := by decide +kernel
theorem dX3_addOnPath_17 : decode cX3_addOnPath 17 = .ok (.invokestatic 84, 3) := by decide +kernel
theorem dX3_addOnPath_20 : decode cX3_addOnPath 20 = .ok (.ifCond .ne 6, 3) := by decide +kernel
theorem dX3_addOnPath_23 : decode cX3_addOnPath 23 = .ok (.ldc 43, 2) := by decide +kernel
theorem dX3_addOnPath_25 : decode cX3_addOnPath 25 = .ok (.ireturn, 1) := by decide +kernel
theorem dX3_addOnPath_26 : decode cX3_addOnPath 26 = .ok (.aload_n 0, 1) := by decide +kernel
theorem dX3_addOnPath_27 : decode cX3_addOnPath 27 = .ok (.iload_n 1, 1) := by decide +kernel
theorem dX3_addOnPath_28 : decode cX3_addOnPath 28 = .ok (.iload_n 2, 1) := by decide +kernel
theorem dX3_addOnPath_29 : decode cX3_addOnPath 29 = .ok (.invokevirtual 72, 3) := by decide +kernel
theorem dX3_addOnPath_32 : decode cX3_addOnPath 32 = .ok (.iconst 0, 1) := by decide +kernel
theorem dX3_addOnPath_33 : decode cX3_addOnPath 33 = .ok (.istore 5, 2) := by decide +kernel
theorem dX3_addOnPath_35 : decode cX3_addOnPath 35 = .ok (.iload 5, 2) := by decide +kernel
theorem dX3_addOnPath_37 : decode cX3_addOnPath 37 = .ok (.aload_n 0, 1) := by decide +kernel
theorem dX3_addOnPath_38 : decode cX3_addOnPath 38 = .ok (.getfield 62, 3) := by decide +kernel
theorem dX3_addOnPath_41 : decode cX3_addOnPath 41 = .ok (.if_icmp .ge 31, 3) := by decide +kernel
theorem dX3_addOnPath_44 : decode cX3_addOnPath 44 = .ok (.aload_n 0, 1) := by decide +kernel
theorem dX3_addOnPath_45 : decode cX3_addOnPath 45 = .ok (.aload_n 0, 1) := by decide +kernel
theorem dX3_addOnPath_46 : decode cX3_addOnPath 46 = .ok (.getfield 20, 3) := by decide +kernel
theorem dX3_addOnPath_49 : decode cX3_addOnPath 49 = .ok (.iload 5, 2) := by decide +kernel
theorem dX3_addOnPath_51 : decode cX3_addOnPath 51 = .ok (.iaload, 1) := by decide +kernel
theorem dX3_addOnPath_52 : decode cX3_addOnPath 52 = .ok (.invokevirtual 76, 3) := by decide +kernel
theorem dX3_addOnPath_55 : decode cX3_addOnPath 55 = .ok (.iload_n 3, 1) := by decide +kernel
theorem dX3_addOnPath_56 : decode cX3_addOnPath 56 = .ok (.iadd, 1) := by decide +kernel
theorem dX3_addOnPath_57 : decode cX3_addOnPath 57 = .ok (.invokestatic 84, 3) := by decide +kernel
theorem dX3_addOnPath_60 : decode cX3_addOnPath 60 = .ok (.ifCond .ne 6, 3) := by decide +kernel
theorem dX3_addOnPath_63 : decode cX3_addOnPath 63 = .ok (.ldc 87, 2) := by decide +kernel
theorem dX3_addOnPath_65 : decode cX3_addOnPath 65 = .ok (.ireturn, 1) := by decide +kernel
theorem dX3_addOnPath_66 : decode cX3_addOnPath 66 = .ok (.iinc 5 1, 3) := by decide +kernel
theorem dX3_addOnPath_69 : decode cX3_addOnPath 69 = .ok (.goto (-34), 3) := by decide +kernel
theorem dX3_addOnPath_72 : decode cX3_addOnPath 72 = .ok (.iconst 0, 1) := by decide +kernel
theorem dX3_addOnPath_73 : decode cX3_addOnPath 73 = .ok (.istore 5, 2) := by decide +kernel
theorem dX3_addOnPath_75 : decode cX3_addOnPath 75 = .ok (.iload 5, 2) := by decide +kernel
theorem dX3_addOnPath_77 : decode cX3_addOnPath 77 = .ok (.aload_n 0, 1) := by decide +kernel
theorem dX3_addOnPath_78 : decode cX3_addOnPath 78 = .ok (.getfield 62, 3) := by decide +kernel
theorem dX3_addOnPath_81 : decode cX3_addOnPath 81 = .ok (.if_icmp .ge 28, 3) := by decide +kernel
theorem dX3_addOnPath_84 : decode cX3_addOnPath 84 = .ok (.aload_n 0, 1) := by decide +kernel
theorem dX3_addOnPath_85 : decode cX3_addOnPath 85 = .ok (.getfield 7, 3) := by decide +kernel
theorem dX3_addOnPath_88 : decode cX3_addOnPath 88 = .ok (.bipush 65, 2) := by decide +kernel
theorem dX3_addOnPath_90 : decode cX3_addOnPath 90 = .ok (.aload_n 0, 1) := by decide +kernel
theorem dX3_addOnPath_91 : decode cX3_addOnPath 91 = .ok (.getfield 20, 3) := by decide +kernel
theorem dX3_addOnPath_94 : decode cX3_addOnPath 94 = .ok (.iload 5, 2) := by decide +kernel
theorem dX3_addOnPath_96 : decode cX3_addOnPath 96 = .ok (.iaload, 1) := by decide +kernel
theorem dX3_addOnPath_97 : decode cX3_addOnPath 97 = .ok (.iadd, 1) := by decide +kernel
theorem dX3_addOnPath_98 : decode cX3_addOnPath 98 = .ok (.dup2, 1) := by decide +kernel
theorem dX3_addOnPath_99 : decode cX3_addOnPath 99 = .ok (.iaload, 1) := by decide +kernel
theorem dX3_addOnPath_100 : decode cX3_addOnPath 100 = .ok (.iload_n 3, 1) := by decide +kernel
theorem dX3_addOnPath_101 : decode cX3_addOnPath 101 = .ok (.iadd, 1) := by decide +kernel
theorem dX3_addOnPath_102 : decode cX3_addOnPath 102 = .ok (.iastore, 1) := by decide +kernel
theorem dX3_addOnPath_103 : decode cX3_addOnPath 103 = .ok (.iinc 5 1, 3) := by decide +kernel
theorem dX3_addOnPath_106 : decode cX3_addOnPath 106 = .ok (.goto (-31), 3) := by decide +kernel
theorem dX3_addOnPath_109 : decode cX3_addOnPath 109 = .ok (.aload_n 0, 1) := by decide +kernel
theorem dX3_addOnPath_110 : decode cX3_addOnPath 110 = .ok (.getfield 62, 3) := by decide +kernel
theorem dX3_addOnPath_113 : decode cX3_addOnPath 113 = .ok (.ireturn, 1) := by decide +kernel
set_option maxRecDepth 20000 in
theorem ggX3_setOnPath_X3_wrongPair : GoodIn wsX3_setOnPath wsX3_wrongPair := goodIn_r _ [9, 10, 11, 12, 13, 14, 8, 15, 16, 17, 18, 19, 3, 20, 21, 22, 23, 24, 25, 26, 27, 28, 29, 30, 31, 32, 33, 34, 52, 53, 54, 55, 56] (by decide +kernel) (by decide +kernel)
set_option maxRecDepth 20000 in
theorem gX3_setOnPath_X3_wrongPair : GoodIn wsX3_setOnPath (wsV RX3 66 RX3 yX3_wrongPair wsX3_wrongPair) := goodIn_app (goodIn_of _ (by decide +kernel)) ggX3_setOnPath_X3_wrongPair
set_option maxRecDepth 20000 in
theorem ggX3_setOnPath_X3_isValue : GoodIn wsX3_setOnPath wsX3_isValue := goodIn_r _ [37, 38, 39, 20, 21, 8, 22] (by decide +kernel) (by decide +kernel)
set_option maxRecDepth 20000 in
theorem gX3_setOnPath_X3_isValue : GoodIn wsX3_setOnPath (va_wsS RX3 84 yX3_isValue wsX3_isValue) := goodIn_app (goodIn_of _ (by decide +kernel)) ggX3_setOnPath_X3_isValue
set_option maxRecDepth 20000 in
theorem ggX3_setOnPath_X3_layPath : GoodIn wsX3_setOnPath wsX3_layPath := goodIn_r _ [43, 2, 4, 44, 45, 46, 8, 47, 48, 49, 50, 51, 27, 28, 29, 30, 31, 32, 33, 34, 3, 52, 53, 54, 55, 56] (by decide +kernel) (by decide +kernel)
set_option maxRecDepth 20000 in
theorem gX3_setOnPath_X3_layPath : GoodIn wsX3_setOnPath (wsV RX3 72 RX3 yX3_layPath wsX3_layPath) := goodIn_app (goodIn_of _ (by decide +kernel)) ggX3_setOnPath_X3_layPath
theorem dX3_setOnPath_0 : decode cX3_setOnPath 0 = .ok (.aload_n 0, 1) := by decide +kernel
theorem dX3_setOnPath_1 : decode cX3_setOnPath 1 = .ok (.iload_n 1, 1) := by decide +kernel
theorem dX3_setOnPath_2 : decode cX3_setOnPath 2 = .ok (.iload_n 2, 1) := by decide +kernel
theorem dX3_setOnPath_3 : decode cX3_setOnPath 3 = .ok (.invokevirtual 66, 3) := by decide +kernel
theorem dX3_setOnPath_6 : decode cX3_setOnPath 6 = .ok (.istore 4, 2) := by decide +kernel
theorem dX3_setOnPath_8 : decode cX3_setOnPath 8 = .ok (.iload 4, 2) := by decide +kernel
theorem dX3_setOnPath_10 : decode cX3_setOnPath 10 = .ok (.ifCond .eq 6, 3) := by decide +kernel
theorem dX3_setOnPath_13 : decode cX3_setOnPath 13 = .ok (.iload 4, 2) := by decide +kernel
theorem dX3_setOnPath_15 : decode cX3_setOnPath 15 = .ok (.ireturn, 1) := by decide +kernel
theorem dX3_setOnPath_16 : decode cX3_setOnPath 16 = .ok (.iload_n 3, 1) := by decide +kernel
theorem dX3_setOnPath_17 : decode cX3_setOnPath 17 = .ok (.invokestatic 84, 3) := by decide +kernel
theorem dX3_setOnPath_20 : decode cX3_setOnPath 20 = .ok (.ifCond .ne 6, 3) := by decide +kernel
theorem dX3_setOnPath_23 : decode cX3_setOnPath 23 = .ok (.ldc 43, 2) := by decide +kernel
theorem dX3_setOnPath_25 : decode cX3_setOnPath 25 = .ok (.ireturn, 1) := by decide +kernel
theorem dX3_setOnPath_26 : decode cX3_setOnPath 26 = .ok (.aload_n 0, 1) := by decide +kernel
theorem dX3_setOnPath_27 : decode cX3_setOnPath 27 = .ok (.iload_n 1, 1) := by decide +kernel
theorem dX3_setOnPath_28 : decode cX3_setOnPath 28 = .ok (.iload_n 2, 1) := by decide +kernel
theorem dX3_setOnPath_29 : decode cX3_setOnPath 29 = .ok (.invokevirtual 72, 3) := by decide +kernel
theorem dX3_setOnPath_32 : decode cX3_setOnPath 32 = .ok (.iconst 0, 1) := by decide +kernel
theorem dX3_setOnPath_33 : decode cX3_setOnPath 33 = .ok (.istore 5, 2) := by decide +kernel
theorem dX3_setOnPath_35 : decode cX3_setOnPath 35 = .ok (.iload 5, 2) := by decide +kernel
theorem dX3_setOnPath_37 : decode cX3_setOnPath 37 = .ok (.aload_n 0, 1) := by decide +kernel
theorem dX3_setOnPath_38 : decode cX3_setOnPath 38 = .ok (.getfield 62, 3) := by decide +kernel
theorem dX3_setOnPath_41 : decode cX3_setOnPath 41 = .ok (.if_icmp .ge 25, 3) := by decide +kernel
theorem dX3_setOnPath_44 : decode cX3_setOnPath 44 = .ok (.aload_n 0, 1) := by decide +kernel
theorem dX3_setOnPath_45 : decode cX3_setOnPath 45 = .ok (.getfield 7, 3) := by decide +kernel
theorem dX3_setOnPath_48 : decode cX3_setOnPath 48 = .ok (.bipush 65, 2) := by decide +kernel
theorem dX3_setOnPath_50 : decode cX3_setOnPath 50 = .ok (.aload_n 0, 1) := by decide +kernel
theorem dX3_setOnPath_51 : decode cX3_setOnPath 51 = .ok (.getfield 20, 3) := by decide +kernel
theorem dX3_setOnPath_54 : decode cX3_setOnPath 54 = .ok (.iload 5, 2) := by decide +kernel
theorem dX3_setOnPath_56 : decode cX3_setOnPath 56 = .ok (.iaload, 1) := by decide +kernel
theorem dX3_setOnPath_57 : decode cX3_setOnPath 57 = .ok (.iadd, 1) := by decide +kernel
theorem dX3_setOnPath_58 : decode cX3_setOnPath 58 = .ok (.iload_n 3, 1) := by decide +kernel
theorem dX3_setOnPath_59 : decode cX3_setOnPath 59 = .ok (.iastore, 1) := by decide +kernel
theorem dX3_setOnPath_60 : decode cX3_setOnPath 60 = .ok (.iinc 5 1, 3) := by decide +kernel
theorem dX3_setOnPath_63 : decode cX3_setOnPath 63 = .ok (.goto (-28), 3) := by decide +kernel
theorem dX3_setOnPath_66 : decode cX3_setOnPath 66 = .ok (.aload_n 0, 1) := by decide +kernel
theorem dX3_setOnPath_67 : decode cX3_setOnPath 67 = .ok (.getfield 62, 3) := by decide +kernel
theorem dX3_setOnPath_70 : decode cX3_setOnPath 70 = .ok (.ireturn, 1) := by decide +kernel
set_option maxRecDepth 20000 in
theorem ggX3_reverseValues_X3_wrongPair : GoodIn wsX3_reverseValues wsX3_wrongPair := goodIn_r _ [8, 9, 10, 11, 12, 13, 7, 14, 15, 16, 17, 18, 3, 19, 20, 21, 22, 23, 24, 25, 26, 27, 28, 29, 30, 31, 32, 33, 50, 51, 52, 53, 54] (by decide +kernel) (by decide +kernel)
set_option maxRecDepth 20000 in
theorem gX3_reverseValues_X3_wrongPair : GoodIn wsX3_reverseValues (wsV RX3 66 RX3 yX3_wrongPair wsX3_wrongPair) := goodIn_app (goodIn_of _ (by decide +kernel)) ggX3_reverseValues_X3_wrongPair
set_option maxRecDepth 20000 in
theorem ggX3_reverseValues_X3_layPath : GoodIn wsX3_reverseValues wsX3_layPath := goodIn_r _ [37, 1, 2, 38, 39, 40, 7, 41, 42, 43, 44, 45, 26, 27, 28, 29, 30, 31, 32, 33, 3, 50, 51, 52, 53, 54] (by decide +kernel) (by decide +kernel)
set_option maxRecDepth 20000 in
theorem gX3_reverseValues_X3_layPath : GoodIn wsX3_reverseValues (wsV RX3 72 RX3 yX3_layPath wsX3_layPath) := goodIn_app (goodIn_of _ (by decide +kernel)) ggX3_reverseValues_X3_layPath
set_option maxRecDepth 20000 in
theorem ggX3_reverseValues_X3_valueOf : GoodIn wsX3_reverseValues wsX3_valueOf := goodIn_r _ [49, 3, 50, 51, 52, 53, 54] (by decide +kernel) (by decide +kernel)
set_option maxRecDepth 20000 in
theorem gX3_reverseValues_X3_valueOf : GoodIn wsX3_reverseValues (wsV RX3 76 RX3 yX3_valueOf wsX3_valueOf) := goodIn_app (goodIn_of _ (by decide +kernel)) ggX3_reverseValues_X3_valueOf
theorem dX3_reverseValues_0 : decode cX3_reverseValues 0 = .ok (.aload_n 0, 1) := by decide +kernel
theorem dX3_reverseValues_1 : decode cX3_reverseValues 1 = .ok (.iload_n 1, 1) := by decide +kernel
theorem dX3_reverseValues_2 : decode cX3_reverseValues 2 = .ok (.iload_n 2, 1) := by decide +kernel
theorem dX3_reverseValues_3 : decode cX3_reverseValues 3 = .ok (.invokevirtual 66, 3) := by decide +kernel
theorem dX3_reverseValues_6 : decode cX3_reverseValues 6 = .ok (.istore_n 3, 1) := by decide +kernel
theorem dX3_reverseValues_7 : decode cX3_reverseValues 7 = .ok (.iload_n 3, 1) := by decide +kernel
theorem dX3_reverseValues_8 : decode cX3_reverseValues 8 = .ok (.ifCond .eq 5, 3) := by decide +kernel
theorem dX3_reverseValues_11 : decode cX3_reverseValues 11 = .ok (.iload_n 3, 1) := by decide +kernel
theorem dX3_reverseValues_12 : decode cX3_reverseValues 12 = .ok (.ireturn, 1) := by decide +kernel
theorem dX3_reverseValues_13 : decode cX3_reverseValues 13 = .ok (.aload_n 0, 1) := by decide +kernel
theorem dX3_reverseValues_14 : decode cX3_reverseValues 14 = .ok (.iload_n 1, 1) := by decide +kernel
theorem dX3_reverseValues_15 : decode cX3_reverseValues 15 = .ok (.iload_n 2, 1) := by decide +kernel
theorem dX3_reverseValues_16 : decode cX3_reverseValues 16 = .ok (.invokevirtual 72, 3) := by decide +kernel
theorem dX3_reverseValues_19 : decode cX3_reverseValues 19 = .ok (.iconst 0, 1) := by decide +kernel
theorem dX3_reverseValues_20 : decode cX3_reverseValues 20 = .ok (.istore 4, 2) := by decide +kernel
theorem dX3_reverseValues_22 : decode cX3_reverseValues 22 = .ok (.iload 4, 2) := by decide +kernel
theorem dX3_reverseValues_24 : decode cX3_reverseValues 24 = .ok (.aload_n 0, 1) := by decide +kernel
theorem dX3_reverseValues_25 : decode cX3_reverseValues 25 = .ok (.getfield 62, 3) := by decide +kernel
theorem dX3_reverseValues_28 : decode cX3_reverseValues 28 = .ok (.iconst 2, 1) := by decide +kernel
theorem dX3_reverseValues_29 : decode cX3_reverseValues 29 = .ok (.idiv, 1) := by decide +kernel
theorem dX3_reverseValues_30 : decode cX3_reverseValues 30 = .ok (.if_icmp .ge 70, 3) := by decide +kernel
theorem dX3_reverseValues_33 : decode cX3_reverseValues 33 = .ok (.aload_n 0, 1) := by decide +kernel
theorem dX3_reverseValues_34 : decode cX3_reverseValues 34 = .ok (.getfield 20, 3) := by decide +kernel
theorem dX3_reverseValues_37 : decode cX3_reverseValues 37 = .ok (.iload 4, 2) := by decide +kernel
theorem dX3_reverseValues_39 : decode cX3_reverseValues 39 = .ok (.iaload, 1) := by decide +kernel
theorem dX3_reverseValues_40 : decode cX3_reverseValues 40 = .ok (.istore 5, 2) := by decide +kernel
theorem dX3_reverseValues_42 : decode cX3_reverseValues 42 = .ok (.aload_n 0, 1) := by decide +kernel
theorem dX3_reverseValues_43 : decode cX3_reverseValues 43 = .ok (.getfield 20, 3) := by decide +kernel
theorem dX3_reverseValues_46 : decode cX3_reverseValues 46 = .ok (.aload_n 0, 1) := by decide +kernel
theorem dX3_reverseValues_47 : decode cX3_reverseValues 47 = .ok (.getfield 62, 3) := by decide +kernel
theorem dX3_reverseValues_50 : decode cX3_reverseValues 50 = .ok (.iconst 1, 1) := by decide +kernel
theorem dX3_reverseValues_51 : decode cX3_reverseValues 51 = .ok (.isub, 1) := by decide +kernel
theorem dX3_reverseValues_52 : decode cX3_reverseValues 52 = .ok (.iload 4, 2) := by decide +kernel
theorem dX3_reverseValues_54 : decode cX3_reverseValues 54 = .ok (.isub, 1) := by decide +kernel
theorem dX3_reverseValues_55 : decode cX3_reverseValues 55 = .ok (.iaload, 1) := by decide +kernel
theorem dX3_reverseValues_56 : decode cX3_reverseValues 56 = .ok (.istore 6, 2) := by decide +kernel
theorem dX3_reverseValues_58 : decode cX3_reverseValues 58 = .ok (.aload_n 0, 1) := by decide +kernel
theorem dX3_reverseValues_59 : decode cX3_reverseValues 59 = .ok (.iload 5, 2) := by decide +kernel
theorem dX3_reverseValues_61 : decode cX3_reverseValues 61 = .ok (.invokevirtual 76, 3) := by decide +kernel
theorem dX3_reverseValues_64 : decode cX3_reverseValues 64 = .ok (.istore 7, 2) := by decide +kernel
theorem dX3_reverseValues_66 : decode cX3_reverseValues 66 = .ok (.aload_n 0, 1) := by decide +kernel
theorem dX3_reverseValues_67 : decode cX3_reverseValues 67 = .ok (.getfield 7, 3) := by decide +kernel
theorem dX3_reverseValues_70 : decode cX3_reverseValues 70 = .ok (.bipush 65, 2) := by decide +kernel
theorem dX3_reverseValues_72 : decode cX3_reverseValues 72 = .ok (.iload 5, 2) := by decide +kernel
theorem dX3_reverseValues_74 : decode cX3_reverseValues 74 = .ok (.iadd, 1) := by decide +kernel
theorem dX3_reverseValues_75 : decode cX3_reverseValues 75 = .ok (.aload_n 0, 1) := by decide +kernel
theorem dX3_reverseValues_76 : decode cX3_reverseValues 76 = .ok (.iload 6, 2) := by decide +kernel
theorem dX3_reverseValues_78 : decode cX3_reverseValues 78 = .ok (.invokevirtual 76, 3) := by decide +kernel
theorem dX3_reverseValues_81 : decode cX3_reverseValues 81 = .ok (.iastore, 1) := by decide +kernel
theorem dX3_reverseValues_82 : decode cX3_reverseValues 82 = .ok (.aload_n 0, 1) := by decide +kernel
theorem dX3_reverseValues_83 : decode cX3_reverseValues 83 = .ok (.getfield 7, 3) := by decide +kernel
theorem dX3_reverseValues_86 : decode cX3_reverseValues 86 = .ok (.bipush 65, 2) := by decide +kernel
theorem dX3_reverseValues_88 : decode cX3_reverseValues 88 = .ok (.iload 6, 2) := by decide +kernel
theorem dX3_reverseValues_90 : decode cX3_reverseValues 90 = .ok (.iadd, 1) := by decide +kernel
theorem dX3_reverseValues_91 : decode cX3_reverseValues 91 = .ok (.iload 7, 2) := by decide +kernel
theorem dX3_reverseValues_93 : decode cX3_reverseValues 93 = .ok (.iastore, 1) := by decide +kernel
theorem dX3_reverseValues_94 : decode cX3_reverseValues 94 = .ok (.iinc 4 1, 3) := by decide +kernel
theorem dX3_reverseValues_97 : decode cX3_reverseValues 97 = .ok (.goto (-75), 3) := by decide +kernel
theorem dX3_reverseValues_100 : decode cX3_reverseValues 100 = .ok (.aload_n 0, 1) := by decide +kernel
theorem dX3_reverseValues_101 : decode cX3_reverseValues 101 = .ok (.getfield 62, 3) := by decide +kernel
theorem dX3_reverseValues_104 : decode cX3_reverseValues 104 = .ok (.ireturn, 1) := by decide +kernel
set_option maxRecDepth 20000 in
theorem ggX3_isUnder_X3_isRoot : GoodIn wsX3_isUnder wsX3_isRoot := goodIn_r _ [5, 6, 7, 8, 4, 9, 10, 11, 12, 13, 14, 15] (by decide +kernel) (by decide +kernel)
set_option maxRecDepth 20000 in
theorem gX3_isUnder_X3_isRoot : GoodIn wsX3_isUnder (wsV RX3 39 RX3 yX3_isRoot wsX3_isRoot) := goodIn_app (goodIn_of _ (by decide +kernel)) ggX3_isUnder_X3_isRoot
set_option maxRecDepth 20000 in
theorem ggX3_isUnder_X3_above : GoodIn wsX3_isUnder wsX3_above := goodIn_r _ [9, 10, 11, 12, 13, 14, 15] (by decide +kernel) (by decide +kernel)
set_option maxRecDepth 20000 in
theorem gX3_isUnder_X3_above : GoodIn wsX3_isUnder (wsV RX3 35 RX3 yX3_above wsX3_above) := goodIn_app (goodIn_of _ (by decide +kernel)) ggX3_isUnder_X3_above
theorem dX3_isUnder_0 : decode cX3_isUnder 0 = .ok (.iload_n 1, 1) := by decide +kernel
theorem dX3_isUnder_1 : decode cX3_isUnder 1 = .ok (.istore_n 3, 1) := by decide +kernel
theorem dX3_isUnder_2 : decode cX3_isUnder 2 = .ok (.iload_n 3, 1) := by decide +kernel
theorem dX3_isUnder_3 : decode cX3_isUnder 3 = .ok (.iload_n 2, 1) := by decide +kernel
theorem dX3_isUnder_4 : decode cX3_isUnder 4 = .ok (.if_icmp .eq 20, 3) := by decide +kernel
theorem dX3_isUnder_7 : decode cX3_isUnder 7 = .ok (.aload_n 0, 1) := by decide +kernel
theorem dX3_isUnder_8 : decode cX3_isUnder 8 = .ok (.iload_n 3, 1) := by decide +kernel
theorem dX3_isUnder_9 : decode cX3_isUnder 9 = .ok (.invokevirtual 39, 3) := by decide +kernel
theorem dX3_isUnder_12 : decode cX3_isUnder 12 = .ok (.ifCond .ne 12, 3) := by decide +kernel
theorem dX3_isUnder_15 : decode cX3_isUnder 15 = .ok (.aload_n 0, 1) := by decide +kernel
theorem dX3_isUnder_16 : decode cX3_isUnder 16 = .ok (.iload_n 3, 1) := by decide +kernel
theorem dX3_isUnder_17 : decode cX3_isUnder 17 = .ok (.invokevirtual 35, 3) := by decide +kernel
theorem dX3_isUnder_20 : decode cX3_isUnder 20 = .ok (.istore_n 3, 1) := by decide +kernel
theorem dX3_isUnder_21 : decode cX3_isUnder 21 = .ok (.goto (-19), 3) := by decide +kernel
theorem dX3_isUnder_24 : decode cX3_isUnder 24 = .ok (.iload_n 3, 1) := by decide +kernel
theorem dX3_isUnder_25 : decode cX3_isUnder 25 = .ok (.iload_n 2, 1) := by decide +kernel
theorem dX3_isUnder_26 : decode cX3_isUnder 26 = .ok (.if_icmp .ne 7, 3) := by decide +kernel
theorem dX3_isUnder_29 : decode cX3_isUnder 29 = .ok (.iconst 1, 1) := by decide +kernel
theorem dX3_isUnder_30 : decode cX3_isUnder 30 = .ok (.goto 4, 3) := by decide +kernel
theorem dX3_isUnder_33 : decode cX3_isUnder 33 = .ok (.iconst 0, 1) := by decide +kernel
theorem dX3_isUnder_34 : decode cX3_isUnder 34 = .ok (.ireturn, 1) := by decide +kernel
set_option maxRecDepth 20000 in
theorem ggX3_subtreeSize_X3_isVertex : GoodIn wsX3_subtreeSize wsX3_isVertex := goodIn_r _ [6, 7, 8, 9, 5, 10, 11, 12, 13, 14, 27, 28, 29, 30, 31] (by decide +kernel) (by decide +kernel)
set_option maxRecDepth 20000 in
theorem gX3_subtreeSize_X3_isVertex : GoodIn wsX3_subtreeSize (wsV RX3 44 RX3 yX3_isVertex wsX3_isVertex) := goodIn_app (goodIn_of _ (by decide +kernel)) ggX3_subtreeSize_X3_isVertex
set_option maxRecDepth 20000 in
theorem ggX3_subtreeSize_X3_many : GoodIn wsX3_subtreeSize wsX3_many := goodIn_r _ [10, 11, 27, 28, 29, 30, 31] (by decide +kernel) (by decide +kernel)
set_option maxRecDepth 20000 in
theorem gX3_subtreeSize_X3_many : GoodIn wsX3_subtreeSize (wsV RX3 27 RX3 yX3_many wsX3_many) := goodIn_app (goodIn_of _ (by decide +kernel)) ggX3_subtreeSize_X3_many
set_option maxRecDepth 20000 in
theorem ggX3_subtreeSize_X3_isUnder : GoodIn wsX3_subtreeSize wsX3_isUnder := goodIn_r _ [18, 19, 20, 21, 5, 22, 23, 24, 25, 26, 11, 27, 28, 29, 30, 31] (by decide +kernel) (by decide +kernel)
set_option maxRecDepth 20000 in
theorem gX3_subtreeSize_X3_isUnder : GoodIn wsX3_subtreeSize (wsV RX3 88 RX3 yX3_isUnder wsX3_isUnder) := goodIn_app (goodIn_of _ (by decide +kernel)) ggX3_subtreeSize_X3_isUnder
theorem dX3_subtreeSize_0 : decode cX3_subtreeSize 0 = .ok (.aload_n 0, 1) := by decide +kernel
theorem dX3_subtreeSize_1 : decode cX3_subtreeSize 1 = .ok (.iload_n 1, 1) := by decide +kernel
theorem dX3_subtreeSize_2 : decode cX3_subtreeSize 2 = .ok (.invokevirtual 44, 3) := by decide +kernel
theorem dX3_subtreeSize_5 : decode cX3_subtreeSize 5 = .ok (.ifCond .ne 6, 3) := by decide +kernel
theorem dX3_subtreeSize_8 : decode cX3_subtreeSize 8 = .ok (.ldc 47, 2) := by decide +kernel
theorem dX3_subtreeSize_10 : decode cX3_subtreeSize 10 = .ok (.ireturn, 1) := by decide +kernel
theorem dX3_subtreeSize_11 : decode cX3_subtreeSize 11 = .ok (.iconst 0, 1) := by decide +kernel
theorem dX3_subtreeSize_12 : decode cX3_subtreeSize 12 = .ok (.istore_n 2, 1) := by decide +kernel
theorem dX3_subtreeSize_13 : decode cX3_subtreeSize 13 = .ok (.iconst 0, 1) := by decide +kernel
theorem dX3_subtreeSize_14 : decode cX3_subtreeSize 14 = .ok (.istore_n 3, 1) := by decide +kernel
theorem dX3_subtreeSize_15 : decode cX3_subtreeSize 15 = .ok (.iload_n 3, 1) := by decide +kernel
theorem dX3_subtreeSize_16 : decode cX3_subtreeSize 16 = .ok (.aload_n 0, 1) := by decide +kernel
theorem dX3_subtreeSize_17 : decode cX3_subtreeSize 17 = .ok (.invokevirtual 27, 3) := by decide +kernel
theorem dX3_subtreeSize_20 : decode cX3_subtreeSize 20 = .ok (.if_icmp .ge 26, 3) := by decide +kernel
theorem dX3_subtreeSize_23 : decode cX3_subtreeSize 23 = .ok (.iload_n 2, 1) := by decide +kernel
theorem dX3_subtreeSize_24 : decode cX3_subtreeSize 24 = .ok (.aload_n 0, 1) := by decide +kernel
theorem dX3_subtreeSize_25 : decode cX3_subtreeSize 25 = .ok (.iload_n 3, 1) := by decide +kernel
theorem dX3_subtreeSize_26 : decode cX3_subtreeSize 26 = .ok (.iload_n 1, 1) := by decide +kernel
theorem dX3_subtreeSize_27 : decode cX3_subtreeSize 27 = .ok (.invokevirtual 88, 3) := by decide +kernel
theorem dX3_subtreeSize_30 : decode cX3_subtreeSize 30 = .ok (.ifCond .eq 7, 3) := by decide +kernel
theorem dX3_subtreeSize_33 : decode cX3_subtreeSize 33 = .ok (.iconst 1, 1) := by decide +kernel
theorem dX3_subtreeSize_34 : decode cX3_subtreeSize 34 = .ok (.goto 4, 3) := by decide +kernel
theorem dX3_subtreeSize_37 : decode cX3_subtreeSize 37 = .ok (.iconst 0, 1) := by decide +kernel
theorem dX3_subtreeSize_38 : decode cX3_subtreeSize 38 = .ok (.iadd, 1) := by decide +kernel
theorem dX3_subtreeSize_39 : decode cX3_subtreeSize 39 = .ok (.istore_n 2, 1) := by decide +kernel
theorem dX3_subtreeSize_40 : decode cX3_subtreeSize 40 = .ok (.iinc 3 1, 3) := by decide +kernel
theorem dX3_subtreeSize_43 : decode cX3_subtreeSize 43 = .ok (.goto (-28), 3) := by decide +kernel
theorem dX3_subtreeSize_46 : decode cX3_subtreeSize 46 = .ok (.iload_n 2, 1) := by decide +kernel
theorem dX3_subtreeSize_47 : decode cX3_subtreeSize 47 = .ok (.ireturn, 1) := by decide +kernel
set_option maxRecDepth 20000 in
theorem ggX3_subtreeSum_X3_isVertex : GoodIn wsX3_subtreeSum wsX3_isVertex := goodIn_r _ [6, 7, 8, 9, 5, 10, 11, 12, 13, 14, 31, 32, 33, 34, 35] (by decide +kernel) (by decide +kernel)
set_option maxRecDepth 20000 in
theorem gX3_subtreeSum_X3_isVertex : GoodIn wsX3_subtreeSum (wsV RX3 44 RX3 yX3_isVertex wsX3_isVertex) := goodIn_app (goodIn_of _ (by decide +kernel)) ggX3_subtreeSum_X3_isVertex
set_option maxRecDepth 20000 in
theorem ggX3_subtreeSum_X3_many : GoodIn wsX3_subtreeSum wsX3_many := goodIn_r _ [10, 11, 31, 32, 33, 34, 35] (by decide +kernel) (by decide +kernel)
set_option maxRecDepth 20000 in
theorem gX3_subtreeSum_X3_many : GoodIn wsX3_subtreeSum (wsV RX3 27 RX3 yX3_many wsX3_many) := goodIn_app (goodIn_of _ (by decide +kernel)) ggX3_subtreeSum_X3_many
set_option maxRecDepth 20000 in
theorem ggX3_subtreeSum_X3_isUnder : GoodIn wsX3_subtreeSum wsX3_isUnder := goodIn_r _ [18, 19, 20, 21, 5, 22, 23, 24, 25, 26, 11, 31, 32, 33, 34, 35] (by decide +kernel) (by decide +kernel)
set_option maxRecDepth 20000 in
theorem gX3_subtreeSum_X3_isUnder : GoodIn wsX3_subtreeSum (wsV RX3 88 RX3 yX3_isUnder wsX3_isUnder) := goodIn_app (goodIn_of _ (by decide +kernel)) ggX3_subtreeSum_X3_isUnder
set_option maxRecDepth 20000 in
theorem ggX3_subtreeSum_X3_valueOf : GoodIn wsX3_subtreeSum wsX3_valueOf := goodIn_r _ [30, 11, 31, 32, 33, 34, 35] (by decide +kernel) (by decide +kernel)
set_option maxRecDepth 20000 in
theorem gX3_subtreeSum_X3_valueOf : GoodIn wsX3_subtreeSum (wsV RX3 76 RX3 yX3_valueOf wsX3_valueOf) := goodIn_app (goodIn_of _ (by decide +kernel)) ggX3_subtreeSum_X3_valueOf
theorem dX3_subtreeSum_0 : decode cX3_subtreeSum 0 = .ok (.aload_n 0, 1) := by decide +kernel
theorem dX3_subtreeSum_1 : decode cX3_subtreeSum 1 = .ok (.iload_n 1, 1) := by decide +kernel
theorem dX3_subtreeSum_2 : decode cX3_subtreeSum 2 = .ok (.invokevirtual 44, 3) := by decide +kernel
theorem dX3_subtreeSum_5 : decode cX3_subtreeSum 5 = .ok (.ifCond .ne 6, 3) := by decide +kernel
theorem dX3_subtreeSum_8 : decode cX3_subtreeSum 8 = .ok (.ldc 47, 2) := by decide +kernel
theorem dX3_subtreeSum_10 : decode cX3_subtreeSum 10 = .ok (.ireturn, 1) := by decide +kernel
theorem dX3_subtreeSum_11 : decode cX3_subtreeSum 11 = .ok (.iconst 0, 1) := by decide +kernel
theorem dX3_subtreeSum_12 : decode cX3_subtreeSum 12 = .ok (.istore_n 2, 1) := by decide +kernel
theorem dX3_subtreeSum_13 : decode cX3_subtreeSum 13 = .ok (.iconst 0, 1) := by decide +kernel
theorem dX3_subtreeSum_14 : decode cX3_subtreeSum 14 = .ok (.istore_n 3, 1) := by decide +kernel
theorem dX3_subtreeSum_15 : decode cX3_subtreeSum 15 = .ok (.iload_n 3, 1) := by decide +kernel
theorem dX3_subtreeSum_16 : decode cX3_subtreeSum 16 = .ok (.aload_n 0, 1) := by decide +kernel
theorem dX3_subtreeSum_17 : decode cX3_subtreeSum 17 = .ok (.invokevirtual 27, 3) := by decide +kernel
theorem dX3_subtreeSum_20 : decode cX3_subtreeSum 20 = .ok (.if_icmp .ge 30, 3) := by decide +kernel
theorem dX3_subtreeSum_23 : decode cX3_subtreeSum 23 = .ok (.iload_n 2, 1) := by decide +kernel
theorem dX3_subtreeSum_24 : decode cX3_subtreeSum 24 = .ok (.aload_n 0, 1) := by decide +kernel
theorem dX3_subtreeSum_25 : decode cX3_subtreeSum 25 = .ok (.iload_n 3, 1) := by decide +kernel
theorem dX3_subtreeSum_26 : decode cX3_subtreeSum 26 = .ok (.iload_n 1, 1) := by decide +kernel
theorem dX3_subtreeSum_27 : decode cX3_subtreeSum 27 = .ok (.invokevirtual 88, 3) := by decide +kernel
theorem dX3_subtreeSum_30 : decode cX3_subtreeSum 30 = .ok (.ifCond .eq 11, 3) := by decide +kernel
theorem dX3_subtreeSum_33 : decode cX3_subtreeSum 33 = .ok (.aload_n 0, 1) := by decide +kernel
theorem dX3_subtreeSum_34 : decode cX3_subtreeSum 34 = .ok (.iload_n 3, 1) := by decide +kernel
theorem dX3_subtreeSum_35 : decode cX3_subtreeSum 35 = .ok (.invokevirtual 76, 3) := by decide +kernel
theorem dX3_subtreeSum_38 : decode cX3_subtreeSum 38 = .ok (.goto 4, 3) := by decide +kernel
theorem dX3_subtreeSum_41 : decode cX3_subtreeSum 41 = .ok (.iconst 0, 1) := by decide +kernel
theorem dX3_subtreeSum_42 : decode cX3_subtreeSum 42 = .ok (.iadd, 1) := by decide +kernel
theorem dX3_subtreeSum_43 : decode cX3_subtreeSum 43 = .ok (.istore_n 2, 1) := by decide +kernel
theorem dX3_subtreeSum_44 : decode cX3_subtreeSum 44 = .ok (.iinc 3 1, 3) := by decide +kernel
theorem dX3_subtreeSum_47 : decode cX3_subtreeSum 47 = .ok (.goto (-32), 3) := by decide +kernel
theorem dX3_subtreeSum_50 : decode cX3_subtreeSum 50 = .ok (.iload_n 2, 1) := by decide +kernel
theorem dX3_subtreeSum_51 : decode cX3_subtreeSum 51 = .ok (.ireturn, 1) := by decide +kernel
set_option maxRecDepth 20000 in
theorem ggX3_addInSubtree_X3_isVertex : GoodIn wsX3_addInSubtree wsX3_isVertex := goodIn_r _ [9, 10, 11, 12, 8, 13, 4, 14, 15, 16, 38, 39, 40, 41, 42] (by decide +kernel) (by decide +kernel)
set_option maxRecDepth 20000 in
theorem gX3_addInSubtree_X3_isVertex : GoodIn wsX3_addInSubtree (wsV RX3 44 RX3 yX3_isVertex wsX3_isVertex) := goodIn_app (goodIn_of _ (by decide +kernel)) ggX3_addInSubtree_X3_isVertex
set_option maxRecDepth 20000 in
theorem ggX3_addInSubtree_X3_isValue : GoodIn wsX3_addInSubtree wsX3_isValue := goodIn_r _ [19, 20, 21, 14, 15, 8, 16] (by decide +kernel) (by decide +kernel)
set_option maxRecDepth 20000 in
theorem gX3_addInSubtree_X3_isValue : GoodIn wsX3_addInSubtree (va_wsS RX3 84 yX3_isValue wsX3_isValue) := goodIn_app (goodIn_of _ (by decide +kernel)) ggX3_addInSubtree_X3_isValue
set_option maxRecDepth 20000 in
theorem ggX3_addInSubtree_X3_many : GoodIn wsX3_addInSubtree wsX3_many := goodIn_r _ [13, 4, 38, 39, 40, 41, 42] (by decide +kernel) (by decide +kernel)
set_option maxRecDepth 20000 in
theorem gX3_addInSubtree_X3_many : GoodIn wsX3_addInSubtree (wsV RX3 27 RX3 yX3_many wsX3_many) := goodIn_app (goodIn_of _ (by decide +kernel)) ggX3_addInSubtree_X3_many
set_option maxRecDepth 20000 in
theorem ggX3_addInSubtree_X3_isUnder : GoodIn wsX3_addInSubtree wsX3_isUnder := goodIn_r _ [25, 26, 27, 28, 8, 29, 30, 31, 32, 33, 4, 38, 39, 40, 41, 42] (by decide +kernel) (by decide +kernel)
set_option maxRecDepth 20000 in
theorem gX3_addInSubtree_X3_isUnder : GoodIn wsX3_addInSubtree (wsV RX3 88 RX3 yX3_isUnder wsX3_isUnder) := goodIn_app (goodIn_of _ (by decide +kernel)) ggX3_addInSubtree_X3_isUnder
set_option maxRecDepth 20000 in
theorem ggX3_addInSubtree_X3_valueOf : GoodIn wsX3_addInSubtree wsX3_valueOf := goodIn_r _ [37, 4, 38, 39, 40, 41, 42] (by decide +kernel) (by decide +kernel)
set_option maxRecDepth 20000 in
theorem gX3_addInSubtree_X3_valueOf : GoodIn wsX3_addInSubtree (wsV RX3 76 RX3 yX3_valueOf wsX3_valueOf) := goodIn_app (goodIn_of _ (by decide +kernel)) ggX3_addInSubtree_X3_valueOf
theorem dX3_addInSubtree_0 : decode cX3_addInSubtree 0 = .ok (.aload_n 0, 1) := by decide +kernel
theorem dX3_addInSubtree_1 : decode cX3_addInSubtree 1 = .ok (.iload_n 1, 1) := by decide +kernel
theorem dX3_addInSubtree_2 : decode cX3_addInSubtree 2 = .ok (.invokevirtual 44, 3) := by decide +kernel
theorem dX3_addInSubtree_5 : decode cX3_addInSubtree 5 = .ok (.ifCond .ne 6, 3) := by decide +kernel
theorem dX3_addInSubtree_8 : decode cX3_addInSubtree 8 = .ok (.ldc 47, 2) := by decide +kernel
theorem dX3_addInSubtree_10 : decode cX3_addInSubtree 10 = .ok (.ireturn, 1) := by decide +kernel
theorem dX3_addInSubtree_11 : decode cX3_addInSubtree 11 = .ok (.iload_n 2, 1) := by decide +kernel
theorem dX3_addInSubtree_12 : decode cX3_addInSubtree 12 = .ok (.invokestatic 84, 3) := by decide +kernel
theorem dX3_addInSubtree_15 : decode cX3_addInSubtree 15 = .ok (.ifCond .ne 6, 3) := by decide +kernel
theorem dX3_addInSubtree_18 : decode cX3_addInSubtree 18 = .ok (.ldc 43, 2) := by decide +kernel
theorem dX3_addInSubtree_20 : decode cX3_addInSubtree 20 = .ok (.ireturn, 1) := by decide +kernel
theorem dX3_addInSubtree_21 : decode cX3_addInSubtree 21 = .ok (.iconst 0, 1) := by decide +kernel
theorem dX3_addInSubtree_22 : decode cX3_addInSubtree 22 = .ok (.istore_n 3, 1) := by decide +kernel
theorem dX3_addInSubtree_23 : decode cX3_addInSubtree 23 = .ok (.iload_n 3, 1) := by decide +kernel
theorem dX3_addInSubtree_24 : decode cX3_addInSubtree 24 = .ok (.aload_n 0, 1) := by decide +kernel
theorem dX3_addInSubtree_25 : decode cX3_addInSubtree 25 = .ok (.invokevirtual 27, 3) := by decide +kernel
theorem dX3_addInSubtree_28 : decode cX3_addInSubtree 28 = .ok (.if_icmp .ge 34, 3) := by decide +kernel
theorem dX3_addInSubtree_31 : decode cX3_addInSubtree 31 = .ok (.aload_n 0, 1) := by decide +kernel
theorem dX3_addInSubtree_32 : decode cX3_addInSubtree 32 = .ok (.iload_n 3, 1) := by decide +kernel
theorem dX3_addInSubtree_33 : decode cX3_addInSubtree 33 = .ok (.iload_n 1, 1) := by decide +kernel
theorem dX3_addInSubtree_34 : decode cX3_addInSubtree 34 = .ok (.invokevirtual 88, 3) := by decide +kernel
theorem dX3_addInSubtree_37 : decode cX3_addInSubtree 37 = .ok (.ifCond .eq 19, 3) := by decide +kernel
theorem dX3_addInSubtree_40 : decode cX3_addInSubtree 40 = .ok (.aload_n 0, 1) := by decide +kernel
theorem dX3_addInSubtree_41 : decode cX3_addInSubtree 41 = .ok (.iload_n 3, 1) := by decide +kernel
theorem dX3_addInSubtree_42 : decode cX3_addInSubtree 42 = .ok (.invokevirtual 76, 3) := by decide +kernel
theorem dX3_addInSubtree_45 : decode cX3_addInSubtree 45 = .ok (.iload_n 2, 1) := by decide +kernel
theorem dX3_addInSubtree_46 : decode cX3_addInSubtree 46 = .ok (.iadd, 1) := by decide +kernel
theorem dX3_addInSubtree_47 : decode cX3_addInSubtree 47 = .ok (.invokestatic 84, 3) := by decide +kernel
theorem dX3_addInSubtree_50 : decode cX3_addInSubtree 50 = .ok (.ifCond .ne 6, 3) := by decide +kernel
theorem dX3_addInSubtree_53 : decode cX3_addInSubtree 53 = .ok (.ldc 87, 2) := by decide +kernel
theorem dX3_addInSubtree_55 : decode cX3_addInSubtree 55 = .ok (.ireturn, 1) := by decide +kernel
theorem dX3_addInSubtree_56 : decode cX3_addInSubtree 56 = .ok (.iinc 3 1, 3) := by decide +kernel
theorem dX3_addInSubtree_59 : decode cX3_addInSubtree 59 = .ok (.goto (-36), 3) := by decide +kernel
theorem dX3_addInSubtree_62 : decode cX3_addInSubtree 62 = .ok (.iconst 0, 1) := by decide +kernel
theorem dX3_addInSubtree_63 : decode cX3_addInSubtree 63 = .ok (.istore_n 3, 1) := by decide +kernel
theorem dX3_addInSubtree_64 : decode cX3_addInSubtree 64 = .ok (.iconst 0, 1) := by decide +kernel
theorem dX3_addInSubtree_65 : decode cX3_addInSubtree 65 = .ok (.istore 4, 2) := by decide +kernel
theorem dX3_addInSubtree_67 : decode cX3_addInSubtree 67 = .ok (.iload 4, 2) := by decide +kernel
theorem dX3_addInSubtree_69 : decode cX3_addInSubtree 69 = .ok (.aload_n 0, 1) := by decide +kernel
theorem dX3_addInSubtree_70 : decode cX3_addInSubtree 70 = .ok (.invokevirtual 27, 3) := by decide +kernel
theorem dX3_addInSubtree_73 : decode cX3_addInSubtree 73 = .ok (.if_icmp .ge 36, 3) := by decide +kernel
theorem dX3_addInSubtree_76 : decode cX3_addInSubtree 76 = .ok (.aload_n 0, 1) := by decide +kernel
theorem dX3_addInSubtree_77 : decode cX3_addInSubtree 77 = .ok (.iload 4, 2) := by decide +kernel
theorem dX3_addInSubtree_79 : decode cX3_addInSubtree 79 = .ok (.iload_n 1, 1) := by decide +kernel
theorem dX3_addInSubtree_80 : decode cX3_addInSubtree 80 = .ok (.invokevirtual 88, 3) := by decide +kernel
theorem dX3_addInSubtree_83 : decode cX3_addInSubtree 83 = .ok (.ifCond .eq 20, 3) := by decide +kernel
theorem dX3_addInSubtree_86 : decode cX3_addInSubtree 86 = .ok (.aload_n 0, 1) := by decide +kernel
theorem dX3_addInSubtree_87 : decode cX3_addInSubtree 87 = .ok (.getfield 7, 3) := by decide +kernel
theorem dX3_addInSubtree_90 : decode cX3_addInSubtree 90 = .ok (.bipush 65, 2) := by decide +kernel
theorem dX3_addInSubtree_92 : decode cX3_addInSubtree 92 = .ok (.iload 4, 2) := by decide +kernel
theorem dX3_addInSubtree_94 : decode cX3_addInSubtree 94 = .ok (.iadd, 1) := by decide +kernel
theorem dX3_addInSubtree_95 : decode cX3_addInSubtree 95 = .ok (.dup2, 1) := by decide +kernel
theorem dX3_addInSubtree_96 : decode cX3_addInSubtree 96 = .ok (.iaload, 1) := by decide +kernel
theorem dX3_addInSubtree_97 : decode cX3_addInSubtree 97 = .ok (.iload_n 2, 1) := by decide +kernel
theorem dX3_addInSubtree_98 : decode cX3_addInSubtree 98 = .ok (.iadd, 1) := by decide +kernel
theorem dX3_addInSubtree_99 : decode cX3_addInSubtree 99 = .ok (.iastore, 1) := by decide +kernel
theorem dX3_addInSubtree_100 : decode cX3_addInSubtree 100 = .ok (.iinc 3 1, 3) := by decide +kernel
theorem dX3_addInSubtree_103 : decode cX3_addInSubtree 103 = .ok (.iinc 4 1, 3) := by decide +kernel
theorem dX3_addInSubtree_106 : decode cX3_addInSubtree 106 = .ok (.goto (-39), 3) := by decide +kernel
theorem dX3_addInSubtree_109 : decode cX3_addInSubtree 109 = .ok (.iload_n 3, 1) := by decide +kernel
theorem dX3_addInSubtree_110 : decode cX3_addInSubtree 110 = .ok (.ireturn, 1) := by decide +kernel
set_option maxRecDepth 20000 in
theorem ggX3_diameter_X3_isVertex : GoodIn wsX3_diameter wsX3_isVertex := goodIn_r _ [6, 7, 8, 9, 5, 10, 11, 12, 13, 14, 39, 40, 41, 42, 43] (by decide +kernel) (by decide +kernel)
set_option maxRecDepth 20000 in
theorem gX3_diameter_X3_isVertex : GoodIn wsX3_diameter (wsV RX3 44 RX3 yX3_isVertex wsX3_isVertex) := goodIn_app (goodIn_of _ (by decide +kernel)) ggX3_diameter_X3_isVertex
set_option maxRecDepth 20000 in
theorem ggX3_diameter_X3_rootOf : GoodIn wsX3_diameter wsX3_rootOf := goodIn_r _ [18, 19, 20, 21, 5, 22, 23, 24, 25, 26, 11, 39, 40, 41, 42, 43] (by decide +kernel) (by decide +kernel)
set_option maxRecDepth 20000 in
theorem gX3_diameter_X3_rootOf : GoodIn wsX3_diameter (wsV RX3 49 RX3 yX3_rootOf wsX3_rootOf) := goodIn_app (goodIn_of _ (by decide +kernel)) ggX3_diameter_X3_rootOf
set_option maxRecDepth 20000 in
theorem ggX3_diameter_X3_many : GoodIn wsX3_diameter wsX3_many := goodIn_r _ [10, 11, 39, 40, 41, 42, 43] (by decide +kernel) (by decide +kernel)
set_option maxRecDepth 20000 in
theorem gX3_diameter_X3_many : GoodIn wsX3_diameter (wsV RX3 27 RX3 yX3_many wsX3_many) := goodIn_app (goodIn_of _ (by decide +kernel)) ggX3_diameter_X3_many
set_option maxRecDepth 20000 in
theorem ggX3_diameter_X3_distanceOf : GoodIn wsX3_diameter wsX3_distanceOf := goodIn_r _ [30, 31, 32, 33, 5, 34, 19, 20, 21, 22, 23, 24, 25, 26, 11, 35, 36, 37, 38, 39, 40, 41, 42, 43] (by decide +kernel) (by decide +kernel)
set_option maxRecDepth 20000 in
theorem gX3_diameter_X3_distanceOf : GoodIn wsX3_diameter (wsV RX3 69 RX3 yX3_distanceOf wsX3_distanceOf) := goodIn_app (goodIn_of _ (by decide +kernel)) ggX3_diameter_X3_distanceOf
theorem dX3_diameter_0 : decode cX3_diameter 0 = .ok (.aload_n 0, 1) := by decide +kernel
theorem dX3_diameter_1 : decode cX3_diameter 1 = .ok (.iload_n 1, 1) := by decide +kernel
theorem dX3_diameter_2 : decode cX3_diameter 2 = .ok (.invokevirtual 44, 3) := by decide +kernel
theorem dX3_diameter_5 : decode cX3_diameter 5 = .ok (.ifCond .ne 6, 3) := by decide +kernel
theorem dX3_diameter_8 : decode cX3_diameter 8 = .ok (.ldc 47, 2) := by decide +kernel
theorem dX3_diameter_10 : decode cX3_diameter 10 = .ok (.ireturn, 1) := by decide +kernel
theorem dX3_diameter_11 : decode cX3_diameter 11 = .ok (.aload_n 0, 1) := by decide +kernel
theorem dX3_diameter_12 : decode cX3_diameter 12 = .ok (.iload_n 1, 1) := by decide +kernel
theorem dX3_diameter_13 : decode cX3_diameter 13 = .ok (.invokevirtual 49, 3) := by decide +kernel
theorem dX3_diameter_16 : decode cX3_diameter 16 = .ok (.istore_n 2, 1) := by decide +kernel
theorem dX3_diameter_17 : decode cX3_diameter 17 = .ok (.iconst 0, 1) := by decide +kernel
theorem dX3_diameter_18 : decode cX3_diameter 18 = .ok (.istore_n 3, 1) := by decide +kernel
theorem dX3_diameter_19 : decode cX3_diameter 19 = .ok (.iconst 0, 1) := by decide +kernel
theorem dX3_diameter_20 : decode cX3_diameter 20 = .ok (.istore 4, 2) := by decide +kernel
theorem dX3_diameter_22 : decode cX3_diameter 22 = .ok (.iload 4, 2) := by decide +kernel
theorem dX3_diameter_24 : decode cX3_diameter 24 = .ok (.aload_n 0, 1) := by decide +kernel
theorem dX3_diameter_25 : decode cX3_diameter 25 = .ok (.invokevirtual 27, 3) := by decide +kernel
theorem dX3_diameter_28 : decode cX3_diameter 28 = .ok (.if_icmp .ge 72, 3) := by decide +kernel
theorem dX3_diameter_31 : decode cX3_diameter 31 = .ok (.iconst 0, 1) := by decide +kernel
theorem dX3_diameter_32 : decode cX3_diameter 32 = .ok (.istore 5, 2) := by decide +kernel
theorem dX3_diameter_34 : decode cX3_diameter 34 = .ok (.iload 5, 2) := by decide +kernel
theorem dX3_diameter_36 : decode cX3_diameter 36 = .ok (.iload 4, 2) := by decide +kernel
theorem dX3_diameter_38 : decode cX3_diameter 38 = .ok (.if_icmp .ge 56, 3) := by decide +kernel
theorem dX3_diameter_41 : decode cX3_diameter 41 = .ok (.aload_n 0, 1) := by decide +kernel
theorem dX3_diameter_42 : decode cX3_diameter 42 = .ok (.iload 4, 2) := by decide +kernel
theorem dX3_diameter_44 : decode cX3_diameter 44 = .ok (.invokevirtual 49, 3) := by decide +kernel
theorem dX3_diameter_47 : decode cX3_diameter 47 = .ok (.iload_n 2, 1) := by decide +kernel
theorem dX3_diameter_48 : decode cX3_diameter 48 = .ok (.if_icmp .ne 46, 3) := by decide +kernel
theorem dX3_diameter_51 : decode cX3_diameter 51 = .ok (.aload_n 0, 1) := by decide +kernel
theorem dX3_diameter_52 : decode cX3_diameter 52 = .ok (.iload 5, 2) := by decide +kernel
theorem dX3_diameter_54 : decode cX3_diameter 54 = .ok (.invokevirtual 49, 3) := by decide +kernel
theorem dX3_diameter_57 : decode cX3_diameter 57 = .ok (.iload_n 2, 1) := by decide +kernel
theorem dX3_diameter_58 : decode cX3_diameter 58 = .ok (.if_icmp .ne 14, 3) := by decide +kernel
theorem dX3_diameter_61 : decode cX3_diameter 61 = .ok (.aload_n 0, 1) := by decide +kernel
theorem dX3_diameter_62 : decode cX3_diameter 62 = .ok (.iload 4, 2) := by decide +kernel
theorem dX3_diameter_64 : decode cX3_diameter 64 = .ok (.iload 5, 2) := by decide +kernel
theorem dX3_diameter_66 : decode cX3_diameter 66 = .ok (.invokevirtual 69, 3) := by decide +kernel
theorem dX3_diameter_69 : decode cX3_diameter 69 = .ok (.goto 4, 3) := by decide +kernel
theorem dX3_diameter_72 : decode cX3_diameter 72 = .ok (.iconst 0, 1) := by decide +kernel
theorem dX3_diameter_73 : decode cX3_diameter 73 = .ok (.istore 6, 2) := by decide +kernel
theorem dX3_diameter_75 : decode cX3_diameter 75 = .ok (.iload 6, 2) := by decide +kernel
theorem dX3_diameter_77 : decode cX3_diameter 77 = .ok (.iload_n 3, 1) := by decide +kernel
theorem dX3_diameter_78 : decode cX3_diameter 78 = .ok (.if_icmp .le 8, 3) := by decide +kernel
theorem dX3_diameter_81 : decode cX3_diameter 81 = .ok (.iload 6, 2) := by decide +kernel
theorem dX3_diameter_83 : decode cX3_diameter 83 = .ok (.goto 4, 3) := by decide +kernel
theorem dX3_diameter_86 : decode cX3_diameter 86 = .ok (.iload_n 3, 1) := by decide +kernel
theorem dX3_diameter_87 : decode cX3_diameter 87 = .ok (.istore_n 3, 1) := by decide +kernel
theorem dX3_diameter_88 : decode cX3_diameter 88 = .ok (.iinc 5 1, 3) := by decide +kernel
theorem dX3_diameter_91 : decode cX3_diameter 91 = .ok (.goto (-57), 3) := by decide +kernel
theorem dX3_diameter_94 : decode cX3_diameter 94 = .ok (.iinc 4 1, 3) := by decide +kernel
theorem dX3_diameter_97 : decode cX3_diameter 97 = .ok (.goto (-75), 3) := by decide +kernel
theorem dX3_diameter_100 : decode cX3_diameter 100 = .ok (.iload_n 3, 1) := by decide +kernel
theorem dX3_diameter_101 : decode cX3_diameter 101 = .ok (.ireturn, 1) := by decide +kernel
set_option maxRecDepth 20000 in
theorem ggX3_setValue_X3_isVertex : GoodIn wsX3_setValue wsX3_isVertex := goodIn_r _ [8, 9, 10, 11, 7, 12, 3, 13, 14, 15, 25, 26, 27, 28, 29] (by decide +kernel) (by decide +kernel)
set_option maxRecDepth 20000 in
theorem gX3_setValue_X3_isVertex : GoodIn wsX3_setValue (wsV RX3 44 RX3 yX3_isVertex wsX3_isVertex) := goodIn_app (goodIn_of _ (by decide +kernel)) ggX3_setValue_X3_isVertex
set_option maxRecDepth 20000 in
theorem ggX3_setValue_X3_isValue : GoodIn wsX3_setValue wsX3_isValue := goodIn_r _ [18, 19, 20, 13, 14, 7, 15] (by decide +kernel) (by decide +kernel)
set_option maxRecDepth 20000 in
theorem gX3_setValue_X3_isValue : GoodIn wsX3_setValue (va_wsS RX3 84 yX3_isValue wsX3_isValue) := goodIn_app (goodIn_of _ (by decide +kernel)) ggX3_setValue_X3_isValue
set_option maxRecDepth 20000 in
theorem ggX3_setValue_X3_valueOf : GoodIn wsX3_setValue wsX3_valueOf := goodIn_r _ [24, 3, 25, 26, 27, 28, 29] (by decide +kernel) (by decide +kernel)
set_option maxRecDepth 20000 in
theorem gX3_setValue_X3_valueOf : GoodIn wsX3_setValue (wsV RX3 76 RX3 yX3_valueOf wsX3_valueOf) := goodIn_app (goodIn_of _ (by decide +kernel)) ggX3_setValue_X3_valueOf
theorem dX3_setValue_0 : decode cX3_setValue 0 = .ok (.aload_n 0, 1) := by decide +kernel
theorem dX3_setValue_1 : decode cX3_setValue 1 = .ok (.iload_n 1, 1) := by decide +kernel
theorem dX3_setValue_2 : decode cX3_setValue 2 = .ok (.invokevirtual 44, 3) := by decide +kernel
theorem dX3_setValue_5 : decode cX3_setValue 5 = .ok (.ifCond .ne 6, 3) := by decide +kernel
theorem dX3_setValue_8 : decode cX3_setValue 8 = .ok (.ldc 47, 2) := by decide +kernel
theorem dX3_setValue_10 : decode cX3_setValue 10 = .ok (.ireturn, 1) := by decide +kernel
theorem dX3_setValue_11 : decode cX3_setValue 11 = .ok (.iload_n 2, 1) := by decide +kernel
theorem dX3_setValue_12 : decode cX3_setValue 12 = .ok (.invokestatic 84, 3) := by decide +kernel
theorem dX3_setValue_15 : decode cX3_setValue 15 = .ok (.ifCond .ne 6, 3) := by decide +kernel
theorem dX3_setValue_18 : decode cX3_setValue 18 = .ok (.ldc 43, 2) := by decide +kernel
theorem dX3_setValue_20 : decode cX3_setValue 20 = .ok (.ireturn, 1) := by decide +kernel
theorem dX3_setValue_21 : decode cX3_setValue 21 = .ok (.aload_n 0, 1) := by decide +kernel
theorem dX3_setValue_22 : decode cX3_setValue 22 = .ok (.iload_n 1, 1) := by decide +kernel
theorem dX3_setValue_23 : decode cX3_setValue 23 = .ok (.invokevirtual 76, 3) := by decide +kernel
theorem dX3_setValue_26 : decode cX3_setValue 26 = .ok (.istore_n 3, 1) := by decide +kernel
theorem dX3_setValue_27 : decode cX3_setValue 27 = .ok (.aload_n 0, 1) := by decide +kernel
theorem dX3_setValue_28 : decode cX3_setValue 28 = .ok (.getfield 7, 3) := by decide +kernel
theorem dX3_setValue_31 : decode cX3_setValue 31 = .ok (.bipush 65, 2) := by decide +kernel
theorem dX3_setValue_33 : decode cX3_setValue 33 = .ok (.iload_n 1, 1) := by decide +kernel
theorem dX3_setValue_34 : decode cX3_setValue 34 = .ok (.iadd, 1) := by decide +kernel
theorem dX3_setValue_35 : decode cX3_setValue 35 = .ok (.iload_n 2, 1) := by decide +kernel
theorem dX3_setValue_36 : decode cX3_setValue 36 = .ok (.iastore, 1) := by decide +kernel
theorem dX3_setValue_37 : decode cX3_setValue 37 = .ok (.iload_n 3, 1) := by decide +kernel
theorem dX3_setValue_38 : decode cX3_setValue 38 = .ok (.ireturn, 1) := by decide +kernel
set_option maxRecDepth 20000 in
theorem ggX3_value_X3_isVertex : GoodIn wsX3_value wsX3_isVertex := goodIn_r _ [6, 7, 8, 9, 5, 10, 11, 12, 13, 14, 19, 20, 21, 22, 23] (by decide +kernel) (by decide +kernel)
set_option maxRecDepth 20000 in
theorem gX3_value_X3_isVertex : GoodIn wsX3_value (wsV RX3 44 RX3 yX3_isVertex wsX3_isVertex) := goodIn_app (goodIn_of _ (by decide +kernel)) ggX3_value_X3_isVertex
set_option maxRecDepth 20000 in
theorem ggX3_value_X3_valueOf : GoodIn wsX3_value wsX3_valueOf := goodIn_r _ [18, 11, 19, 20, 21, 22, 23] (by decide +kernel) (by decide +kernel)
set_option maxRecDepth 20000 in
theorem gX3_value_X3_valueOf : GoodIn wsX3_value (wsV RX3 76 RX3 yX3_valueOf wsX3_valueOf) := goodIn_app (goodIn_of _ (by decide +kernel)) ggX3_value_X3_valueOf
theorem dX3_value_0 : decode cX3_value 0 = .ok (.aload_n 0, 1) := by decide +kernel
theorem dX3_value_1 : decode cX3_value 1 = .ok (.iload_n 1, 1) := by decide +kernel
theorem dX3_value_2 : decode cX3_value 2 = .ok (.invokevirtual 44, 3) := by decide +kernel
theorem dX3_value_5 : decode cX3_value 5 = .ok (.ifCond .eq 11, 3) := by decide +kernel
theorem dX3_value_8 : decode cX3_value 8 = .ok (.aload_n 0, 1) := by decide +kernel
theorem dX3_value_9 : decode cX3_value 9 = .ok (.iload_n 1, 1) := by decide +kernel
theorem dX3_value_10 : decode cX3_value 10 = .ok (.invokevirtual 76, 3) := by decide +kernel
theorem dX3_value_13 : decode cX3_value 13 = .ok (.goto 5, 3) := by decide +kernel
theorem dX3_value_16 : decode cX3_value 16 = .ok (.ldc 47, 2) := by decide +kernel
theorem dX3_value_18 : decode cX3_value 18 = .ok (.ireturn, 1) := by decide +kernel
set_option maxRecDepth 20000 in
theorem ggX3_setMark_X3_isVertex : GoodIn wsX3_setMark wsX3_isVertex := goodIn_r _ [7, 8, 9, 10, 6, 11, 2, 12, 13, 14, 15, 16, 17, 18, 19] (by decide +kernel) (by decide +kernel)
set_option maxRecDepth 20000 in
theorem gX3_setMark_X3_isVertex : GoodIn wsX3_setMark (wsV RX3 44 RX3 yX3_isVertex wsX3_isVertex) := goodIn_app (goodIn_of _ (by decide +kernel)) ggX3_setMark_X3_isVertex
theorem dX3_setMark_0 : decode cX3_setMark 0 = .ok (.aload_n 0, 1) := by decide +kernel
theorem dX3_setMark_1 : decode cX3_setMark 1 = .ok (.iload_n 1, 1) := by decide +kernel
theorem dX3_setMark_2 : decode cX3_setMark 2 = .ok (.invokevirtual 44, 3) := by decide +kernel
theorem dX3_setMark_5 : decode cX3_setMark 5 = .ok (.ifCond .ne 6, 3) := by decide +kernel
theorem dX3_setMark_8 : decode cX3_setMark 8 = .ok (.ldc 47, 2) := by decide +kernel
theorem dX3_setMark_10 : decode cX3_setMark 10 = .ok (.ireturn, 1) := by decide +kernel
theorem dX3_setMark_11 : decode cX3_setMark 11 = .ok (.aload_n 0, 1) := by decide +kernel
theorem dX3_setMark_12 : decode cX3_setMark 12 = .ok (.getfield 7, 3) := by decide +kernel
theorem dX3_setMark_15 : decode cX3_setMark 15 = .ok (.sipush 129, 3) := by decide +kernel
theorem dX3_setMark_18 : decode cX3_setMark 18 = .ok (.iload_n 1, 1) := by decide +kernel
theorem dX3_setMark_19 : decode cX3_setMark 19 = .ok (.iadd, 1) := by decide +kernel
theorem dX3_setMark_20 : decode cX3_setMark 20 = .ok (.iaload, 1) := by decide +kernel
theorem dX3_setMark_21 : decode cX3_setMark 21 = .ok (.istore_n 3, 1) := by decide +kernel
theorem dX3_setMark_22 : decode cX3_setMark 22 = .ok (.aload_n 0, 1) := by decide +kernel
theorem dX3_setMark_23 : decode cX3_setMark 23 = .ok (.getfield 7, 3) := by decide +kernel
theorem dX3_setMark_26 : decode cX3_setMark 26 = .ok (.sipush 129, 3) := by decide +kernel
theorem dX3_setMark_29 : decode cX3_setMark 29 = .ok (.iload_n 1, 1) := by decide +kernel
theorem dX3_setMark_30 : decode cX3_setMark 30 = .ok (.iadd, 1) := by decide +kernel
theorem dX3_setMark_31 : decode cX3_setMark 31 = .ok (.iload_n 2, 1) := by decide +kernel
theorem dX3_setMark_32 : decode cX3_setMark 32 = .ok (.ifCond .eq 7, 3) := by decide +kernel
theorem dX3_setMark_35 : decode cX3_setMark 35 = .ok (.iconst 1, 1) := by decide +kernel
theorem dX3_setMark_36 : decode cX3_setMark 36 = .ok (.goto 4, 3) := by decide +kernel
theorem dX3_setMark_39 : decode cX3_setMark 39 = .ok (.iconst 0, 1) := by decide +kernel
theorem dX3_setMark_40 : decode cX3_setMark 40 = .ok (.iastore, 1) := by decide +kernel
theorem dX3_setMark_41 : decode cX3_setMark 41 = .ok (.iload_n 3, 1) := by decide +kernel
theorem dX3_setMark_42 : decode cX3_setMark 42 = .ok (.ireturn, 1) := by decide +kernel
set_option maxRecDepth 20000 in
theorem ggX3_nearestMarked_X3_isVertex : GoodIn wsX3_nearestMarked wsX3_isVertex := goodIn_r _ [8, 9, 10, 11, 7, 12, 3, 13, 14, 15, 40, 41, 42, 43, 44] (by decide +kernel) (by decide +kernel)
set_option maxRecDepth 20000 in
theorem gX3_nearestMarked_X3_isVertex : GoodIn wsX3_nearestMarked (wsV RX3 44 RX3 yX3_isVertex wsX3_isVertex) := goodIn_app (goodIn_of _ (by decide +kernel)) ggX3_nearestMarked_X3_isVertex
set_option maxRecDepth 20000 in
theorem ggX3_nearestMarked_X3_rootOf : GoodIn wsX3_nearestMarked wsX3_rootOf := goodIn_r _ [19, 20, 21, 22, 7, 23, 24, 25, 26, 27, 3, 40, 41, 42, 43, 44] (by decide +kernel) (by decide +kernel)
set_option maxRecDepth 20000 in
theorem gX3_nearestMarked_X3_rootOf : GoodIn wsX3_nearestMarked (wsV RX3 49 RX3 yX3_rootOf wsX3_rootOf) := goodIn_app (goodIn_of _ (by decide +kernel)) ggX3_nearestMarked_X3_rootOf
set_option maxRecDepth 20000 in
theorem ggX3_nearestMarked_X3_many : GoodIn wsX3_nearestMarked wsX3_many := goodIn_r _ [12, 3, 40, 41, 42, 43, 44] (by decide +kernel) (by decide +kernel)
set_option maxRecDepth 20000 in
theorem gX3_nearestMarked_X3_many : GoodIn wsX3_nearestMarked (wsV RX3 27 RX3 yX3_many wsX3_many) := goodIn_app (goodIn_of _ (by decide +kernel)) ggX3_nearestMarked_X3_many
set_option maxRecDepth 20000 in
theorem ggX3_nearestMarked_X3_distanceOf : GoodIn wsX3_nearestMarked wsX3_distanceOf := goodIn_r _ [31, 32, 33, 34, 7, 35, 20, 21, 22, 23, 24, 25, 26, 27, 3, 36, 37, 38, 39, 40, 41, 42, 43, 44] (by decide +kernel) (by decide +kernel)
set_option maxRecDepth 20000 in
theorem gX3_nearestMarked_X3_distanceOf : GoodIn wsX3_nearestMarked (wsV RX3 69 RX3 yX3_distanceOf wsX3_distanceOf) := goodIn_app (goodIn_of _ (by decide +kernel)) ggX3_nearestMarked_X3_distanceOf
theorem dX3_nearestMarked_0 : decode cX3_nearestMarked 0 = .ok (.aload_n 0, 1) := by decide +kernel
theorem dX3_nearestMarked_1 : decode cX3_nearestMarked 1 = .ok (.iload_n 1, 1) := by decide +kernel
theorem dX3_nearestMarked_2 : decode cX3_nearestMarked 2 = .ok (.invokevirtual 44, 3) := by decide +kernel
theorem dX3_nearestMarked_5 : decode cX3_nearestMarked 5 = .ok (.ifCond .ne 6, 3) := by decide +kernel
theorem dX3_nearestMarked_8 : decode cX3_nearestMarked 8 = .ok (.ldc 47, 2) := by decide +kernel
theorem dX3_nearestMarked_10 : decode cX3_nearestMarked 10 = .ok (.ireturn, 1) := by decide +kernel
theorem dX3_nearestMarked_11 : decode cX3_nearestMarked 11 = .ok (.aload_n 0, 1) := by decide +kernel
theorem dX3_nearestMarked_12 : decode cX3_nearestMarked 12 = .ok (.iload_n 1, 1) := by decide +kernel
theorem dX3_nearestMarked_13 : decode cX3_nearestMarked 13 = .ok (.invokevirtual 49, 3) := by decide +kernel
theorem dX3_nearestMarked_16 : decode cX3_nearestMarked 16 = .ok (.istore_n 2, 1) := by decide +kernel
theorem dX3_nearestMarked_17 : decode cX3_nearestMarked 17 = .ok (.ldc 53, 2) := by decide +kernel
theorem dX3_nearestMarked_19 : decode cX3_nearestMarked 19 = .ok (.istore_n 3, 1) := by decide +kernel
theorem dX3_nearestMarked_20 : decode cX3_nearestMarked 20 = .ok (.bipush 64, 2) := by decide +kernel
theorem dX3_nearestMarked_22 : decode cX3_nearestMarked 22 = .ok (.istore 4, 2) := by decide +kernel
theorem dX3_nearestMarked_24 : decode cX3_nearestMarked 24 = .ok (.iconst 0, 1) := by decide +kernel
theorem dX3_nearestMarked_25 : decode cX3_nearestMarked 25 = .ok (.istore 5, 2) := by decide +kernel
theorem dX3_nearestMarked_27 : decode cX3_nearestMarked 27 = .ok (.iload 5, 2) := by decide +kernel
theorem dX3_nearestMarked_29 : decode cX3_nearestMarked 29 = .ok (.aload_n 0, 1) := by decide +kernel
theorem dX3_nearestMarked_30 : decode cX3_nearestMarked 30 = .ok (.invokevirtual 27, 3) := by decide +kernel
theorem dX3_nearestMarked_33 : decode cX3_nearestMarked 33 = .ok (.if_icmp .ge 58, 3) := by decide +kernel
theorem dX3_nearestMarked_36 : decode cX3_nearestMarked 36 = .ok (.aload_n 0, 1) := by decide +kernel
theorem dX3_nearestMarked_37 : decode cX3_nearestMarked 37 = .ok (.getfield 7, 3) := by decide +kernel
theorem dX3_nearestMarked_40 : decode cX3_nearestMarked 40 = .ok (.sipush 129, 3) := by decide +kernel
theorem dX3_nearestMarked_43 : decode cX3_nearestMarked 43 = .ok (.iload 5, 2) := by decide +kernel
theorem dX3_nearestMarked_45 : decode cX3_nearestMarked 45 = .ok (.iadd, 1) := by decide +kernel
theorem dX3_nearestMarked_46 : decode cX3_nearestMarked 46 = .ok (.iaload, 1) := by decide +kernel
theorem dX3_nearestMarked_47 : decode cX3_nearestMarked 47 = .ok (.iconst 1, 1) := by decide +kernel
theorem dX3_nearestMarked_48 : decode cX3_nearestMarked 48 = .ok (.if_icmp .ne 37, 3) := by decide +kernel
theorem dX3_nearestMarked_51 : decode cX3_nearestMarked 51 = .ok (.aload_n 0, 1) := by decide +kernel
theorem dX3_nearestMarked_52 : decode cX3_nearestMarked 52 = .ok (.iload 5, 2) := by decide +kernel
theorem dX3_nearestMarked_54 : decode cX3_nearestMarked 54 = .ok (.invokevirtual 49, 3) := by decide +kernel
theorem dX3_nearestMarked_57 : decode cX3_nearestMarked 57 = .ok (.iload_n 2, 1) := by decide +kernel
theorem dX3_nearestMarked_58 : decode cX3_nearestMarked 58 = .ok (.if_icmp .ne 27, 3) := by decide +kernel
theorem dX3_nearestMarked_61 : decode cX3_nearestMarked 61 = .ok (.aload_n 0, 1) := by decide +kernel
theorem dX3_nearestMarked_62 : decode cX3_nearestMarked 62 = .ok (.iload_n 1, 1) := by decide +kernel
theorem dX3_nearestMarked_63 : decode cX3_nearestMarked 63 = .ok (.iload 5, 2) := by decide +kernel
theorem dX3_nearestMarked_65 : decode cX3_nearestMarked 65 = .ok (.invokevirtual 69, 3) := by decide +kernel
theorem dX3_nearestMarked_68 : decode cX3_nearestMarked 68 = .ok (.iload 4, 2) := by decide +kernel
theorem dX3_nearestMarked_70 : decode cX3_nearestMarked 70 = .ok (.if_icmp .ge 15, 3) := by decide +kernel
theorem dX3_nearestMarked_73 : decode cX3_nearestMarked 73 = .ok (.aload_n 0, 1) := by decide +kernel
theorem dX3_nearestMarked_74 : decode cX3_nearestMarked 74 = .ok (.iload_n 1, 1) := by decide +kernel
theorem dX3_nearestMarked_75 : decode cX3_nearestMarked 75 = .ok (.iload 5, 2) := by decide +kernel
theorem dX3_nearestMarked_77 : decode cX3_nearestMarked 77 = .ok (.invokevirtual 69, 3) := by decide +kernel
theorem dX3_nearestMarked_80 : decode cX3_nearestMarked 80 = .ok (.istore 4, 2) := by decide +kernel
theorem dX3_nearestMarked_82 : decode cX3_nearestMarked 82 = .ok (.iload 5, 2) := by decide +kernel
theorem dX3_nearestMarked_84 : decode cX3_nearestMarked 84 = .ok (.istore_n 3, 1) := by decide +kernel
theorem dX3_nearestMarked_85 : decode cX3_nearestMarked 85 = .ok (.iinc 5 1, 3) := by decide +kernel
theorem dX3_nearestMarked_88 : decode cX3_nearestMarked 88 = .ok (.goto (-61), 3) := by decide +kernel
theorem dX3_nearestMarked_91 : decode cX3_nearestMarked 91 = .ok (.iload_n 3, 1) := by decide +kernel
theorem dX3_nearestMarked_92 : decode cX3_nearestMarked 92 = .ok (.ireturn, 1) := by decide +kernel
set_option maxRecDepth 20000 in
theorem ggX3_save_X3_in : GoodIn wsX3_save wsX3_in := goodIn_r _ [8] (by decide +kernel) (by decide +kernel)
set_option maxRecDepth 20000 in
theorem gX3_save_X3_in : GoodIn wsX3_save (va_wsS RX3 31 yX3_in wsX3_in) := goodIn_app (goodIn_of _ (by decide +kernel)) ggX3_save_X3_in
set_option maxRecDepth 20000 in
theorem ggX3_save_X3_many : GoodIn wsX3_save wsX3_many := goodIn_r _ [12, 3, 13, 14, 15, 16, 17] (by decide +kernel) (by decide +kernel)
set_option maxRecDepth 20000 in
theorem gX3_save_X3_many : GoodIn wsX3_save (wsV RX3 27 RX3 yX3_many wsX3_many) := goodIn_app (goodIn_of _ (by decide +kernel)) ggX3_save_X3_many
theorem dX3_save_0 : decode cX3_save 0 = .ok (.iload_n 1, 1) := by decide +kernel
theorem dX3_save_1 : decode cX3_save 1 = .ok (.iconst 0, 1) := by decide +kernel
theorem dX3_save_2 : decode cX3_save 2 = .ok (.iconst 1, 1) := by decide +kernel
theorem dX3_save_3 : decode cX3_save 3 = .ok (.invokestatic 31, 3) := by decide +kernel
theorem dX3_save_6 : decode cX3_save 6 = .ok (.ifCond .ne 6, 3) := by decide +kernel
theorem dX3_save_9 : decode cX3_save 9 = .ok (.ldc 43, 2) := by decide +kernel
theorem dX3_save_11 : decode cX3_save 11 = .ok (.ireturn, 1) := by decide +kernel
theorem dX3_save_12 : decode cX3_save 12 = .ok (.iconst 0, 1) := by decide +kernel
theorem dX3_save_13 : decode cX3_save 13 = .ok (.istore_n 2, 1) := by decide +kernel
theorem dX3_save_14 : decode cX3_save 14 = .ok (.iload_n 2, 1) := by decide +kernel
theorem dX3_save_15 : decode cX3_save 15 = .ok (.sipush 193, 3) := by decide +kernel
theorem dX3_save_18 : decode cX3_save 18 = .ok (.if_icmp .ge 27, 3) := by decide +kernel
theorem dX3_save_21 : decode cX3_save 21 = .ok (.aload_n 0, 1) := by decide +kernel
theorem dX3_save_22 : decode cX3_save 22 = .ok (.getfield 13, 3) := by decide +kernel
theorem dX3_save_25 : decode cX3_save 25 = .ok (.sipush 193, 3) := by decide +kernel
theorem dX3_save_28 : decode cX3_save 28 = .ok (.iload_n 1, 1) := by decide +kernel
theorem dX3_save_29 : decode cX3_save 29 = .ok (.imul, 1) := by decide +kernel
theorem dX3_save_30 : decode cX3_save 30 = .ok (.iload_n 2, 1) := by decide +kernel
theorem dX3_save_31 : decode cX3_save 31 = .ok (.iadd, 1) := by decide +kernel
theorem dX3_save_32 : decode cX3_save 32 = .ok (.aload_n 0, 1) := by decide +kernel
theorem dX3_save_33 : decode cX3_save 33 = .ok (.getfield 7, 3) := by decide +kernel
theorem dX3_save_36 : decode cX3_save 36 = .ok (.iload_n 2, 1) := by decide +kernel
theorem dX3_save_37 : decode cX3_save 37 = .ok (.iaload, 1) := by decide +kernel
theorem dX3_save_38 : decode cX3_save 38 = .ok (.iastore, 1) := by decide +kernel
theorem dX3_save_39 : decode cX3_save 39 = .ok (.iinc 2 1, 3) := by decide +kernel
theorem dX3_save_42 : decode cX3_save 42 = .ok (.goto (-28), 3) := by decide +kernel
theorem dX3_save_45 : decode cX3_save 45 = .ok (.aload_n 0, 1) := by decide +kernel
theorem dX3_save_46 : decode cX3_save 46 = .ok (.getfield 16, 3) := by decide +kernel
theorem dX3_save_49 : decode cX3_save 49 = .ok (.iload_n 1, 1) := by decide +kernel
theorem dX3_save_50 : decode cX3_save 50 = .ok (.iconst 1, 1) := by decide +kernel
theorem dX3_save_51 : decode cX3_save 51 = .ok (.bastore, 1) := by decide +kernel
theorem dX3_save_52 : decode cX3_save 52 = .ok (.aload_n 0, 1) := by decide +kernel
theorem dX3_save_53 : decode cX3_save 53 = .ok (.invokevirtual 27, 3) := by decide +kernel
theorem dX3_save_56 : decode cX3_save 56 = .ok (.ireturn, 1) := by decide +kernel
set_option maxRecDepth 20000 in
theorem ggX3_restore_X3_in : GoodIn wsX3_restore wsX3_in := goodIn_r _ [9] (by decide +kernel) (by decide +kernel)
set_option maxRecDepth 20000 in
theorem gX3_restore_X3_in : GoodIn wsX3_restore (va_wsS RX3 31 yX3_in wsX3_in) := goodIn_app (goodIn_of _ (by decide +kernel)) ggX3_restore_X3_in
set_option maxRecDepth 20000 in
theorem ggX3_restore_X3_many : GoodIn wsX3_restore wsX3_many := goodIn_r _ [13, 4, 14, 15, 16, 17, 18] (by decide +kernel) (by decide +kernel)
set_option maxRecDepth 20000 in
theorem gX3_restore_X3_many : GoodIn wsX3_restore (wsV RX3 27 RX3 yX3_many wsX3_many) := goodIn_app (goodIn_of _ (by decide +kernel)) ggX3_restore_X3_many
theorem dX3_restore_0 : decode cX3_restore 0 = .ok (.iload_n 1, 1) := by decide +kernel
theorem dX3_restore_1 : decode cX3_restore 1 = .ok (.iconst 0, 1) := by decide +kernel
theorem dX3_restore_2 : decode cX3_restore 2 = .ok (.iconst 1, 1) := by decide +kernel
theorem dX3_restore_3 : decode cX3_restore 3 = .ok (.invokestatic 31, 3) := by decide +kernel
theorem dX3_restore_6 : decode cX3_restore 6 = .ok (.ifCond .ne 6, 3) := by decide +kernel
theorem dX3_restore_9 : decode cX3_restore 9 = .ok (.ldc 43, 2) := by decide +kernel
theorem dX3_restore_11 : decode cX3_restore 11 = .ok (.ireturn, 1) := by decide +kernel
theorem dX3_restore_12 : decode cX3_restore 12 = .ok (.aload_n 0, 1) := by decide +kernel
theorem dX3_restore_13 : decode cX3_restore 13 = .ok (.getfield 16, 3) := by decide +kernel
theorem dX3_restore_16 : decode cX3_restore 16 = .ok (.iload_n 1, 1) := by decide +kernel
theorem dX3_restore_17 : decode cX3_restore 17 = .ok (.baload, 1) := by decide +kernel
theorem dX3_restore_18 : decode cX3_restore 18 = .ok (.ifCond .ne 6, 3) := by decide +kernel
theorem dX3_restore_21 : decode cX3_restore 21 = .ok (.ldc 92, 2) := by decide +kernel
theorem dX3_restore_23 : decode cX3_restore 23 = .ok (.ireturn, 1) := by decide +kernel
theorem dX3_restore_24 : decode cX3_restore 24 = .ok (.iconst 0, 1) := by decide +kernel
theorem dX3_restore_25 : decode cX3_restore 25 = .ok (.istore_n 2, 1) := by decide +kernel
theorem dX3_restore_26 : decode cX3_restore 26 = .ok (.iload_n 2, 1) := by decide +kernel
theorem dX3_restore_27 : decode cX3_restore 27 = .ok (.sipush 193, 3) := by decide +kernel
theorem dX3_restore_30 : decode cX3_restore 30 = .ok (.if_icmp .ge 27, 3) := by decide +kernel
theorem dX3_restore_33 : decode cX3_restore 33 = .ok (.aload_n 0, 1) := by decide +kernel
theorem dX3_restore_34 : decode cX3_restore 34 = .ok (.getfield 7, 3) := by decide +kernel
theorem dX3_restore_37 : decode cX3_restore 37 = .ok (.iload_n 2, 1) := by decide +kernel
theorem dX3_restore_38 : decode cX3_restore 38 = .ok (.aload_n 0, 1) := by decide +kernel
theorem dX3_restore_39 : decode cX3_restore 39 = .ok (.getfield 13, 3) := by decide +kernel
theorem dX3_restore_42 : decode cX3_restore 42 = .ok (.sipush 193, 3) := by decide +kernel
theorem dX3_restore_45 : decode cX3_restore 45 = .ok (.iload_n 1, 1) := by decide +kernel
theorem dX3_restore_46 : decode cX3_restore 46 = .ok (.imul, 1) := by decide +kernel
theorem dX3_restore_47 : decode cX3_restore 47 = .ok (.iload_n 2, 1) := by decide +kernel
theorem dX3_restore_48 : decode cX3_restore 48 = .ok (.iadd, 1) := by decide +kernel
theorem dX3_restore_49 : decode cX3_restore 49 = .ok (.iaload, 1) := by decide +kernel
theorem dX3_restore_50 : decode cX3_restore 50 = .ok (.iastore, 1) := by decide +kernel
theorem dX3_restore_51 : decode cX3_restore 51 = .ok (.iinc 2 1, 3) := by decide +kernel
theorem dX3_restore_54 : decode cX3_restore 54 = .ok (.goto (-28), 3) := by decide +kernel
theorem dX3_restore_57 : decode cX3_restore 57 = .ok (.aload_n 0, 1) := by decide +kernel
theorem dX3_restore_58 : decode cX3_restore 58 = .ok (.invokevirtual 27, 3) := by decide +kernel
theorem dX3_restore_61 : decode cX3_restore 61 = .ok (.ireturn, 1) := by decide +kernel
