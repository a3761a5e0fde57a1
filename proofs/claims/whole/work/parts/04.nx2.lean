theorem dX2_init_0 : decode cX2_init 0 = .ok (.aload_n 0, 1) := by decide +kernel
theorem dX2_init_1 : decode cX2_init 1 = .ok (.invokespecial 1, 3) := by decide +kernel
theorem dX2_init_4 : decode cX2_init 4 = .ok (.aload_n 0, 1) := by decide +kernel
theorem dX2_init_5 : decode cX2_init 5 = .ok (.new 7, 3) := by decide +kernel
theorem dX2_init_8 : decode cX2_init 8 = .ok (.dup, 1) := by decide +kernel
theorem dX2_init_9 : decode cX2_init 9 = .ok (.invokespecial 9, 3) := by decide +kernel
theorem dX2_init_12 : decode cX2_init 12 = .ok (.putfield 10, 3) := by decide +kernel
theorem dX2_init_15 : decode cX2_init 15 = .ok (.aload_n 0, 1) := by decide +kernel
theorem dX2_init_16 : decode cX2_init 16 = .ok (.new 7, 3) := by decide +kernel
theorem dX2_init_19 : decode cX2_init 19 = .ok (.dup, 1) := by decide +kernel
theorem dX2_init_20 : decode cX2_init 20 = .ok (.invokespecial 9, 3) := by decide +kernel
theorem dX2_init_23 : decode cX2_init 23 = .ok (.putfield 16, 3) := by decide +kernel
theorem dX2_init_26 : decode cX2_init 26 = .ok (.aload_n 0, 1) := by decide +kernel
theorem dX2_init_27 : decode cX2_init 27 = .ok (.new 7, 3) := by decide +kernel
theorem dX2_init_30 : decode cX2_init 30 = .ok (.dup, 1) := by decide +kernel
theorem dX2_init_31 : decode cX2_init 31 = .ok (.invokespecial 9, 3) := by decide +kernel
theorem dX2_init_34 : decode cX2_init 34 = .ok (.putfield 19, 3) := by decide +kernel
theorem dX2_init_37 : decode cX2_init 37 = .ok (.aload_n 0, 1) := by decide +kernel
theorem dX2_init_38 : decode cX2_init 38 = .ok (.new 22, 3) := by decide +kernel
theorem dX2_init_41 : decode cX2_init 41 = .ok (.dup, 1) := by decide +kernel
theorem dX2_init_42 : decode cX2_init 42 = .ok (.invokespecial 24, 3) := by decide +kernel
theorem dX2_init_45 : decode cX2_init 45 = .ok (.putfield 25, 3) := by decide +kernel
theorem dX2_init_48 : decode cX2_init 48 = .ok (.aload_n 0, 1) := by decide +kernel
theorem dX2_init_49 : decode cX2_init 49 = .ok (.getfield 10, 3) := by decide +kernel
theorem dX2_init_52 : decode cX2_init 52 = .ok (.bipush 16, 2) := by decide +kernel
theorem dX2_init_54 : decode cX2_init 54 = .ok (.invokevirtual 29, 3) := by decide +kernel
theorem dX2_init_57 : decode cX2_init 57 = .ok (.return_, 1) := by decide +kernel
set_option maxRecDepth 20000 in
theorem ggX2_reset_X0_size : GoodIn wsX2_reset wsX0_size := goodIn_r _ [7, 8, 20, 21, 22, 23] (by decide +kernel) (by decide +kernel)
set_option maxRecDepth 20000 in
theorem gX2_reset_X0_size : GoodIn wsX2_reset (wsV RX2 34 RX0 yX0_size wsX0_size) := goodIn_app (goodIn_of _ (by decide +kernel)) ggX2_reset_X0_size
set_option maxRecDepth 20000 in
theorem ggX2_reset_X0_startAnew : GoodIn wsX2_reset wsX0_startAnew := goodIn_r _ [12, 8, 13, 14, 15, 20, 21, 22, 23] (by decide +kernel) (by decide +kernel)
set_option maxRecDepth 20000 in
theorem gX2_reset_X0_startAnew : GoodIn wsX2_reset (wsV RX2 29 RX0 yX0_startAnew wsX0_startAnew) := goodIn_app (goodIn_of _ (by decide +kernel)) ggX2_reset_X0_startAnew
theorem dX2_reset_0 : decode cX2_reset 0 = .ok (.iload_n 1, 1) := by decide +kernel
theorem dX2_reset_1 : decode cX2_reset 1 = .ok (.iconst 1, 1) := by decide +kernel
theorem dX2_reset_2 : decode cX2_reset 2 = .ok (.if_icmp .lt 9, 3) := by decide +kernel
theorem dX2_reset_5 : decode cX2_reset 5 = .ok (.iload_n 1, 1) := by decide +kernel
theorem dX2_reset_6 : decode cX2_reset 6 = .ok (.bipush 64, 2) := by decide +kernel
theorem dX2_reset_8 : decode cX2_reset 8 = .ok (.if_icmp .le 6, 3) := by decide +kernel
theorem dX2_reset_11 : decode cX2_reset 11 = .ok (.ldc 33, 2) := by decide +kernel
theorem dX2_reset_13 : decode cX2_reset 13 = .ok (.ireturn, 1) := by decide +kernel
theorem dX2_reset_14 : decode cX2_reset 14 = .ok (.aload_n 0, 1) := by decide +kernel
theorem dX2_reset_15 : decode cX2_reset 15 = .ok (.getfield 10, 3) := by decide +kernel
theorem dX2_reset_18 : decode cX2_reset 18 = .ok (.invokevirtual 34, 3) := by decide +kernel
theorem dX2_reset_21 : decode cX2_reset 21 = .ok (.istore_n 2, 1) := by decide +kernel
theorem dX2_reset_22 : decode cX2_reset 22 = .ok (.aload_n 0, 1) := by decide +kernel
theorem dX2_reset_23 : decode cX2_reset 23 = .ok (.getfield 10, 3) := by decide +kernel
theorem dX2_reset_26 : decode cX2_reset 26 = .ok (.iload_n 1, 1) := by decide +kernel
theorem dX2_reset_27 : decode cX2_reset 27 = .ok (.invokevirtual 29, 3) := by decide +kernel
theorem dX2_reset_30 : decode cX2_reset 30 = .ok (.iload_n 2, 1) := by decide +kernel
theorem dX2_reset_31 : decode cX2_reset 31 = .ok (.ireturn, 1) := by decide +kernel
set_option maxRecDepth 20000 in
theorem ggX2_link_X0_has : GoodIn wsX2_link wsX0_has := goodIn_r _ [9, 10, 49, 50, 51, 52] (by decide +kernel) (by decide +kernel)
set_option maxRecDepth 20000 in
theorem gX2_link_X0_has : GoodIn wsX2_link (wsV RX2 38 RX0 yX0_has wsX0_has) := goodIn_app (goodIn_of _ (by decide +kernel)) ggX2_link_X0_has
set_option maxRecDepth 20000 in
theorem ggX2_link_X0_isRoot : GoodIn wsX2_link wsX0_isRoot := goodIn_r _ [14, 15, 16, 17, 8, 18, 19, 20, 6, 7, 9, 10, 49, 50, 51, 52] (by decide +kernel) (by decide +kernel)
set_option maxRecDepth 20000 in
theorem gX2_link_X0_isRoot : GoodIn wsX2_link (wsV RX2 43 RX0 yX0_isRoot wsX0_isRoot) := goodIn_app (goodIn_of _ (by decide +kernel)) ggX2_link_X0_isRoot
set_option maxRecDepth 20000 in
theorem ggX2_link_X0_rootOf : GoodIn wsX2_link wsX0_rootOf := goodIn_r _ [24, 25, 26, 27, 8, 28, 15, 16, 17, 18, 19, 20, 6, 7, 9, 10, 29, 30, 31, 32, 49, 50, 51, 52] (by decide +kernel) (by decide +kernel)
set_option maxRecDepth 20000 in
theorem gX2_link_X0_rootOf : GoodIn wsX2_link (wsV RX2 47 RX0 yX0_rootOf wsX0_rootOf) := goodIn_app (goodIn_of _ (by decide +kernel)) ggX2_link_X0_rootOf
set_option maxRecDepth 20000 in
theorem ggX2_link_X0_putParent : GoodIn wsX2_link wsX0_putParent := goodIn_r _ [36, 19, 20, 6, 7, 8, 9, 10, 49, 50, 51, 52] (by decide +kernel) (by decide +kernel)
set_option maxRecDepth 20000 in
theorem gX2_link_X0_putParent : GoodIn wsX2_link (wsV RX2 52 RX0 yX0_putParent wsX0_putParent) := goodIn_app (goodIn_of _ (by decide +kernel)) ggX2_link_X0_putParent
set_option maxRecDepth 20000 in
theorem ggX2_link_X0_countBelow : GoodIn wsX2_link wsX0_countBelow := goodIn_r _ [40, 10, 41, 42, 43, 8, 44, 25, 26, 27, 28, 15, 16, 17, 18, 19, 20, 6, 7, 9, 29, 30, 31, 32, 49, 50, 51, 52] (by decide +kernel) (by decide +kernel)
set_option maxRecDepth 20000 in
theorem gX2_link_X0_countBelow : GoodIn wsX2_link (wsV RX2 56 RX0 yX0_countBelow wsX0_countBelow) := goodIn_app (goodIn_of _ (by decide +kernel)) ggX2_link_X0_countBelow
theorem dX2_link_0 : decode cX2_link 0 = .ok (.aload_n 0, 1) := by decide +kernel
theorem dX2_link_1 : decode cX2_link 1 = .ok (.getfield 10, 3) := by decide +kernel
theorem dX2_link_4 : decode cX2_link 4 = .ok (.iload_n 1, 1) := by decide +kernel
theorem dX2_link_5 : decode cX2_link 5 = .ok (.invokevirtual 38, 3) := by decide +kernel
theorem dX2_link_8 : decode cX2_link 8 = .ok (.ifCond .eq 14, 3) := by decide +kernel
theorem dX2_link_11 : decode cX2_link 11 = .ok (.aload_n 0, 1) := by decide +kernel
theorem dX2_link_12 : decode cX2_link 12 = .ok (.getfield 10, 3) := by decide +kernel
theorem dX2_link_15 : decode cX2_link 15 = .ok (.iload_n 2, 1) := by decide +kernel
theorem dX2_link_16 : decode cX2_link 16 = .ok (.invokevirtual 38, 3) := by decide +kernel
theorem dX2_link_19 : decode cX2_link 19 = .ok (.ifCond .ne 6, 3) := by decide +kernel
theorem dX2_link_22 : decode cX2_link 22 = .ok (.ldc 42, 2) := by decide +kernel
theorem dX2_link_24 : decode cX2_link 24 = .ok (.ireturn, 1) := by decide +kernel
theorem dX2_link_25 : decode cX2_link 25 = .ok (.aload_n 0, 1) := by decide +kernel
theorem dX2_link_26 : decode cX2_link 26 = .ok (.getfield 10, 3) := by decide +kernel
theorem dX2_link_29 : decode cX2_link 29 = .ok (.iload_n 1, 1) := by decide +kernel
theorem dX2_link_30 : decode cX2_link 30 = .ok (.invokevirtual 43, 3) := by decide +kernel
theorem dX2_link_33 : decode cX2_link 33 = .ok (.ifCond .ne 6, 3) := by decide +kernel
theorem dX2_link_36 : decode cX2_link 36 = .ok (.ldc 46, 2) := by decide +kernel
theorem dX2_link_38 : decode cX2_link 38 = .ok (.ireturn, 1) := by decide +kernel
theorem dX2_link_39 : decode cX2_link 39 = .ok (.aload_n 0, 1) := by decide +kernel
theorem dX2_link_40 : decode cX2_link 40 = .ok (.getfield 10, 3) := by decide +kernel
theorem dX2_link_43 : decode cX2_link 43 = .ok (.iload_n 2, 1) := by decide +kernel
theorem dX2_link_44 : decode cX2_link 44 = .ok (.invokevirtual 47, 3) := by decide +kernel
theorem dX2_link_47 : decode cX2_link 47 = .ok (.iload_n 1, 1) := by decide +kernel
theorem dX2_link_48 : decode cX2_link 48 = .ok (.if_icmp .ne 6, 3) := by decide +kernel
theorem dX2_link_51 : decode cX2_link 51 = .ok (.ldc 51, 2) := by decide +kernel
theorem dX2_link_53 : decode cX2_link 53 = .ok (.ireturn, 1) := by decide +kernel
theorem dX2_link_54 : decode cX2_link 54 = .ok (.aload_n 0, 1) := by decide +kernel
theorem dX2_link_55 : decode cX2_link 55 = .ok (.getfield 10, 3) := by decide +kernel
theorem dX2_link_58 : decode cX2_link 58 = .ok (.iload_n 1, 1) := by decide +kernel
theorem dX2_link_59 : decode cX2_link 59 = .ok (.iload_n 2, 1) := by decide +kernel
theorem dX2_link_60 : decode cX2_link 60 = .ok (.invokevirtual 52, 3) := by decide +kernel
theorem dX2_link_63 : decode cX2_link 63 = .ok (.aload_n 0, 1) := by decide +kernel
theorem dX2_link_64 : decode cX2_link 64 = .ok (.getfield 10, 3) := by decide +kernel
theorem dX2_link_67 : decode cX2_link 67 = .ok (.aload_n 0, 1) := by decide +kernel
theorem dX2_link_68 : decode cX2_link 68 = .ok (.getfield 10, 3) := by decide +kernel
theorem dX2_link_71 : decode cX2_link 71 = .ok (.iload_n 2, 1) := by decide +kernel
theorem dX2_link_72 : decode cX2_link 72 = .ok (.invokevirtual 47, 3) := by decide +kernel
theorem dX2_link_75 : decode cX2_link 75 = .ok (.invokevirtual 56, 3) := by decide +kernel
theorem dX2_link_78 : decode cX2_link 78 = .ok (.ireturn, 1) := by decide +kernel
set_option maxRecDepth 20000 in
theorem ggX2_cut_X0_has : GoodIn wsX2_cut wsX0_has := goodIn_r _ [8, 9, 29, 30, 31, 32] (by decide +kernel) (by decide +kernel)
set_option maxRecDepth 20000 in
theorem gX2_cut_X0_has : GoodIn wsX2_cut (wsV RX2 38 RX0 yX0_has wsX0_has) := goodIn_app (goodIn_of _ (by decide +kernel)) ggX2_cut_X0_has
set_option maxRecDepth 20000 in
theorem ggX2_cut_X0_isRoot : GoodIn wsX2_cut wsX0_isRoot := goodIn_r _ [13, 14, 15, 16, 7, 17, 18, 19, 5, 6, 8, 9, 29, 30, 31, 32] (by decide +kernel) (by decide +kernel)
set_option maxRecDepth 20000 in
theorem gX2_cut_X0_isRoot : GoodIn wsX2_cut (wsV RX2 43 RX0 yX0_isRoot wsX0_isRoot) := goodIn_app (goodIn_of _ (by decide +kernel)) ggX2_cut_X0_isRoot
set_option maxRecDepth 20000 in
theorem ggX2_cut_X0_parentOf : GoodIn wsX2_cut wsX0_parentOf := goodIn_r _ [17, 18, 19, 5, 6, 7, 8, 9, 29, 30, 31, 32] (by decide +kernel) (by decide +kernel)
set_option maxRecDepth 20000 in
theorem gX2_cut_X0_parentOf : GoodIn wsX2_cut (wsV RX2 60 RX0 yX0_parentOf wsX0_parentOf) := goodIn_app (goodIn_of _ (by decide +kernel)) ggX2_cut_X0_parentOf
set_option maxRecDepth 20000 in
theorem ggX2_cut_X0_putParent : GoodIn wsX2_cut wsX0_putParent := goodIn_r _ [24, 18, 19, 5, 6, 7, 8, 9, 29, 30, 31, 32] (by decide +kernel) (by decide +kernel)
set_option maxRecDepth 20000 in
theorem gX2_cut_X0_putParent : GoodIn wsX2_cut (wsV RX2 52 RX0 yX0_putParent wsX0_putParent) := goodIn_app (goodIn_of _ (by decide +kernel)) ggX2_cut_X0_putParent
theorem dX2_cut_0 : decode cX2_cut 0 = .ok (.aload_n 0, 1) := by decide +kernel
theorem dX2_cut_1 : decode cX2_cut 1 = .ok (.getfield 10, 3) := by decide +kernel
theorem dX2_cut_4 : decode cX2_cut 4 = .ok (.iload_n 1, 1) := by decide +kernel
theorem dX2_cut_5 : decode cX2_cut 5 = .ok (.invokevirtual 38, 3) := by decide +kernel
theorem dX2_cut_8 : decode cX2_cut 8 = .ok (.ifCond .ne 6, 3) := by decide +kernel
theorem dX2_cut_11 : decode cX2_cut 11 = .ok (.ldc 42, 2) := by decide +kernel
theorem dX2_cut_13 : decode cX2_cut 13 = .ok (.ireturn, 1) := by decide +kernel
theorem dX2_cut_14 : decode cX2_cut 14 = .ok (.aload_n 0, 1) := by decide +kernel
theorem dX2_cut_15 : decode cX2_cut 15 = .ok (.getfield 10, 3) := by decide +kernel
theorem dX2_cut_18 : decode cX2_cut 18 = .ok (.iload_n 1, 1) := by decide +kernel
theorem dX2_cut_19 : decode cX2_cut 19 = .ok (.invokevirtual 43, 3) := by decide +kernel
theorem dX2_cut_22 : decode cX2_cut 22 = .ok (.ifCond .eq 6, 3) := by decide +kernel
theorem dX2_cut_25 : decode cX2_cut 25 = .ok (.ldc 59, 2) := by decide +kernel
theorem dX2_cut_27 : decode cX2_cut 27 = .ok (.ireturn, 1) := by decide +kernel
theorem dX2_cut_28 : decode cX2_cut 28 = .ok (.aload_n 0, 1) := by decide +kernel
theorem dX2_cut_29 : decode cX2_cut 29 = .ok (.getfield 10, 3) := by decide +kernel
theorem dX2_cut_32 : decode cX2_cut 32 = .ok (.iload_n 1, 1) := by decide +kernel
theorem dX2_cut_33 : decode cX2_cut 33 = .ok (.invokevirtual 60, 3) := by decide +kernel
theorem dX2_cut_36 : decode cX2_cut 36 = .ok (.istore_n 2, 1) := by decide +kernel
theorem dX2_cut_37 : decode cX2_cut 37 = .ok (.aload_n 0, 1) := by decide +kernel
theorem dX2_cut_38 : decode cX2_cut 38 = .ok (.getfield 10, 3) := by decide +kernel
theorem dX2_cut_41 : decode cX2_cut 41 = .ok (.iload_n 1, 1) := by decide +kernel
theorem dX2_cut_42 : decode cX2_cut 42 = .ok (.iconst (-1), 1) := by decide +kernel
theorem dX2_cut_43 : decode cX2_cut 43 = .ok (.invokevirtual 52, 3) := by decide +kernel
theorem dX2_cut_46 : decode cX2_cut 46 = .ok (.iload_n 2, 1) := by decide +kernel
theorem dX2_cut_47 : decode cX2_cut 47 = .ok (.ireturn, 1) := by decide +kernel
set_option maxRecDepth 20000 in
theorem ggX2_reroot_X0_has : GoodIn wsX2_reroot wsX0_has := goodIn_r _ [7, 8, 39, 40, 41, 42] (by decide +kernel) (by decide +kernel)
set_option maxRecDepth 20000 in
theorem gX2_reroot_X0_has : GoodIn wsX2_reroot (wsV RX2 38 RX0 yX0_has wsX0_has) := goodIn_app (goodIn_of _ (by decide +kernel)) ggX2_reroot_X0_has
set_option maxRecDepth 20000 in
theorem ggX2_reroot_X0_rootOf : GoodIn wsX2_reroot wsX0_rootOf := goodIn_r _ [12, 13, 14, 15, 6, 16, 17, 18, 19, 20, 21, 22, 4, 5, 7, 8, 23, 24, 25, 26, 39, 40, 41, 42] (by decide +kernel) (by decide +kernel)
set_option maxRecDepth 20000 in
theorem gX2_reroot_X0_rootOf : GoodIn wsX2_reroot (wsV RX2 47 RX0 yX0_rootOf wsX0_rootOf) := goodIn_app (goodIn_of _ (by decide +kernel)) ggX2_reroot_X0_rootOf
set_option maxRecDepth 20000 in
theorem ggX2_reroot_X0_turnTowards : GoodIn wsX2_reroot wsX0_turnTowards := goodIn_r _ [30, 13, 14, 15, 6, 16, 17, 18, 19, 20, 21, 22, 4, 5, 7, 8, 31, 32, 33, 34, 39, 40, 41, 42] (by decide +kernel) (by decide +kernel)
set_option maxRecDepth 20000 in
theorem gX2_reroot_X0_turnTowards : GoodIn wsX2_reroot (wsV RX2 63 RX0 yX0_turnTowards wsX0_turnTowards) := goodIn_app (goodIn_of _ (by decide +kernel)) ggX2_reroot_X0_turnTowards
theorem dX2_reroot_0 : decode cX2_reroot 0 = .ok (.aload_n 0, 1) := by decide +kernel
theorem dX2_reroot_1 : decode cX2_reroot 1 = .ok (.getfield 10, 3) := by decide +kernel
theorem dX2_reroot_4 : decode cX2_reroot 4 = .ok (.iload_n 1, 1) := by decide +kernel
theorem dX2_reroot_5 : decode cX2_reroot 5 = .ok (.invokevirtual 38, 3) := by decide +kernel
theorem dX2_reroot_8 : decode cX2_reroot 8 = .ok (.ifCond .ne 6, 3) := by decide +kernel
theorem dX2_reroot_11 : decode cX2_reroot 11 = .ok (.ldc 42, 2) := by decide +kernel
theorem dX2_reroot_13 : decode cX2_reroot 13 = .ok (.ireturn, 1) := by decide +kernel
theorem dX2_reroot_14 : decode cX2_reroot 14 = .ok (.aload_n 0, 1) := by decide +kernel
theorem dX2_reroot_15 : decode cX2_reroot 15 = .ok (.getfield 10, 3) := by decide +kernel
theorem dX2_reroot_18 : decode cX2_reroot 18 = .ok (.iload_n 1, 1) := by decide +kernel
theorem dX2_reroot_19 : decode cX2_reroot 19 = .ok (.invokevirtual 47, 3) := by decide +kernel
theorem dX2_reroot_22 : decode cX2_reroot 22 = .ok (.istore_n 2, 1) := by decide +kernel
theorem dX2_reroot_23 : decode cX2_reroot 23 = .ok (.aload_n 0, 1) := by decide +kernel
theorem dX2_reroot_24 : decode cX2_reroot 24 = .ok (.getfield 10, 3) := by decide +kernel
theorem dX2_reroot_27 : decode cX2_reroot 27 = .ok (.iload_n 1, 1) := by decide +kernel
theorem dX2_reroot_28 : decode cX2_reroot 28 = .ok (.invokevirtual 63, 3) := by decide +kernel
theorem dX2_reroot_31 : decode cX2_reroot 31 = .ok (.iload_n 2, 1) := by decide +kernel
theorem dX2_reroot_32 : decode cX2_reroot 32 = .ok (.ireturn, 1) := by decide +kernel
set_option maxRecDepth 20000 in
theorem ggX2_vertexCount_X0_size : GoodIn wsX2_vertexCount wsX0_size := goodIn_r _ [6, 7, 12, 13, 14, 15] (by decide +kernel) (by decide +kernel)
set_option maxRecDepth 20000 in
theorem gX2_vertexCount_X0_size : GoodIn wsX2_vertexCount (wsV RX2 34 RX0 yX0_size wsX0_size) := goodIn_app (goodIn_of _ (by decide +kernel)) ggX2_vertexCount_X0_size
theorem dX2_vertexCount_0 : decode cX2_vertexCount 0 = .ok (.aload_n 0, 1) := by decide +kernel
theorem dX2_vertexCount_1 : decode cX2_vertexCount 1 = .ok (.getfield 10, 3) := by decide +kernel
theorem dX2_vertexCount_4 : decode cX2_vertexCount 4 = .ok (.invokevirtual 34, 3) := by decide +kernel
theorem dX2_vertexCount_7 : decode cX2_vertexCount 7 = .ok (.ireturn, 1) := by decide +kernel
set_option maxRecDepth 20000 in
theorem ggX2_treeCount_X0_countRoots : GoodIn wsX2_treeCount wsX0_countRoots := goodIn_r _ [6, 7, 8, 9, 10, 5, 11, 12, 13, 14, 15, 16, 17, 18, 19, 20, 25, 26, 27, 28] (by decide +kernel) (by decide +kernel)
set_option maxRecDepth 20000 in
theorem gX2_treeCount_X0_countRoots : GoodIn wsX2_treeCount (wsV RX2 66 RX0 yX0_countRoots wsX0_countRoots) := goodIn_app (goodIn_of _ (by decide +kernel)) ggX2_treeCount_X0_countRoots
theorem dX2_treeCount_0 : decode cX2_treeCount 0 = .ok (.aload_n 0, 1) := by decide +kernel
theorem dX2_treeCount_1 : decode cX2_treeCount 1 = .ok (.getfield 10, 3) := by decide +kernel
theorem dX2_treeCount_4 : decode cX2_treeCount 4 = .ok (.invokevirtual 66, 3) := by decide +kernel
theorem dX2_treeCount_7 : decode cX2_treeCount 7 = .ok (.ireturn, 1) := by decide +kernel
set_option maxRecDepth 20000 in
theorem ggX2_parent_X0_has : GoodIn wsX2_parent wsX0_has := goodIn_r _ [8, 9, 25, 26, 27, 28] (by decide +kernel) (by decide +kernel)
set_option maxRecDepth 20000 in
theorem gX2_parent_X0_has : GoodIn wsX2_parent (wsV RX2 38 RX0 yX0_has wsX0_has) := goodIn_app (goodIn_of _ (by decide +kernel)) ggX2_parent_X0_has
set_option maxRecDepth 20000 in
theorem ggX2_parent_X0_isRoot : GoodIn wsX2_parent wsX0_isRoot := goodIn_r _ [13, 14, 15, 16, 7, 17, 18, 19, 5, 6, 8, 9, 25, 26, 27, 28] (by decide +kernel) (by decide +kernel)
set_option maxRecDepth 20000 in
theorem gX2_parent_X0_isRoot : GoodIn wsX2_parent (wsV RX2 43 RX0 yX0_isRoot wsX0_isRoot) := goodIn_app (goodIn_of _ (by decide +kernel)) ggX2_parent_X0_isRoot
set_option maxRecDepth 20000 in
theorem ggX2_parent_X0_parentOf : GoodIn wsX2_parent wsX0_parentOf := goodIn_r _ [17, 18, 19, 5, 6, 7, 8, 9, 25, 26, 27, 28] (by decide +kernel) (by decide +kernel)
set_option maxRecDepth 20000 in
theorem gX2_parent_X0_parentOf : GoodIn wsX2_parent (wsV RX2 60 RX0 yX0_parentOf wsX0_parentOf) := goodIn_app (goodIn_of _ (by decide +kernel)) ggX2_parent_X0_parentOf
theorem dX2_parent_0 : decode cX2_parent 0 = .ok (.aload_n 0, 1) := by decide +kernel
theorem dX2_parent_1 : decode cX2_parent 1 = .ok (.getfield 10, 3) := by decide +kernel
theorem dX2_parent_4 : decode cX2_parent 4 = .ok (.iload_n 1, 1) := by decide +kernel
theorem dX2_parent_5 : decode cX2_parent 5 = .ok (.invokevirtual 38, 3) := by decide +kernel
theorem dX2_parent_8 : decode cX2_parent 8 = .ok (.ifCond .ne 6, 3) := by decide +kernel
theorem dX2_parent_11 : decode cX2_parent 11 = .ok (.ldc 42, 2) := by decide +kernel
theorem dX2_parent_13 : decode cX2_parent 13 = .ok (.ireturn, 1) := by decide +kernel
theorem dX2_parent_14 : decode cX2_parent 14 = .ok (.aload_n 0, 1) := by decide +kernel
theorem dX2_parent_15 : decode cX2_parent 15 = .ok (.getfield 10, 3) := by decide +kernel
theorem dX2_parent_18 : decode cX2_parent 18 = .ok (.iload_n 1, 1) := by decide +kernel
theorem dX2_parent_19 : decode cX2_parent 19 = .ok (.invokevirtual 43, 3) := by decide +kernel
theorem dX2_parent_22 : decode cX2_parent 22 = .ok (.ifCond .eq 8, 3) := by decide +kernel
theorem dX2_parent_25 : decode cX2_parent 25 = .ok (.ldc 59, 2) := by decide +kernel
theorem dX2_parent_27 : decode cX2_parent 27 = .ok (.goto 11, 3) := by decide +kernel
theorem dX2_parent_30 : decode cX2_parent 30 = .ok (.aload_n 0, 1) := by decide +kernel
theorem dX2_parent_31 : decode cX2_parent 31 = .ok (.getfield 10, 3) := by decide +kernel
theorem dX2_parent_34 : decode cX2_parent 34 = .ok (.iload_n 1, 1) := by decide +kernel
theorem dX2_parent_35 : decode cX2_parent 35 = .ok (.invokevirtual 60, 3) := by decide +kernel
theorem dX2_parent_38 : decode cX2_parent 38 = .ok (.ireturn, 1) := by decide +kernel
set_option maxRecDepth 20000 in
theorem ggX2_root_X0_has : GoodIn wsX2_root wsX0_has := goodIn_r _ [7, 8, 31, 32, 33, 34] (by decide +kernel) (by decide +kernel)
set_option maxRecDepth 20000 in
theorem gX2_root_X0_has : GoodIn wsX2_root (wsV RX2 38 RX0 yX0_has wsX0_has) := goodIn_app (goodIn_of _ (by decide +kernel)) ggX2_root_X0_has
set_option maxRecDepth 20000 in
theorem ggX2_root_X0_rootOf : GoodIn wsX2_root wsX0_rootOf := goodIn_r _ [12, 13, 14, 15, 6, 16, 17, 18, 19, 20, 21, 22, 4, 5, 7, 8, 23, 24, 25, 26, 31, 32, 33, 34] (by decide +kernel) (by decide +kernel)
set_option maxRecDepth 20000 in
theorem gX2_root_X0_rootOf : GoodIn wsX2_root (wsV RX2 47 RX0 yX0_rootOf wsX0_rootOf) := goodIn_app (goodIn_of _ (by decide +kernel)) ggX2_root_X0_rootOf
theorem dX2_root_0 : decode cX2_root 0 = .ok (.aload_n 0, 1) := by decide +kernel
theorem dX2_root_1 : decode cX2_root 1 = .ok (.getfield 10, 3) := by decide +kernel
theorem dX2_root_4 : decode cX2_root 4 = .ok (.iload_n 1, 1) := by decide +kernel
theorem dX2_root_5 : decode cX2_root 5 = .ok (.invokevirtual 38, 3) := by decide +kernel
theorem dX2_root_8 : decode cX2_root 8 = .ok (.ifCond .eq 14, 3) := by decide +kernel
theorem dX2_root_11 : decode cX2_root 11 = .ok (.aload_n 0, 1) := by decide +kernel
theorem dX2_root_12 : decode cX2_root 12 = .ok (.getfield 10, 3) := by decide +kernel
theorem dX2_root_15 : decode cX2_root 15 = .ok (.iload_n 1, 1) := by decide +kernel
theorem dX2_root_16 : decode cX2_root 16 = .ok (.invokevirtual 47, 3) := by decide +kernel
theorem dX2_root_19 : decode cX2_root 19 = .ok (.goto 5, 3) := by decide +kernel
theorem dX2_root_22 : decode cX2_root 22 = .ok (.ldc 42, 2) := by decide +kernel
theorem dX2_root_24 : decode cX2_root 24 = .ok (.ireturn, 1) := by decide +kernel
set_option maxRecDepth 20000 in
theorem ggX2_depth_X0_has : GoodIn wsX2_depth wsX0_has := goodIn_r _ [7, 8, 23, 24, 25, 26] (by decide +kernel) (by decide +kernel)
set_option maxRecDepth 20000 in
theorem gX2_depth_X0_has : GoodIn wsX2_depth (wsV RX2 38 RX0 yX0_has wsX0_has) := goodIn_app (goodIn_of _ (by decide +kernel)) ggX2_depth_X0_has
set_option maxRecDepth 20000 in
theorem ggX2_depth_X0_depthOf : GoodIn wsX2_depth wsX0_depthOf := goodIn_r _ [12, 13, 14, 15, 6, 16, 17, 18, 4, 5, 7, 8, 23, 24, 25, 26] (by decide +kernel) (by decide +kernel)
set_option maxRecDepth 20000 in
theorem gX2_depth_X0_depthOf : GoodIn wsX2_depth (wsV RX2 69 RX0 yX0_depthOf wsX0_depthOf) := goodIn_app (goodIn_of _ (by decide +kernel)) ggX2_depth_X0_depthOf
theorem dX2_depth_0 : decode cX2_depth 0 = .ok (.aload_n 0, 1) := by decide +kernel
theorem dX2_depth_1 : decode cX2_depth 1 = .ok (.getfield 10, 3) := by decide +kernel
theorem dX2_depth_4 : decode cX2_depth 4 = .ok (.iload_n 1, 1) := by decide +kernel
theorem dX2_depth_5 : decode cX2_depth 5 = .ok (.invokevirtual 38, 3) := by decide +kernel
theorem dX2_depth_8 : decode cX2_depth 8 = .ok (.ifCond .eq 14, 3) := by decide +kernel
theorem dX2_depth_11 : decode cX2_depth 11 = .ok (.aload_n 0, 1) := by decide +kernel
theorem dX2_depth_12 : decode cX2_depth 12 = .ok (.getfield 10, 3) := by decide +kernel
theorem dX2_depth_15 : decode cX2_depth 15 = .ok (.iload_n 1, 1) := by decide +kernel
theorem dX2_depth_16 : decode cX2_depth 16 = .ok (.invokevirtual 69, 3) := by decide +kernel
theorem dX2_depth_19 : decode cX2_depth 19 = .ok (.goto 5, 3) := by decide +kernel
theorem dX2_depth_22 : decode cX2_depth 22 = .ok (.ldc 42, 2) := by decide +kernel
theorem dX2_depth_24 : decode cX2_depth 24 = .ok (.ireturn, 1) := by decide +kernel
set_option maxRecDepth 20000 in
theorem ggX2_connected_X0_has : GoodIn wsX2_connected wsX0_has := goodIn_r _ [7, 8, 31, 32, 33, 34] (by decide +kernel) (by decide +kernel)
set_option maxRecDepth 20000 in
theorem gX2_connected_X0_has : GoodIn wsX2_connected (wsV RX2 38 RX0 yX0_has wsX0_has) := goodIn_app (goodIn_of _ (by decide +kernel)) ggX2_connected_X0_has
set_option maxRecDepth 20000 in
theorem ggX2_connected_X0_rootOf : GoodIn wsX2_connected wsX0_rootOf := goodIn_r _ [12, 13, 14, 15, 6, 16, 17, 18, 19, 20, 21, 22, 4, 5, 7, 8, 23, 24, 25, 26, 31, 32, 33, 34] (by decide +kernel) (by decide +kernel)
set_option maxRecDepth 20000 in
theorem gX2_connected_X0_rootOf : GoodIn wsX2_connected (wsV RX2 47 RX0 yX0_rootOf wsX0_rootOf) := goodIn_app (goodIn_of _ (by decide +kernel)) ggX2_connected_X0_rootOf
theorem dX2_connected_0 : decode cX2_connected 0 = .ok (.aload_n 0, 1) := by decide +kernel
theorem dX2_connected_1 : decode cX2_connected 1 = .ok (.getfield 10, 3) := by decide +kernel
theorem dX2_connected_4 : decode cX2_connected 4 = .ok (.iload_n 1, 1) := by decide +kernel
theorem dX2_connected_5 : decode cX2_connected 5 = .ok (.invokevirtual 38, 3) := by decide +kernel
theorem dX2_connected_8 : decode cX2_connected 8 = .ok (.ifCond .eq 14, 3) := by decide +kernel
theorem dX2_connected_11 : decode cX2_connected 11 = .ok (.aload_n 0, 1) := by decide +kernel
theorem dX2_connected_12 : decode cX2_connected 12 = .ok (.getfield 10, 3) := by decide +kernel
theorem dX2_connected_15 : decode cX2_connected 15 = .ok (.iload_n 2, 1) := by decide +kernel
theorem dX2_connected_16 : decode cX2_connected 16 = .ok (.invokevirtual 38, 3) := by decide +kernel
theorem dX2_connected_19 : decode cX2_connected 19 = .ok (.ifCond .ne 6, 3) := by decide +kernel
theorem dX2_connected_22 : decode cX2_connected 22 = .ok (.ldc 42, 2) := by decide +kernel
theorem dX2_connected_24 : decode cX2_connected 24 = .ok (.ireturn, 1) := by decide +kernel
theorem dX2_connected_25 : decode cX2_connected 25 = .ok (.aload_n 0, 1) := by decide +kernel
theorem dX2_connected_26 : decode cX2_connected 26 = .ok (.getfield 10, 3) := by decide +kernel
theorem dX2_connected_29 : decode cX2_connected 29 = .ok (.iload_n 1, 1) := by decide +kernel
theorem dX2_connected_30 : decode cX2_connected 30 = .ok (.invokevirtual 47, 3) := by decide +kernel
theorem dX2_connected_33 : decode cX2_connected 33 = .ok (.aload_n 0, 1) := by decide +kernel
theorem dX2_connected_34 : decode cX2_connected 34 = .ok (.getfield 10, 3) := by decide +kernel
theorem dX2_connected_37 : decode cX2_connected 37 = .ok (.iload_n 2, 1) := by decide +kernel
theorem dX2_connected_38 : decode cX2_connected 38 = .ok (.invokevirtual 47, 3) := by decide +kernel
theorem dX2_connected_41 : decode cX2_connected 41 = .ok (.if_icmp .ne 7, 3) := by decide +kernel
theorem dX2_connected_44 : decode cX2_connected 44 = .ok (.iconst 1, 1) := by decide +kernel
theorem dX2_connected_45 : decode cX2_connected 45 = .ok (.goto 4, 3) := by decide +kernel
theorem dX2_connected_48 : decode cX2_connected 48 = .ok (.iconst 0, 1) := by decide +kernel
theorem dX2_connected_49 : decode cX2_connected 49 = .ok (.ireturn, 1) := by decide +kernel
set_option maxRecDepth 20000 in
theorem ggX2_commonAncestor_X2_pathError : GoodIn wsX2_commonAncestor wsX2_pathError := goodIn_r _ [6, 1, 7, 8, 9, 10, 11, 12, 13, 14, 15, 16, 17, 18, 19, 20, 21, 22, 23, 24, 25, 26, 27, 28, 29, 30, 31, 32, 37, 38, 39, 40, 41, 42, 43, 44] (by decide +kernel) (by decide +kernel)
set_option maxRecDepth 20000 in
theorem gX2_commonAncestor_X2_pathError : GoodIn wsX2_commonAncestor (wsV RX2 72 RX2 yX2_pathError wsX2_pathError) := goodIn_app (goodIn_of _ (by decide +kernel)) ggX2_commonAncestor_X2_pathError
set_option maxRecDepth 20000 in
theorem ggX2_commonAncestor_X0_meetingPoint : GoodIn wsX2_commonAncestor wsX0_meetingPoint := goodIn_r _ [36, 19, 20, 21, 12, 22, 23, 24, 25, 26, 27, 28, 10, 11, 13, 14, 29, 30, 31, 32, 41, 42, 43, 44] (by decide +kernel) (by decide +kernel)
set_option maxRecDepth 20000 in
theorem gX2_commonAncestor_X0_meetingPoint : GoodIn wsX2_commonAncestor (wsV RX2 76 RX0 yX0_meetingPoint wsX0_meetingPoint) := goodIn_app (goodIn_of _ (by decide +kernel)) ggX2_commonAncestor_X0_meetingPoint
theorem dX2_commonAncestor_0 : decode cX2_commonAncestor 0 = .ok (.aload_n 0, 1) := by decide +kernel
theorem dX2_commonAncestor_1 : decode cX2_commonAncestor 1 = .ok (.iload_n 1, 1) := by decide +kernel
theorem dX2_commonAncestor_2 : decode cX2_commonAncestor 2 = .ok (.iload_n 2, 1) := by decide +kernel
theorem dX2_commonAncestor_3 : decode cX2_commonAncestor 3 = .ok (.invokevirtual 72, 3) := by decide +kernel
theorem dX2_commonAncestor_6 : decode cX2_commonAncestor 6 = .ok (.istore_n 3, 1) := by decide +kernel
theorem dX2_commonAncestor_7 : decode cX2_commonAncestor 7 = .ok (.iload_n 3, 1) := by decide +kernel
theorem dX2_commonAncestor_8 : decode cX2_commonAncestor 8 = .ok (.ifCond .eq 7, 3) := by decide +kernel
theorem dX2_commonAncestor_11 : decode cX2_commonAncestor 11 = .ok (.iload_n 3, 1) := by decide +kernel
theorem dX2_commonAncestor_12 : decode cX2_commonAncestor 12 = .ok (.goto 12, 3) := by decide +kernel
theorem dX2_commonAncestor_15 : decode cX2_commonAncestor 15 = .ok (.aload_n 0, 1) := by decide +kernel
theorem dX2_commonAncestor_16 : decode cX2_commonAncestor 16 = .ok (.getfield 10, 3) := by decide +kernel
theorem dX2_commonAncestor_19 : decode cX2_commonAncestor 19 = .ok (.iload_n 1, 1) := by decide +kernel
theorem dX2_commonAncestor_20 : decode cX2_commonAncestor 20 = .ok (.iload_n 2, 1) := by decide +kernel
theorem dX2_commonAncestor_21 : decode cX2_commonAncestor 21 = .ok (.invokevirtual 76, 3) := by decide +kernel
theorem dX2_commonAncestor_24 : decode cX2_commonAncestor 24 = .ok (.ireturn, 1) := by decide +kernel
set_option maxRecDepth 20000 in
theorem ggX2_distance_X2_pathError : GoodIn wsX2_distance wsX2_pathError := goodIn_r _ [6, 1, 7, 8, 9, 10, 11, 12, 13, 14, 15, 16, 17, 18, 19, 20, 21, 22, 23, 24, 25, 26, 27, 28, 29, 30, 31, 32, 41, 42, 43, 44, 45, 46, 47, 48] (by decide +kernel) (by decide +kernel)
set_option maxRecDepth 20000 in
theorem gX2_distance_X2_pathError : GoodIn wsX2_distance (wsV RX2 72 RX2 yX2_pathError wsX2_pathError) := goodIn_app (goodIn_of _ (by decide +kernel)) ggX2_distance_X2_pathError
set_option maxRecDepth 20000 in
theorem ggX2_distance_X0_edgesBetween : GoodIn wsX2_distance wsX0_edgesBetween := goodIn_r _ [36, 19, 20, 21, 12, 22, 23, 24, 25, 26, 27, 28, 10, 11, 13, 14, 37, 38, 39, 40, 29, 30, 31, 32, 45, 46, 47, 48] (by decide +kernel) (by decide +kernel)
set_option maxRecDepth 20000 in
theorem gX2_distance_X0_edgesBetween : GoodIn wsX2_distance (wsV RX2 79 RX0 yX0_edgesBetween wsX0_edgesBetween) := goodIn_app (goodIn_of _ (by decide +kernel)) ggX2_distance_X0_edgesBetween
theorem dX2_distance_0 : decode cX2_distance 0 = .ok (.aload_n 0, 1) := by decide +kernel
theorem dX2_distance_1 : decode cX2_distance 1 = .ok (.iload_n 1, 1) := by decide +kernel
theorem dX2_distance_2 : decode cX2_distance 2 = .ok (.iload_n 2, 1) := by decide +kernel
theorem dX2_distance_3 : decode cX2_distance 3 = .ok (.invokevirtual 72, 3) := by decide +kernel
theorem dX2_distance_6 : decode cX2_distance 6 = .ok (.istore_n 3, 1) := by decide +kernel
theorem dX2_distance_7 : decode cX2_distance 7 = .ok (.iload_n 3, 1) := by decide +kernel
theorem dX2_distance_8 : decode cX2_distance 8 = .ok (.ifCond .eq 7, 3) := by decide +kernel
theorem dX2_distance_11 : decode cX2_distance 11 = .ok (.iload_n 3, 1) := by decide +kernel
theorem dX2_distance_12 : decode cX2_distance 12 = .ok (.goto 12, 3) := by decide +kernel
theorem dX2_distance_15 : decode cX2_distance 15 = .ok (.aload_n 0, 1) := by decide +kernel
theorem dX2_distance_16 : decode cX2_distance 16 = .ok (.getfield 10, 3) := by decide +kernel
theorem dX2_distance_19 : decode cX2_distance 19 = .ok (.iload_n 1, 1) := by decide +kernel
theorem dX2_distance_20 : decode cX2_distance 20 = .ok (.iload_n 2, 1) := by decide +kernel
theorem dX2_distance_21 : decode cX2_distance 21 = .ok (.invokevirtual 79, 3) := by decide +kernel
theorem dX2_distance_24 : decode cX2_distance 24 = .ok (.ireturn, 1) := by decide +kernel
set_option maxRecDepth 20000 in
theorem ggX2_pathVertex_X2_tracePath : GoodIn wsX2_pathVertex wsX2_tracePath := goodIn_r _ [7, 1, 8, 9, 10, 11, 6, 12, 13, 14, 15, 16, 17, 18, 19, 20, 21, 22, 23, 24, 25, 26, 27, 28, 29, 30, 31, 32, 33, 34, 35, 36, 37, 38, 39, 40, 41, 42, 43, 44, 45, 46, 47, 48, 49, 50, 51, 52, 53, 54, 55, 56, 57, 58, 59, 60, 61, 62, 63, 64, 65, 66, 67, 68, 69, 70, 76, 77, 78, 79, 80, 81, 82, 83, 84, 85] (by decide +kernel) (by decide +kernel)
set_option maxRecDepth 20000 in
theorem gX2_pathVertex_X2_tracePath : GoodIn wsX2_pathVertex (wsV RX2 82 RX2 yX2_tracePath wsX2_tracePath) := goodIn_app (goodIn_of _ (by decide +kernel)) ggX2_pathVertex_X2_tracePath
set_option maxRecDepth 20000 in
theorem ggX2_pathVertex_X1_hasIndex : GoodIn wsX2_pathVertex wsX1_hasIndex := goodIn_r _ [70, 44, 84, 85] (by decide +kernel) (by decide +kernel)
set_option maxRecDepth 20000 in
theorem gX2_pathVertex_X1_hasIndex : GoodIn wsX2_pathVertex (wsV RX2 85 RX1 yX1_hasIndex wsX1_hasIndex) := goodIn_app (goodIn_of _ (by decide +kernel)) ggX2_pathVertex_X1_hasIndex
set_option maxRecDepth 20000 in
theorem ggX2_pathVertex_X1_vertexAt : GoodIn wsX2_pathVertex wsX1_vertexAt := goodIn_r _ [75, 57, 67, 68, 69, 42, 70, 44, 84, 85] (by decide +kernel) (by decide +kernel)
set_option maxRecDepth 20000 in
theorem gX2_pathVertex_X1_vertexAt : GoodIn wsX2_pathVertex (wsV RX2 88 RX1 yX1_vertexAt wsX1_vertexAt) := goodIn_app (goodIn_of _ (by decide +kernel)) ggX2_pathVertex_X1_vertexAt
theorem dX2_pathVertex_0 : decode cX2_pathVertex 0 = .ok (.aload_n 0, 1) := by decide +kernel
theorem dX2_pathVertex_1 : decode cX2_pathVertex 1 = .ok (.iload_n 1, 1) := by decide +kernel
theorem dX2_pathVertex_2 : decode cX2_pathVertex 2 = .ok (.iload_n 2, 1) := by decide +kernel
theorem dX2_pathVertex_3 : decode cX2_pathVertex 3 = .ok (.invokevirtual 82, 3) := by decide +kernel
theorem dX2_pathVertex_6 : decode cX2_pathVertex 6 = .ok (.istore 4, 2) := by decide +kernel
theorem dX2_pathVertex_8 : decode cX2_pathVertex 8 = .ok (.iload 4, 2) := by decide +kernel
theorem dX2_pathVertex_10 : decode cX2_pathVertex 10 = .ok (.ifCond .eq 6, 3) := by decide +kernel
theorem dX2_pathVertex_13 : decode cX2_pathVertex 13 = .ok (.iload 4, 2) := by decide +kernel
theorem dX2_pathVertex_15 : decode cX2_pathVertex 15 = .ok (.ireturn, 1) := by decide +kernel
theorem dX2_pathVertex_16 : decode cX2_pathVertex 16 = .ok (.aload_n 0, 1) := by decide +kernel
theorem dX2_pathVertex_17 : decode cX2_pathVertex 17 = .ok (.getfield 25, 3) := by decide +kernel
theorem dX2_pathVertex_20 : decode cX2_pathVertex 20 = .ok (.iload_n 3, 1) := by decide +kernel
theorem dX2_pathVertex_21 : decode cX2_pathVertex 21 = .ok (.invokevirtual 85, 3) := by decide +kernel
theorem dX2_pathVertex_24 : decode cX2_pathVertex 24 = .ok (.ifCond .eq 14, 3) := by decide +kernel
theorem dX2_pathVertex_27 : decode cX2_pathVertex 27 = .ok (.aload_n 0, 1) := by decide +kernel
theorem dX2_pathVertex_28 : decode cX2_pathVertex 28 = .ok (.getfield 25, 3) := by decide +kernel
theorem dX2_pathVertex_31 : decode cX2_pathVertex 31 = .ok (.iload_n 3, 1) := by decide +kernel
theorem dX2_pathVertex_32 : decode cX2_pathVertex 32 = .ok (.invokevirtual 88, 3) := by decide +kernel
theorem dX2_pathVertex_35 : decode cX2_pathVertex 35 = .ok (.goto 5, 3) := by decide +kernel
theorem dX2_pathVertex_38 : decode cX2_pathVertex 38 = .ok (.ldc 59, 2) := by decide +kernel
theorem dX2_pathVertex_40 : decode cX2_pathVertex 40 = .ok (.ireturn, 1) := by decide +kernel
set_option maxRecDepth 20000 in
theorem ggX2_pathSum_X2_tracePath : GoodIn wsX2_pathSum wsX2_tracePath := goodIn_r _ [7, 1, 2, 8, 9, 10, 6, 11, 12, 13, 14, 15, 16, 17, 18, 19, 20, 21, 22, 23, 24, 25, 26, 27, 28, 29, 30, 31, 32, 33, 34, 35, 36, 37, 38, 39, 40, 41, 42, 43, 44, 45, 46, 47, 48, 49, 50, 51, 52, 53, 54, 55, 56, 57, 58, 59, 60, 61, 62, 63, 64, 65, 66, 67, 68, 69, 83, 84, 85, 86, 87, 88, 89, 90, 91, 92] (by decide +kernel) (by decide +kernel)
set_option maxRecDepth 20000 in
theorem gX2_pathSum_X2_tracePath : GoodIn wsX2_pathSum (wsV RX2 82 RX2 yX2_tracePath wsX2_tracePath) := goodIn_app (goodIn_of _ (by decide +kernel)) ggX2_pathSum_X2_tracePath
set_option maxRecDepth 20000 in
theorem ggX2_pathSum_X1_length : GoodIn wsX2_pathSum wsX1_length := goodIn_r _ [73, 43, 91, 92] (by decide +kernel) (by decide +kernel)
set_option maxRecDepth 20000 in
theorem gX2_pathSum_X1_length : GoodIn wsX2_pathSum (wsV RX2 91 RX1 yX1_length wsX1_length) := goodIn_app (goodIn_of _ (by decide +kernel)) ggX2_pathSum_X1_length
set_option maxRecDepth 20000 in
theorem ggX2_pathSum_X1_vertexAt : GoodIn wsX2_pathSum wsX1_vertexAt := goodIn_r _ [77, 56, 66, 67, 68, 41, 69, 43, 91, 92] (by decide +kernel) (by decide +kernel)
set_option maxRecDepth 20000 in
theorem gX2_pathSum_X1_vertexAt : GoodIn wsX2_pathSum (wsV RX2 88 RX1 yX1_vertexAt wsX1_vertexAt) := goodIn_app (goodIn_of _ (by decide +kernel)) ggX2_pathSum_X1_vertexAt
set_option maxRecDepth 20000 in
theorem ggX2_pathSum_X0_valueOf : GoodIn wsX2_pathSum wsX0_valueOf := goodIn_r _ [81, 82, 33, 15, 16, 17, 18, 19, 87, 88, 89, 90] (by decide +kernel) (by decide +kernel)
set_option maxRecDepth 20000 in
theorem gX2_pathSum_X0_valueOf : GoodIn wsX2_pathSum (wsV RX2 94 RX0 yX0_valueOf wsX0_valueOf) := goodIn_app (goodIn_of _ (by decide +kernel)) ggX2_pathSum_X0_valueOf
theorem dX2_pathSum_0 : decode cX2_pathSum 0 = .ok (.aload_n 0, 1) := by decide +kernel
theorem dX2_pathSum_1 : decode cX2_pathSum 1 = .ok (.iload_n 1, 1) := by decide +kernel
theorem dX2_pathSum_2 : decode cX2_pathSum 2 = .ok (.iload_n 2, 1) := by decide +kernel
theorem dX2_pathSum_3 : decode cX2_pathSum 3 = .ok (.invokevirtual 82, 3) := by decide +kernel
theorem dX2_pathSum_6 : decode cX2_pathSum 6 = .ok (.istore_n 3, 1) := by decide +kernel
theorem dX2_pathSum_7 : decode cX2_pathSum 7 = .ok (.iload_n 3, 1) := by decide +kernel
theorem dX2_pathSum_8 : decode cX2_pathSum 8 = .ok (.ifCond .eq 5, 3) := by decide +kernel
theorem dX2_pathSum_11 : decode cX2_pathSum 11 = .ok (.iload_n 3, 1) := by decide +kernel
theorem dX2_pathSum_12 : decode cX2_pathSum 12 = .ok (.ireturn, 1) := by decide +kernel
theorem dX2_pathSum_13 : decode cX2_pathSum 13 = .ok (.iconst 0, 1) := by decide +kernel
theorem dX2_pathSum_14 : decode cX2_pathSum 14 = .ok (.istore 4, 2) := by decide +kernel
theorem dX2_pathSum_16 : decode cX2_pathSum 16 = .ok (.iconst 0, 1) := by decide +kernel
theorem dX2_pathSum_17 : decode cX2_pathSum 17 = .ok (.istore 5, 2) := by decide +kernel
theorem dX2_pathSum_19 : decode cX2_pathSum 19 = .ok (.iload 5, 2) := by decide +kernel
theorem dX2_pathSum_21 : decode cX2_pathSum 21 = .ok (.aload_n 0, 1) := by decide +kernel
theorem dX2_pathSum_22 : decode cX2_pathSum 22 = .ok (.getfield 25, 3) := by decide +kernel
theorem dX2_pathSum_25 : decode cX2_pathSum 25 = .ok (.invokevirtual 91, 3) := by decide +kernel
theorem dX2_pathSum_28 : decode cX2_pathSum 28 = .ok (.if_icmp .ge 30, 3) := by decide +kernel
theorem dX2_pathSum_31 : decode cX2_pathSum 31 = .ok (.iload 4, 2) := by decide +kernel
theorem dX2_pathSum_33 : decode cX2_pathSum 33 = .ok (.aload_n 0, 1) := by decide +kernel
theorem dX2_pathSum_34 : decode cX2_pathSum 34 = .ok (.getfield 10, 3) := by decide +kernel
theorem dX2_pathSum_37 : decode cX2_pathSum 37 = .ok (.aload_n 0, 1) := by decide +kernel
theorem dX2_pathSum_38 : decode cX2_pathSum 38 = .ok (.getfield 25, 3) := by decide +kernel
theorem dX2_pathSum_41 : decode cX2_pathSum 41 = .ok (.iload 5, 2) := by decide +kernel
theorem dX2_pathSum_43 : decode cX2_pathSum 43 = .ok (.invokevirtual 88, 3) := by decide +kernel
theorem dX2_pathSum_46 : decode cX2_pathSum 46 = .ok (.invokevirtual 94, 3) := by decide +kernel
theorem dX2_pathSum_49 : decode cX2_pathSum 49 = .ok (.iadd, 1) := by decide +kernel
theorem dX2_pathSum_50 : decode cX2_pathSum 50 = .ok (.istore 4, 2) := by decide +kernel
theorem dX2_pathSum_52 : decode cX2_pathSum 52 = .ok (.iinc 5 1, 3) := by decide +kernel
theorem dX2_pathSum_55 : decode cX2_pathSum 55 = .ok (.goto (-36), 3) := by decide +kernel
theorem dX2_pathSum_58 : decode cX2_pathSum 58 = .ok (.iload 4, 2) := by decide +kernel
theorem dX2_pathSum_60 : decode cX2_pathSum 60 = .ok (.ireturn, 1) := by decide +kernel
set_option maxRecDepth 20000 in
theorem ggX2_pathMinimum_X2_tracePath : GoodIn wsX2_pathMinimum wsX2_tracePath := goodIn_r _ [7, 1, 2, 8, 9, 10, 6, 11, 12, 13, 14, 15, 16, 17, 18, 19, 20, 21, 22, 23, 24, 25, 26, 27, 28, 29, 30, 31, 32, 33, 34, 35, 36, 37, 38, 39, 40, 41, 42, 43, 44, 45, 46, 47, 48, 49, 50, 51, 52, 53, 54, 55, 56, 57, 58, 59, 60, 61, 62, 63, 64, 65, 66, 67, 68, 69, 83, 84, 85, 86, 87, 88, 89, 90, 91, 92] (by decide +kernel) (by decide +kernel)
set_option maxRecDepth 20000 in
theorem gX2_pathMinimum_X2_tracePath : GoodIn wsX2_pathMinimum (wsV RX2 82 RX2 yX2_tracePath wsX2_tracePath) := goodIn_app (goodIn_of _ (by decide +kernel)) ggX2_pathMinimum_X2_tracePath
set_option maxRecDepth 20000 in
theorem ggX2_pathMinimum_X1_length : GoodIn wsX2_pathMinimum wsX1_length := goodIn_r _ [73, 43, 91, 92] (by decide +kernel) (by decide +kernel)
set_option maxRecDepth 20000 in
theorem gX2_pathMinimum_X1_length : GoodIn wsX2_pathMinimum (wsV RX2 91 RX1 yX1_length wsX1_length) := goodIn_app (goodIn_of _ (by decide +kernel)) ggX2_pathMinimum_X1_length
set_option maxRecDepth 20000 in
theorem ggX2_pathMinimum_X1_vertexAt : GoodIn wsX2_pathMinimum wsX1_vertexAt := goodIn_r _ [77, 56, 66, 67, 68, 41, 69, 43, 91, 92] (by decide +kernel) (by decide +kernel)
set_option maxRecDepth 20000 in
theorem gX2_pathMinimum_X1_vertexAt : GoodIn wsX2_pathMinimum (wsV RX2 88 RX1 yX1_vertexAt wsX1_vertexAt) := goodIn_app (goodIn_of _ (by decide +kernel)) ggX2_pathMinimum_X1_vertexAt
set_option maxRecDepth 20000 in
theorem ggX2_pathMinimum_X0_valueOf : GoodIn wsX2_pathMinimum wsX0_valueOf := goodIn_r _ [81, 82, 33, 15, 16, 17, 18, 19, 87, 88, 89, 90] (by decide +kernel) (by decide +kernel)
set_option maxRecDepth 20000 in
theorem gX2_pathMinimum_X0_valueOf : GoodIn wsX2_pathMinimum (wsV RX2 94 RX0 yX0_valueOf wsX0_valueOf) := goodIn_app (goodIn_of _ (by decide +kernel)) ggX2_pathMinimum_X0_valueOf
theorem dX2_pathMinimum_0 : decode cX2_pathMinimum 0 = .ok (.aload_n 0, 1) := by decide +kernel
theorem dX2_pathMinimum_1 : decode cX2_pathMinimum 1 = .ok (.iload_n 1, 1) := by decide +kernel
theorem dX2_pathMinimum_2 : decode cX2_pathMinimum 2 = .ok (.iload_n 2, 1) := by decide +kernel
theorem dX2_pathMinimum_3 : decode cX2_pathMinimum 3 = .ok (.invokevirtual 82, 3) := by decide +kernel
theorem dX2_pathMinimum_6 : decode cX2_pathMinimum 6 = .ok (.istore_n 3, 1) := by decide +kernel
theorem dX2_pathMinimum_7 : decode cX2_pathMinimum 7 = .ok (.iload_n 3, 1) := by decide +kernel
theorem dX2_pathMinimum_8 : decode cX2_pathMinimum 8 = .ok (.ifCond .eq 5, 3) := by decide +kernel
theorem dX2_pathMinimum_11 : decode cX2_pathMinimum 11 = .ok (.iload_n 3, 1) := by decide +kernel
theorem dX2_pathMinimum_12 : decode cX2_pathMinimum 12 = .ok (.ireturn, 1) := by decide +kernel
theorem dX2_pathMinimum_13 : decode cX2_pathMinimum 13 = .ok (.iload_n 1, 1) := by decide +kernel
theorem dX2_pathMinimum_14 : decode cX2_pathMinimum 14 = .ok (.istore 4, 2) := by decide +kernel
theorem dX2_pathMinimum_16 : decode cX2_pathMinimum 16 = .ok (.iconst 1, 1) := by decide +kernel
theorem dX2_pathMinimum_17 : decode cX2_pathMinimum 17 = .ok (.istore 5, 2) := by decide +kernel
theorem dX2_pathMinimum_19 : decode cX2_pathMinimum 19 = .ok (.iload 5, 2) := by decide +kernel
theorem dX2_pathMinimum_21 : decode cX2_pathMinimum 21 = .ok (.aload_n 0, 1) := by decide +kernel
theorem dX2_pathMinimum_22 : decode cX2_pathMinimum 22 = .ok (.getfield 25, 3) := by decide +kernel
theorem dX2_pathMinimum_25 : decode cX2_pathMinimum 25 = .ok (.invokevirtual 91, 3) := by decide +kernel
theorem dX2_pathMinimum_28 : decode cX2_pathMinimum 28 = .ok (.if_icmp .ge 48, 3) := by decide +kernel
theorem dX2_pathMinimum_31 : decode cX2_pathMinimum 31 = .ok (.aload_n 0, 1) := by decide +kernel
theorem dX2_pathMinimum_32 : decode cX2_pathMinimum 32 = .ok (.getfield 10, 3) := by decide +kernel
theorem dX2_pathMinimum_35 : decode cX2_pathMinimum 35 = .ok (.aload_n 0, 1) := by decide +kernel
theorem dX2_pathMinimum_36 : decode cX2_pathMinimum 36 = .ok (.getfield 25, 3) := by decide +kernel
theorem dX2_pathMinimum_39 : decode cX2_pathMinimum 39 = .ok (.iload 5, 2) := by decide +kernel
theorem dX2_pathMinimum_41 : decode cX2_pathMinimum 41 = .ok (.invokevirtual 88, 3) := by decide +kernel
theorem dX2_pathMinimum_44 : decode cX2_pathMinimum 44 = .ok (.invokevirtual 94, 3) := by decide +kernel
theorem dX2_pathMinimum_47 : decode cX2_pathMinimum 47 = .ok (.aload_n 0, 1) := by decide +kernel
theorem dX2_pathMinimum_48 : decode cX2_pathMinimum 48 = .ok (.getfield 10, 3) := by decide +kernel
theorem dX2_pathMinimum_51 : decode cX2_pathMinimum 51 = .ok (.iload 4, 2) := by decide +kernel
theorem dX2_pathMinimum_53 : decode cX2_pathMinimum 53 = .ok (.invokevirtual 94, 3) := by decide +kernel
theorem dX2_pathMinimum_56 : decode cX2_pathMinimum 56 = .ok (.if_icmp .ge 14, 3) := by decide +kernel
theorem dX2_pathMinimum_59 : decode cX2_pathMinimum 59 = .ok (.aload_n 0, 1) := by decide +kernel
theorem dX2_pathMinimum_60 : decode cX2_pathMinimum 60 = .ok (.getfield 25, 3) := by decide +kernel
theorem dX2_pathMinimum_63 : decode cX2_pathMinimum 63 = .ok (.iload 5, 2) := by decide +kernel
theorem dX2_pathMinimum_65 : decode cX2_pathMinimum 65 = .ok (.invokevirtual 88, 3) := by decide +kernel
theorem dX2_pathMinimum_68 : decode cX2_pathMinimum 68 = .ok (.istore 4, 2) := by decide +kernel
theorem dX2_pathMinimum_70 : decode cX2_pathMinimum 70 = .ok (.iinc 5 1, 3) := by decide +kernel
theorem dX2_pathMinimum_73 : decode cX2_pathMinimum 73 = .ok (.goto (-54), 3) := by decide +kernel
theorem dX2_pathMinimum_76 : decode cX2_pathMinimum 76 = .ok (.iload 4, 2) := by decide +kernel
theorem dX2_pathMinimum_78 : decode cX2_pathMinimum 78 = .ok (.ireturn, 1) := by decide +kernel
set_option maxRecDepth 20000 in
theorem ggX2_pathMaximum_X2_tracePath : GoodIn wsX2_pathMaximum wsX2_tracePath := goodIn_r _ [7, 1, 2, 8, 9, 10, 6, 11, 12, 13, 14, 15, 16, 17, 18, 19, 20, 21, 22, 23, 24, 25, 26, 27, 28, 29, 30, 31, 32, 33, 34, 35, 36, 37, 38, 39, 40, 41, 42, 43, 44, 45, 46, 47, 48, 49, 50, 51, 52, 53, 54, 55, 56, 57, 58, 59, 60, 61, 62, 63, 64, 65, 66, 67, 68, 69, 83, 84, 85, 86, 87, 88, 89, 90, 91, 92] (by decide +kernel) (by decide +kernel)
set_option maxRecDepth 20000 in
theorem gX2_pathMaximum_X2_tracePath : GoodIn wsX2_pathMaximum (wsV RX2 82 RX2 yX2_tracePath wsX2_tracePath) := goodIn_app (goodIn_of _ (by decide +kernel)) ggX2_pathMaximum_X2_tracePath
set_option maxRecDepth 20000 in
theorem ggX2_pathMaximum_X1_length : GoodIn wsX2_pathMaximum wsX1_length := goodIn_r _ [73, 43, 91, 92] (by decide +kernel) (by decide +kernel)
set_option maxRecDepth 20000 in
theorem gX2_pathMaximum_X1_length : GoodIn wsX2_pathMaximum (wsV RX2 91 RX1 yX1_length wsX1_length) := goodIn_app (goodIn_of _ (by decide +kernel)) ggX2_pathMaximum_X1_length
set_option maxRecDepth 20000 in
theorem ggX2_pathMaximum_X1_vertexAt : GoodIn wsX2_pathMaximum wsX1_vertexAt := goodIn_r _ [77, 56, 66, 67, 68, 41, 69, 43, 91, 92] (by decide +kernel) (by decide +kernel)
set_option maxRecDepth 20000 in
theorem gX2_pathMaximum_X1_vertexAt : GoodIn wsX2_pathMaximum (wsV RX2 88 RX1 yX1_vertexAt wsX1_vertexAt) := goodIn_app (goodIn_of _ (by decide +kernel)) ggX2_pathMaximum_X1_vertexAt
set_option maxRecDepth 20000 in
theorem ggX2_pathMaximum_X0_valueOf : GoodIn wsX2_pathMaximum wsX0_valueOf := goodIn_r _ [81, 82, 33, 15, 16, 17, 18, 19, 87, 88, 89, 90] (by decide +kernel) (by decide +kernel)
set_option maxRecDepth 20000 in
theorem gX2_pathMaximum_X0_valueOf : GoodIn wsX2_pathMaximum (wsV RX2 94 RX0 yX0_valueOf wsX0_valueOf) := goodIn_app (goodIn_of _ (by decide +kernel)) ggX2_pathMaximum_X0_valueOf
theorem dX2_pathMaximum_0 : decode cX2_pathMaximum 0 = .ok (.aload_n 0, 1) := by decide +kernel
theorem dX2_pathMaximum_1 : decode cX2_pathMaximum 1 = .ok (.iload_n 1, 1) := by decide +kernel
theorem dX2_pathMaximum_2 : decode cX2_pathMaximum 2 = .ok (.iload_n 2, 1) := by decide +kernel
theorem dX2_pathMaximum_3 : decode cX2_pathMaximum 3 = .ok (.invokevirtual 82, 3) := by decide +kernel
theorem dX2_pathMaximum_6 : decode cX2_pathMaximum 6 = .ok (.istore_n 3, 1) := by decide +kernel
theorem dX2_pathMaximum_7 : decode cX2_pathMaximum 7 = .ok (.iload_n 3, 1) := by decide +kernel
theorem dX2_pathMaximum_8 : decode cX2_pathMaximum 8 = .ok (.ifCond .eq 5, 3) := by decide +kernel
theorem dX2_pathMaximum_11 : decode cX2_pathMaximum 11 = .ok (.iload_n 3, 1) := by decide +kernel
theorem dX2_pathMaximum_12 : decode cX2_pathMaximum 12 = .ok (.ireturn, 1) := by decide +kernel
theorem dX2_pathMaximum_13 : decode cX2_pathMaximum 13 = .ok (.iload_n 1, 1) := by decide +kernel
theorem dX2_pathMaximum_14 : decode cX2_pathMaximum 14 = .ok (.istore 4, 2) := by decide +kernel
theorem dX2_pathMaximum_16 : decode cX2_pathMaximum 16 = .ok (.iconst 1, 1) := by decide +kernel
theorem dX2_pathMaximum_17 : decode cX2_pathMaximum 17 = .ok (.istore 5, 2) := by decide +kernel
theorem dX2_pathMaximum_19 : decode cX2_pathMaximum 19 = .ok (.iload 5, 2) := by decide +kernel
theorem dX2_pathMaximum_21 : decode cX2_pathMaximum 21 = .ok (.aload_n 0, 1) := by decide +kernel
theorem dX2_pathMaximum_22 : decode cX2_pathMaximum 22 = .ok (.getfield 25, 3) := by decide +kernel
theorem dX2_pathMaximum_25 : decode cX2_pathMaximum 25 = .ok (.invokevirtual 91, 3) := by decide +kernel
theorem dX2_pathMaximum_28 : decode cX2_pathMaximum 28 = .ok (.if_icmp .ge 48, 3) := by decide +kernel
theorem dX2_pathMaximum_31 : decode cX2_pathMaximum 31 = .ok (.aload_n 0, 1) := by decide +kernel
theorem dX2_pathMaximum_32 : decode cX2_pathMaximum 32 = .ok (.getfield 10, 3) := by decide +kernel
theorem dX2_pathMaximum_35 : decode cX2_pathMaximum 35 = .ok (.aload_n 0, 1) := by decide +kernel
theorem dX2_pathMaximum_36 : decode cX2_pathMaximum 36 = .ok (.getfield 25, 3) := by decide +kernel
theorem dX2_pathMaximum_39 : decode cX2_pathMaximum 39 = .ok (.iload 5, 2) := by decide +kernel
theorem dX2_pathMaximum_41 : decode cX2_pathMaximum 41 = .ok (.invokevirtual 88, 3) := by decide +kernel
theorem dX2_pathMaximum_44 : decode cX2_pathMaximum 44 = .ok (.invokevirtual 94, 3) := by decide +kernel
theorem dX2_pathMaximum_47 : decode cX2_pathMaximum 47 = .ok (.aload_n 0, 1) := by decide +kernel
theorem dX2_pathMaximum_48 : decode cX2_pathMaximum 48 = .ok (.getfield 10, 3) := by decide +kernel
theorem dX2_pathMaximum_51 : decode cX2_pathMaximum 51 = .ok (.iload 4, 2) := by decide +kernel
theorem dX2_pathMaximum_53 : decode cX2_pathMaximum 53 = .ok (.invokevirtual 94, 3) := by decide +kernel
theorem dX2_pathMaximum_56 : decode cX2_pathMaximum 56 = .ok (.if_icmp .le 14, 3) := by decide +kernel
theorem dX2_pathMaximum_59 : decode cX2_pathMaximum 59 = .ok (.aload_n 0, 1) := by decide +kernel
theorem dX2_pathMaximum_60 : decode cX2_pathMaximum 60 = .ok (.getfield 25, 3) := by decide +kernel
theorem dX2_pathMaximum_63 : decode cX2_pathMaximum 63 = .ok (.iload 5, 2) := by decide +kernel
theorem dX2_pathMaximum_65 : decode cX2_pathMaximum 65 = .ok (.invokevirtual 88, 3) := by decide +kernel
theorem dX2_pathMaximum_68 : decode cX2_pathMaximum 68 = .ok (.istore 4, 2) := by decide +kernel
theorem dX2_pathMaximum_70 : decode cX2_pathMaximum 70 = .ok (.iinc 5 1, 3) := by decide +kernel
theorem dX2_pathMaximum_73 : decode cX2_pathMaximum 73 = .ok (.goto (-54), 3) := by decide +kernel
theorem dX2_pathMaximum_76 : decode cX2_pathMaximum 76 = .ok (.iload 4, 2) := by decide +kernel
theorem dX2_pathMaximum_78 : decode cX2_pathMaximum 78 = .ok (.ireturn, 1) := by decide +kernel
set_option maxRecDepth 20000 in
theorem ggX2_reach_X2_tracePath : GoodIn wsX2_reach wsX2_tracePath := goodIn_r _ [8, 1, 2, 9, 10, 11, 7, 12, 13, 14, 15, 16, 17, 18, 19, 20, 21, 22, 23, 24, 25, 26, 27, 28, 29, 30, 31, 32, 33, 34, 35, 36, 37, 38, 39, 40, 41, 42, 43, 44, 45, 46, 47, 48, 49, 50, 51, 52, 53, 54, 55, 56, 57, 58, 59, 60, 61, 62, 63, 64, 65, 66, 67, 68, 69, 70, 84, 85, 86, 87, 88, 89, 90, 91, 92, 93] (by decide +kernel) (by decide +kernel)
set_option maxRecDepth 20000 in
theorem gX2_reach_X2_tracePath : GoodIn wsX2_reach (wsV RX2 82 RX2 yX2_tracePath wsX2_tracePath) := goodIn_app (goodIn_of _ (by decide +kernel)) ggX2_reach_X2_tracePath
set_option maxRecDepth 20000 in
theorem ggX2_reach_X1_length : GoodIn wsX2_reach wsX1_length := goodIn_r _ [74, 44, 92, 93] (by decide +kernel) (by decide +kernel)
set_option maxRecDepth 20000 in
theorem gX2_reach_X1_length : GoodIn wsX2_reach (wsV RX2 91 RX1 yX1_length wsX1_length) := goodIn_app (goodIn_of _ (by decide +kernel)) ggX2_reach_X1_length
set_option maxRecDepth 20000 in
theorem ggX2_reach_X1_vertexAt : GoodIn wsX2_reach wsX1_vertexAt := goodIn_r _ [78, 57, 67, 68, 69, 42, 70, 44, 92, 93] (by decide +kernel) (by decide +kernel)
set_option maxRecDepth 20000 in
theorem gX2_reach_X1_vertexAt : GoodIn wsX2_reach (wsV RX2 88 RX1 yX1_vertexAt wsX1_vertexAt) := goodIn_app (goodIn_of _ (by decide +kernel)) ggX2_reach_X1_vertexAt
set_option maxRecDepth 20000 in
theorem ggX2_reach_X0_valueOf : GoodIn wsX2_reach wsX0_valueOf := goodIn_r _ [82, 83, 34, 16, 17, 18, 19, 20, 88, 89, 90, 91] (by decide +kernel) (by decide +kernel)
set_option maxRecDepth 20000 in
theorem gX2_reach_X0_valueOf : GoodIn wsX2_reach (wsV RX2 94 RX0 yX0_valueOf wsX0_valueOf) := goodIn_app (goodIn_of _ (by decide +kernel)) ggX2_reach_X0_valueOf
theorem dX2_reach_0 : decode cX2_reach 0 = .ok (.aload_n 0, 1) := by decide +kernel
theorem dX2_reach_1 : decode cX2_reach 1 = .ok (.iload_n 1, 1) := by decide +kernel
theorem dX2_reach_2 : decode cX2_reach 2 = .ok (.iload_n 2, 1) := by decide +kernel
theorem dX2_reach_3 : decode cX2_reach 3 = .ok (.invokevirtual 82, 3) := by decide +kernel
theorem dX2_reach_6 : decode cX2_reach 6 = .ok (.istore 4, 2) := by decide +kernel
theorem dX2_reach_8 : decode cX2_reach 8 = .ok (.iload 4, 2) := by decide +kernel
theorem dX2_reach_10 : decode cX2_reach 10 = .ok (.ifCond .eq 6, 3) := by decide +kernel
theorem dX2_reach_13 : decode cX2_reach 13 = .ok (.iload 4, 2) := by decide +kernel
theorem dX2_reach_15 : decode cX2_reach 15 = .ok (.ireturn, 1) := by decide +kernel
theorem dX2_reach_16 : decode cX2_reach 16 = .ok (.iconst 0, 1) := by decide +kernel
theorem dX2_reach_17 : decode cX2_reach 17 = .ok (.istore 5, 2) := by decide +kernel
theorem dX2_reach_19 : decode cX2_reach 19 = .ok (.iconst 0, 1) := by decide +kernel
theorem dX2_reach_20 : decode cX2_reach 20 = .ok (.istore 6, 2) := by decide +kernel
theorem dX2_reach_22 : decode cX2_reach 22 = .ok (.iload 6, 2) := by decide +kernel
theorem dX2_reach_24 : decode cX2_reach 24 = .ok (.aload_n 0, 1) := by decide +kernel
theorem dX2_reach_25 : decode cX2_reach 25 = .ok (.getfield 25, 3) := by decide +kernel
theorem dX2_reach_28 : decode cX2_reach 28 = .ok (.invokevirtual 91, 3) := by decide +kernel
theorem dX2_reach_31 : decode cX2_reach 31 = .ok (.if_icmp .ge 46, 3) := by decide +kernel
theorem dX2_reach_34 : decode cX2_reach 34 = .ok (.iload 5, 2) := by decide +kernel
theorem dX2_reach_36 : decode cX2_reach 36 = .ok (.aload_n 0, 1) := by decide +kernel
theorem dX2_reach_37 : decode cX2_reach 37 = .ok (.getfield 10, 3) := by decide +kernel
theorem dX2_reach_40 : decode cX2_reach 40 = .ok (.aload_n 0, 1) := by decide +kernel
theorem dX2_reach_41 : decode cX2_reach 41 = .ok (.getfield 25, 3) := by decide +kernel
theorem dX2_reach_44 : decode cX2_reach 44 = .ok (.iload 6, 2) := by decide +kernel
theorem dX2_reach_46 : decode cX2_reach 46 = .ok (.invokevirtual 88, 3) := by decide +kernel
theorem dX2_reach_49 : decode cX2_reach 49 = .ok (.invokevirtual 94, 3) := by decide +kernel
theorem dX2_reach_52 : decode cX2_reach 52 = .ok (.iadd, 1) := by decide +kernel
theorem dX2_reach_53 : decode cX2_reach 53 = .ok (.istore 5, 2) := by decide +kernel
theorem dX2_reach_55 : decode cX2_reach 55 = .ok (.iload 5, 2) := by decide +kernel
theorem dX2_reach_57 : decode cX2_reach 57 = .ok (.iload_n 3, 1) := by decide +kernel
theorem dX2_reach_58 : decode cX2_reach 58 = .ok (.if_icmp .lt 13, 3) := by decide +kernel
theorem dX2_reach_61 : decode cX2_reach 61 = .ok (.aload_n 0, 1) := by decide +kernel
theorem dX2_reach_62 : decode cX2_reach 62 = .ok (.getfield 25, 3) := by decide +kernel
theorem dX2_reach_65 : decode cX2_reach 65 = .ok (.iload 6, 2) := by decide +kernel
theorem dX2_reach_67 : decode cX2_reach 67 = .ok (.invokevirtual 88, 3) := by decide +kernel
theorem dX2_reach_70 : decode cX2_reach 70 = .ok (.ireturn, 1) := by decide +kernel
theorem dX2_reach_71 : decode cX2_reach 71 = .ok (.iinc 6 1, 3) := by decide +kernel
theorem dX2_reach_74 : decode cX2_reach 74 = .ok (.goto (-52), 3) := by decide +kernel
theorem dX2_reach_77 : decode cX2_reach 77 = .ok (.ldc 59, 2) := by decide +kernel
theorem dX2_reach_79 : decode cX2_reach 79 = .ok (.ireturn, 1) := by decide +kernel
set_option maxRecDepth 20000 in
theorem ggX2_addOnPath_X2_tracePath : GoodIn wsX2_addOnPath wsX2_tracePath := goodIn_r _ [9, 2, 3, 10, 11, 12, 8, 13, 14, 15, 16, 17, 18, 19, 20, 21, 22, 23, 24, 25, 26, 27, 28, 29, 30, 31, 32, 33, 34, 35, 36, 37, 38, 39, 40, 41, 42, 43, 44, 45, 46, 47, 48, 49, 50, 51, 52, 53, 54, 55, 56, 57, 58, 59, 60, 61, 62, 63, 64, 65, 66, 67, 68, 69, 70, 71, 94, 95, 96, 97, 98, 99, 100, 101, 102, 103] (by decide +kernel) (by decide +kernel)
set_option maxRecDepth 20000 in
theorem gX2_addOnPath_X2_tracePath : GoodIn wsX2_addOnPath (wsV RX2 82 RX2 yX2_tracePath wsX2_tracePath) := goodIn_app (goodIn_of _ (by decide +kernel)) ggX2_addOnPath_X2_tracePath
set_option maxRecDepth 20000 in
theorem ggX2_addOnPath_X2_isValue : GoodIn wsX2_addOnPath wsX2_isValue := goodIn_r _ [74, 75, 76] (by decide +kernel) (by decide +kernel)
set_option maxRecDepth 20000 in
theorem gX2_addOnPath_X2_isValue : GoodIn wsX2_addOnPath (va_wsS RX2 97 yX2_isValue wsX2_isValue) := goodIn_app (goodIn_of _ (by decide +kernel)) ggX2_addOnPath_X2_isValue
set_option maxRecDepth 20000 in
theorem ggX2_addOnPath_X1_length : GoodIn wsX2_addOnPath wsX1_length := goodIn_r _ [80, 45, 102, 103] (by decide +kernel) (by decide +kernel)
set_option maxRecDepth 20000 in
theorem gX2_addOnPath_X1_length : GoodIn wsX2_addOnPath (wsV RX2 91 RX1 yX1_length wsX1_length) := goodIn_app (goodIn_of _ (by decide +kernel)) ggX2_addOnPath_X1_length
set_option maxRecDepth 20000 in
theorem ggX2_addOnPath_X1_vertexAt : GoodIn wsX2_addOnPath wsX1_vertexAt := goodIn_r _ [84, 58, 68, 69, 70, 43, 71, 45, 102, 103] (by decide +kernel) (by decide +kernel)
set_option maxRecDepth 20000 in
theorem gX2_addOnPath_X1_vertexAt : GoodIn wsX2_addOnPath (wsV RX2 88 RX1 yX1_vertexAt wsX1_vertexAt) := goodIn_app (goodIn_of _ (by decide +kernel)) ggX2_addOnPath_X1_vertexAt
set_option maxRecDepth 20000 in
theorem ggX2_addOnPath_X0_valueOf : GoodIn wsX2_addOnPath wsX0_valueOf := goodIn_r _ [88, 89, 35, 17, 18, 19, 20, 21, 98, 99, 100, 101] (by decide +kernel) (by decide +kernel)
set_option maxRecDepth 20000 in
theorem gX2_addOnPath_X0_valueOf : GoodIn wsX2_addOnPath (wsV RX2 94 RX0 yX0_valueOf wsX0_valueOf) := goodIn_app (goodIn_of _ (by decide +kernel)) ggX2_addOnPath_X0_valueOf
set_option maxRecDepth 20000 in
theorem ggX2_addOnPath_X0_putValue : GoodIn wsX2_addOnPath wsX0_putValue := goodIn_r _ [93, 89, 35, 17, 18, 19, 20, 21, 98, 99, 100, 101] (by decide +kernel) (by decide +kernel)
set_option maxRecDepth 20000 in
theorem gX2_addOnPath_X0_putValue : GoodIn wsX2_addOnPath (wsV RX2 101 RX0 yX0_putValue wsX0_putValue) := goodIn_app (goodIn_of _ (by decide +kernel)) ggX2_addOnPath_X0_putValue
theorem dX2_addOnPath_0 : decode cX2_addOnPath 0 = .ok (.aload_n 0, 1) := by decide +kernel
theorem dX2_addOnPath_1 : decode cX2_addOnPath 1 = .ok (.iload_n 1, 1) := by decide +kernel
theorem dX2_addOnPath_2 : decode cX2_addOnPath 2 = .ok (.iload_n 2, 1) := by decide +kernel
theorem dX2_addOnPath_3 : decode cX2_addOnPath 3 = .ok (.invokevirtual 82, 3) := by decide +kernel
theorem dX2_addOnPath_6 : decode cX2_addOnPath 6 = .ok (.istore 4, 2) := by decide +kernel
theorem dX2_addOnPath_8 : decode cX2_addOnPath 8 = .ok (.iload 4, 2) := by decide +kernel
theorem dX2_addOnPath_10 : decode cX2_addOnPath 10 = .ok (.ifCond .eq 6, 3) := by decide +kernel
theorem dX2_addOnPath_13 : decode cX2_addOnPath 13 = .ok (.iload 4, 2) := by decide +kernel
theorem dX2_addOnPath_15 : decode cX2_addOnPath 15 = .ok (.ireturn, 1) := by decide +kernel
theorem dX2_addOnPath_16 : decode cX2_addOnPath 16 = .ok (.iload_n 3, 1) := by decide +kernel
theorem dX2_addOnPath_17 : decode cX2_addOnPath 17 = .ok (.invokestatic 97, 3) := by decide +kernel
theorem dX2_addOnPath_20 : decode cX2_addOnPath 20 = .ok (.ifCond .ne 6, 3) := by decide +kernel
theorem dX2_addOnPath_23 : decode cX2_addOnPath 23 = .ok (.ldc 33, 2) := by decide +kernel
theorem dX2_addOnPath_25 : decode cX2_addOnPath 25 = .ok (.ireturn, 1) := by decide +kernel
theorem dX2_addOnPath_26 : decode cX2_addOnPath 26 = .ok (.iconst 0, 1) := by decide +kernel
theorem dX2_addOnPath_27 : decode cX2_addOnPath 27 = .ok (.istore 5, 2) := by decide +kernel
theorem dX2_addOnPath_29 : decode cX2_addOnPath 29 = .ok (.iload 5, 2) := by decide +kernel
theorem dX2_addOnPath_31 : decode cX2_addOnPath 31 = .ok (.aload_n 0, 1) := by decide +kernel
theorem dX2_addOnPath_32 : decode cX2_addOnPath 32 = .ok (.getfield 25, 3) := by decide +kernel
theorem dX2_addOnPath_35 : decode cX2_addOnPath 35 = .ok (.invokevirtual 91, 3) := by decide +kernel
theorem dX2_addOnPath_38 : decode cX2_addOnPath 38 = .ok (.if_icmp .ge 36, 3) := by decide +kernel
theorem dX2_addOnPath_41 : decode cX2_addOnPath 41 = .ok (.aload_n 0, 1) := by decide +kernel
theorem dX2_addOnPath_42 : decode cX2_addOnPath 42 = .ok (.getfield 10, 3) := by decide +kernel
theorem dX2_addOnPath_45 : decode cX2_addOnPath 45 = .ok (.aload_n 0, 1) := by decide +kernel
theorem dX2_addOnPath_46 : decode cX2_addOnPath 46 = .ok (.getfield 25, 3) := by decide +kernel
theorem dX2_addOnPath_49 : decode cX2_addOnPath 49 = .ok (.iload 5, 2) := by decide +kernel
theorem dX2_addOnPath_51 : decode cX2_addOnPath 51 = .ok (.invokevirtual 88, 3) := by decide +kernel
theorem dX2_addOnPath_54 : decode cX2_addOnPath 54 = .ok (.invokevirtual 94, 3) := by decide +kernel
theorem dX2_addOnPath_57 : decode cX2_addOnPath 57 = .ok (.iload_n 3, 1) := by decide +kernel
theorem dX2_addOnPath_58 : decode cX2_addOnPath 58 = .ok (.iadd, 1) := by decide +kernel
theorem dX2_addOnPath_59 : decode cX2_addOnPath 59 = .ok (.invokestatic 97, 3) := by decide +kernel
theorem dX2_addOnPath_62 : decode cX2_addOnPath 62 = .ok (.ifCond .ne 6, 3) := by decide +kernel
theorem dX2_addOnPath_65 : decode cX2_addOnPath 65 = .ok (.ldc 100, 2) := by decide +kernel
theorem dX2_addOnPath_67 : decode cX2_addOnPath 67 = .ok (.ireturn, 1) := by decide +kernel
theorem dX2_addOnPath_68 : decode cX2_addOnPath 68 = .ok (.iinc 5 1, 3) := by decide +kernel
theorem dX2_addOnPath_71 : decode cX2_addOnPath 71 = .ok (.goto (-42), 3) := by decide +kernel
theorem dX2_addOnPath_74 : decode cX2_addOnPath 74 = .ok (.iconst 0, 1) := by decide +kernel
theorem dX2_addOnPath_75 : decode cX2_addOnPath 75 = .ok (.istore 5, 2) := by decide +kernel
theorem dX2_addOnPath_77 : decode cX2_addOnPath 77 = .ok (.iload 5, 2) := by decide +kernel
theorem dX2_addOnPath_79 : decode cX2_addOnPath 79 = .ok (.aload_n 0, 1) := by decide +kernel
theorem dX2_addOnPath_80 : decode cX2_addOnPath 80 = .ok (.getfield 25, 3) := by decide +kernel
theorem dX2_addOnPath_83 : decode cX2_addOnPath 83 = .ok (.invokevirtual 91, 3) := by decide +kernel
theorem dX2_addOnPath_86 : decode cX2_addOnPath 86 = .ok (.if_icmp .ge 40, 3) := by decide +kernel
theorem dX2_addOnPath_89 : decode cX2_addOnPath 89 = .ok (.aload_n 0, 1) := by decide +kernel
theorem dX2_addOnPath_90 : decode cX2_addOnPath 90 = .ok (.getfield 25, 3) := by decide +kernel
theorem dX2_addOnPath_93 : decode cX2_addOnPath 93 = .ok (.iload 5, 2) := by decide +kernel
theorem dX2_addOnPath_95 : decode cX2_addOnPath 95 = .ok (.invokevirtual 88, 3) := by decide +kernel
theorem dX2_addOnPath_98 : decode cX2_addOnPath 98 = .ok (.istore 6, 2) := by decide +kernel
theorem dX2_addOnPath_100 : decode cX2_addOnPath 100 = .ok (.aload_n 0, 1) := by decide +kernel
theorem dX2_addOnPath_101 : decode cX2_addOnPath 101 = .ok (.getfield 10, 3) := by decide +kernel
theorem dX2_addOnPath_104 : decode cX2_addOnPath 104 = .ok (.iload 6, 2) := by decide +kernel
theorem dX2_addOnPath_106 : decode cX2_addOnPath 106 = .ok (.aload_n 0, 1) := by decide +kernel
theorem dX2_addOnPath_107 : decode cX2_addOnPath 107 = .ok (.getfield 10, 3) := by decide +kernel
theorem dX2_addOnPath_110 : decode cX2_addOnPath 110 = .ok (.iload 6, 2) := by decide +kernel
theorem dX2_addOnPath_112 : decode cX2_addOnPath 112 = .ok (.invokevirtual 94, 3) := by decide +kernel
theorem dX2_addOnPath_115 : decode cX2_addOnPath 115 = .ok (.iload_n 3, 1) := by decide +kernel
theorem dX2_addOnPath_116 : decode cX2_addOnPath 116 = .ok (.iadd, 1) := by decide +kernel
theorem dX2_addOnPath_117 : decode cX2_addOnPath 117 = .ok (.invokevirtual 101, 3) := by decide +kernel
theorem dX2_addOnPath_120 : decode cX2_addOnPath 120 = .ok (.iinc 5 1, 3) := by decide +kernel
theorem dX2_addOnPath_123 : decode cX2_addOnPath 123 = .ok (.goto (-46), 3) := by decide +kernel
theorem dX2_addOnPath_126 : decode cX2_addOnPath 126 = .ok (.aload_n 0, 1) := by decide +kernel
theorem dX2_addOnPath_127 : decode cX2_addOnPath 127 = .ok (.getfield 25, 3) := by decide +kernel
theorem dX2_addOnPath_130 : decode cX2_addOnPath 130 = .ok (.invokevirtual 91, 3) := by decide +kernel
theorem dX2_addOnPath_133 : decode cX2_addOnPath 133 = .ok (.ireturn, 1) := by decide +kernel
set_option maxRecDepth 20000 in
theorem ggX2_setOnPath_X2_tracePath : GoodIn wsX2_setOnPath wsX2_tracePath := goodIn_r _ [8, 2, 3, 9, 10, 11, 7, 12, 13, 14, 15, 16, 17, 18, 19, 20, 21, 22, 23, 24, 25, 26, 27, 28, 29, 30, 31, 32, 33, 34, 35, 36, 37, 38, 39, 40, 41, 42, 43, 44, 45, 46, 47, 48, 49, 50, 51, 52, 53, 54, 55, 56, 57, 58, 59, 60, 61, 62, 63, 64, 65, 66, 67, 68, 69, 70, 89, 90, 91, 92, 93, 94, 95, 96, 97, 98] (by decide +kernel) (by decide +kernel)
set_option maxRecDepth 20000 in
theorem gX2_setOnPath_X2_tracePath : GoodIn wsX2_setOnPath (wsV RX2 82 RX2 yX2_tracePath wsX2_tracePath) := goodIn_app (goodIn_of _ (by decide +kernel)) ggX2_setOnPath_X2_tracePath
set_option maxRecDepth 20000 in
theorem ggX2_setOnPath_X2_isValue : GoodIn wsX2_setOnPath wsX2_isValue := goodIn_r _ [73, 74, 75] (by decide +kernel) (by decide +kernel)
set_option maxRecDepth 20000 in
theorem gX2_setOnPath_X2_isValue : GoodIn wsX2_setOnPath (va_wsS RX2 97 yX2_isValue wsX2_isValue) := goodIn_app (goodIn_of _ (by decide +kernel)) ggX2_setOnPath_X2_isValue
set_option maxRecDepth 20000 in
theorem ggX2_setOnPath_X1_length : GoodIn wsX2_setOnPath wsX1_length := goodIn_r _ [79, 44, 97, 98] (by decide +kernel) (by decide +kernel)
set_option maxRecDepth 20000 in
theorem gX2_setOnPath_X1_length : GoodIn wsX2_setOnPath (wsV RX2 91 RX1 yX1_length wsX1_length) := goodIn_app (goodIn_of _ (by decide +kernel)) ggX2_setOnPath_X1_length
set_option maxRecDepth 20000 in
theorem ggX2_setOnPath_X1_vertexAt : GoodIn wsX2_setOnPath wsX1_vertexAt := goodIn_r _ [83, 57, 67, 68, 69, 42, 70, 44, 97, 98] (by decide +kernel) (by decide +kernel)
set_option maxRecDepth 20000 in
theorem gX2_setOnPath_X1_vertexAt : GoodIn wsX2_setOnPath (wsV RX2 88 RX1 yX1_vertexAt wsX1_vertexAt) := goodIn_app (goodIn_of _ (by decide +kernel)) ggX2_setOnPath_X1_vertexAt
set_option maxRecDepth 20000 in
theorem ggX2_setOnPath_X0_putValue : GoodIn wsX2_setOnPath wsX0_putValue := goodIn_r _ [87, 88, 34, 16, 17, 18, 19, 20, 93, 94, 95, 96] (by decide +kernel) (by decide +kernel)
set_option maxRecDepth 20000 in
theorem gX2_setOnPath_X0_putValue : GoodIn wsX2_setOnPath (wsV RX2 101 RX0 yX0_putValue wsX0_putValue) := goodIn_app (goodIn_of _ (by decide +kernel)) ggX2_setOnPath_X0_putValue
theorem dX2_setOnPath_0 : decode cX2_setOnPath 0 = .ok (.aload_n 0, 1) := by decide +kernel
theorem dX2_setOnPath_1 : decode cX2_setOnPath 1 = .ok (.iload_n 1, 1) := by decide +kernel
theorem dX2_setOnPath_2 : decode cX2_setOnPath 2 = .ok (.iload_n 2, 1) := by decide +kernel
theorem dX2_setOnPath_3 : decode cX2_setOnPath 3 = .ok (.invokevirtual 82, 3) := by decide +kernel
theorem dX2_setOnPath_6 : decode cX2_setOnPath 6 = .ok (.istore 4, 2) := by decide +kernel
theorem dX2_setOnPath_8 : decode cX2_setOnPath 8 = .ok (.iload 4, 2) := by decide +kernel
theorem dX2_setOnPath_10 : decode cX2_setOnPath 10 = .ok (.ifCond .eq 6, 3) := by decide +kernel
theorem dX2_setOnPath_13 : decode cX2_setOnPath 13 = .ok (.iload 4, 2) := by decide +kernel
theorem dX2_setOnPath_15 : decode cX2_setOnPath 15 = .ok (.ireturn, 1) := by decide +kernel
theorem dX2_setOnPath_16 : decode cX2_setOnPath 16 = .ok (.iload_n 3, 1) := by decide +kernel
theorem dX2_setOnPath_17 : decode cX2_setOnPath 17 = .ok (.invokestatic 97, 3) := by decide +kernel
theorem dX2_setOnPath_20 : decode cX2_setOnPath 20 = .ok (.ifCond .ne 6, 3) := by decide +kernel
theorem dX2_setOnPath_23 : decode cX2_setOnPath 23 = .ok (.ldc 33, 2) := by decide +kernel
theorem dX2_setOnPath_25 : decode cX2_setOnPath 25 = .ok (.ireturn, 1) := by decide +kernel
theorem dX2_setOnPath_26 : decode cX2_setOnPath 26 = .ok (.iconst 0, 1) := by decide +kernel
theorem dX2_setOnPath_27 : decode cX2_setOnPath 27 = .ok (.istore 5, 2) := by decide +kernel
theorem dX2_setOnPath_29 : decode cX2_setOnPath 29 = .ok (.iload 5, 2) := by decide +kernel
theorem dX2_setOnPath_31 : decode cX2_setOnPath 31 = .ok (.aload_n 0, 1) := by decide +kernel
theorem dX2_setOnPath_32 : decode cX2_setOnPath 32 = .ok (.getfield 25, 3) := by decide +kernel
theorem dX2_setOnPath_35 : decode cX2_setOnPath 35 = .ok (.invokevirtual 91, 3) := by decide +kernel
theorem dX2_setOnPath_38 : decode cX2_setOnPath 38 = .ok (.if_icmp .ge 26, 3) := by decide +kernel
theorem dX2_setOnPath_41 : decode cX2_setOnPath 41 = .ok (.aload_n 0, 1) := by decide +kernel
theorem dX2_setOnPath_42 : decode cX2_setOnPath 42 = .ok (.getfield 10, 3) := by decide +kernel
theorem dX2_setOnPath_45 : decode cX2_setOnPath 45 = .ok (.aload_n 0, 1) := by decide +kernel
theorem dX2_setOnPath_46 : decode cX2_setOnPath 46 = .ok (.getfield 25, 3) := by decide +kernel
theorem dX2_setOnPath_49 : decode cX2_setOnPath 49 = .ok (.iload 5, 2) := by decide +kernel
theorem dX2_setOnPath_51 : decode cX2_setOnPath 51 = .ok (.invokevirtual 88, 3) := by decide +kernel
theorem dX2_setOnPath_54 : decode cX2_setOnPath 54 = .ok (.iload_n 3, 1) := by decide +kernel
theorem dX2_setOnPath_55 : decode cX2_setOnPath 55 = .ok (.invokevirtual 101, 3) := by decide +kernel
theorem dX2_setOnPath_58 : decode cX2_setOnPath 58 = .ok (.iinc 5 1, 3) := by decide +kernel
theorem dX2_setOnPath_61 : decode cX2_setOnPath 61 = .ok (.goto (-32), 3) := by decide +kernel
theorem dX2_setOnPath_64 : decode cX2_setOnPath 64 = .ok (.aload_n 0, 1) := by decide +kernel
theorem dX2_setOnPath_65 : decode cX2_setOnPath 65 = .ok (.getfield 25, 3) := by decide +kernel
theorem dX2_setOnPath_68 : decode cX2_setOnPath 68 = .ok (.invokevirtual 91, 3) := by decide +kernel
theorem dX2_setOnPath_71 : decode cX2_setOnPath 71 = .ok (.ireturn, 1) := by decide +kernel
set_option maxRecDepth 20000 in
theorem ggX2_reverseValues_X2_tracePath : GoodIn wsX2_reverseValues wsX2_tracePath := goodIn_r _ [7, 1, 2, 8, 9, 10, 6, 11, 12, 13, 14, 15, 16, 17, 18, 19, 20, 21, 22, 23, 24, 25, 26, 27, 28, 29, 30, 31, 32, 33, 34, 35, 36, 37, 38, 39, 40, 41, 42, 43, 44, 45, 46, 47, 48, 49, 50, 51, 52, 53, 54, 55, 56, 57, 58, 59, 60, 61, 62, 63, 64, 65, 66, 67, 68, 69, 91, 92, 93, 94, 95, 96, 97, 98, 99, 100] (by decide +kernel) (by decide +kernel)
set_option maxRecDepth 20000 in
theorem gX2_reverseValues_X2_tracePath : GoodIn wsX2_reverseValues (wsV RX2 82 RX2 yX2_tracePath wsX2_tracePath) := goodIn_app (goodIn_of _ (by decide +kernel)) ggX2_reverseValues_X2_tracePath
set_option maxRecDepth 20000 in
theorem ggX2_reverseValues_X1_length : GoodIn wsX2_reverseValues wsX1_length := goodIn_r _ [73, 43, 99, 100] (by decide +kernel) (by decide +kernel)
set_option maxRecDepth 20000 in
theorem gX2_reverseValues_X1_length : GoodIn wsX2_reverseValues (wsV RX2 91 RX1 yX1_length wsX1_length) := goodIn_app (goodIn_of _ (by decide +kernel)) ggX2_reverseValues_X1_length
set_option maxRecDepth 20000 in
theorem ggX2_reverseValues_X1_vertexAt : GoodIn wsX2_reverseValues wsX1_vertexAt := goodIn_r _ [77, 56, 66, 67, 68, 41, 69, 43, 99, 100] (by decide +kernel) (by decide +kernel)
set_option maxRecDepth 20000 in
theorem gX2_reverseValues_X1_vertexAt : GoodIn wsX2_reverseValues (wsV RX2 88 RX1 yX1_vertexAt wsX1_vertexAt) := goodIn_app (goodIn_of _ (by decide +kernel)) ggX2_reverseValues_X1_vertexAt
set_option maxRecDepth 20000 in
theorem ggX2_reverseValues_X0_swapValues : GoodIn wsX2_reverseValues wsX0_swapValues := goodIn_r _ [81, 82, 83, 84, 17, 85, 86, 33, 15, 16, 18, 19, 87, 88, 89, 90, 95, 96, 97, 98] (by decide +kernel) (by decide +kernel)
set_option maxRecDepth 20000 in
theorem gX2_reverseValues_X0_swapValues : GoodIn wsX2_reverseValues (wsV RX2 104 RX0 yX0_swapValues wsX0_swapValues) := goodIn_app (goodIn_of _ (by decide +kernel)) ggX2_reverseValues_X0_swapValues
theorem dX2_reverseValues_0 : decode cX2_reverseValues 0 = .ok (.aload_n 0, 1) := by decide +kernel
theorem dX2_reverseValues_1 : decode cX2_reverseValues 1 = .ok (.iload_n 1, 1) := by decide +kernel
theorem dX2_reverseValues_2 : decode cX2_reverseValues 2 = .ok (.iload_n 2, 1) := by decide +kernel
theorem dX2_reverseValues_3 : decode cX2_reverseValues 3 = .ok (.invokevirtual 82, 3) := by decide +kernel
theorem dX2_reverseValues_6 : decode cX2_reverseValues 6 = .ok (.istore_n 3, 1) := by decide +kernel
theorem dX2_reverseValues_7 : decode cX2_reverseValues 7 = .ok (.iload_n 3, 1) := by decide +kernel
theorem dX2_reverseValues_8 : decode cX2_reverseValues 8 = .ok (.ifCond .eq 5, 3) := by decide +kernel
theorem dX2_reverseValues_11 : decode cX2_reverseValues 11 = .ok (.iload_n 3, 1) := by decide +kernel
theorem dX2_reverseValues_12 : decode cX2_reverseValues 12 = .ok (.ireturn, 1) := by decide +kernel
theorem dX2_reverseValues_13 : decode cX2_reverseValues 13 = .ok (.iconst 0, 1) := by decide +kernel
theorem dX2_reverseValues_14 : decode cX2_reverseValues 14 = .ok (.istore 4, 2) := by decide +kernel
theorem dX2_reverseValues_16 : decode cX2_reverseValues 16 = .ok (.aload_n 0, 1) := by decide +kernel
theorem dX2_reverseValues_17 : decode cX2_reverseValues 17 = .ok (.getfield 25, 3) := by decide +kernel
theorem dX2_reverseValues_20 : decode cX2_reverseValues 20 = .ok (.invokevirtual 91, 3) := by decide +kernel
theorem dX2_reverseValues_23 : decode cX2_reverseValues 23 = .ok (.iconst 1, 1) := by decide +kernel
theorem dX2_reverseValues_24 : decode cX2_reverseValues 24 = .ok (.isub, 1) := by decide +kernel
theorem dX2_reverseValues_25 : decode cX2_reverseValues 25 = .ok (.istore 5, 2) := by decide +kernel
theorem dX2_reverseValues_27 : decode cX2_reverseValues 27 = .ok (.iload 5, 2) := by decide +kernel
theorem dX2_reverseValues_29 : decode cX2_reverseValues 29 = .ok (.iload 4, 2) := by decide +kernel
theorem dX2_reverseValues_31 : decode cX2_reverseValues 31 = .ok (.if_icmp .le 37, 3) := by decide +kernel
theorem dX2_reverseValues_34 : decode cX2_reverseValues 34 = .ok (.aload_n 0, 1) := by decide +kernel
theorem dX2_reverseValues_35 : decode cX2_reverseValues 35 = .ok (.getfield 10, 3) := by decide +kernel
theorem dX2_reverseValues_38 : decode cX2_reverseValues 38 = .ok (.aload_n 0, 1) := by decide +kernel
theorem dX2_reverseValues_39 : decode cX2_reverseValues 39 = .ok (.getfield 25, 3) := by decide +kernel
theorem dX2_reverseValues_42 : decode cX2_reverseValues 42 = .ok (.iload 4, 2) := by decide +kernel
theorem dX2_reverseValues_44 : decode cX2_reverseValues 44 = .ok (.invokevirtual 88, 3) := by decide +kernel
theorem dX2_reverseValues_47 : decode cX2_reverseValues 47 = .ok (.aload_n 0, 1) := by decide +kernel
theorem dX2_reverseValues_48 : decode cX2_reverseValues 48 = .ok (.getfield 25, 3) := by decide +kernel
theorem dX2_reverseValues_51 : decode cX2_reverseValues 51 = .ok (.iload 5, 2) := by decide +kernel
theorem dX2_reverseValues_53 : decode cX2_reverseValues 53 = .ok (.invokevirtual 88, 3) := by decide +kernel
theorem dX2_reverseValues_56 : decode cX2_reverseValues 56 = .ok (.invokevirtual 104, 3) := by decide +kernel
theorem dX2_reverseValues_59 : decode cX2_reverseValues 59 = .ok (.iinc 4 1, 3) := by decide +kernel
theorem dX2_reverseValues_62 : decode cX2_reverseValues 62 = .ok (.iinc 5 (-1), 3) := by decide +kernel
theorem dX2_reverseValues_65 : decode cX2_reverseValues 65 = .ok (.goto (-38), 3) := by decide +kernel
theorem dX2_reverseValues_68 : decode cX2_reverseValues 68 = .ok (.aload_n 0, 1) := by decide +kernel
theorem dX2_reverseValues_69 : decode cX2_reverseValues 69 = .ok (.getfield 25, 3) := by decide +kernel
theorem dX2_reverseValues_72 : decode cX2_reverseValues 72 = .ok (.invokevirtual 91, 3) := by decide +kernel
theorem dX2_reverseValues_75 : decode cX2_reverseValues 75 = .ok (.ireturn, 1) := by decide +kernel
set_option maxRecDepth 20000 in
theorem ggX2_subtreeSize_X0_has : GoodIn wsX2_subtreeSize wsX0_has := goodIn_r _ [7, 8, 35, 36, 37, 38] (by decide +kernel) (by decide +kernel)
set_option maxRecDepth 20000 in
theorem gX2_subtreeSize_X0_has : GoodIn wsX2_subtreeSize (wsV RX2 38 RX0 yX0_has wsX0_has) := goodIn_app (goodIn_of _ (by decide +kernel)) ggX2_subtreeSize_X0_has
set_option maxRecDepth 20000 in
theorem ggX2_subtreeSize_X0_countBelow : GoodIn wsX2_subtreeSize wsX0_countBelow := goodIn_r _ [12, 8, 13, 14, 15, 6, 16, 17, 18, 19, 20, 21, 22, 23, 24, 25, 26, 4, 5, 7, 27, 28, 29, 30, 35, 36, 37, 38] (by decide +kernel) (by decide +kernel)
set_option maxRecDepth 20000 in
theorem gX2_subtreeSize_X0_countBelow : GoodIn wsX2_subtreeSize (wsV RX2 56 RX0 yX0_countBelow wsX0_countBelow) := goodIn_app (goodIn_of _ (by decide +kernel)) ggX2_subtreeSize_X0_countBelow
theorem dX2_subtreeSize_0 : decode cX2_subtreeSize 0 = .ok (.aload_n 0, 1) := by decide +kernel
theorem dX2_subtreeSize_1 : decode cX2_subtreeSize 1 = .ok (.getfield 10, 3) := by decide +kernel
theorem dX2_subtreeSize_4 : decode cX2_subtreeSize 4 = .ok (.iload_n 1, 1) := by decide +kernel
theorem dX2_subtreeSize_5 : decode cX2_subtreeSize 5 = .ok (.invokevirtual 38, 3) := by decide +kernel
theorem dX2_subtreeSize_8 : decode cX2_subtreeSize 8 = .ok (.ifCond .eq 14, 3) := by decide +kernel
theorem dX2_subtreeSize_11 : decode cX2_subtreeSize 11 = .ok (.aload_n 0, 1) := by decide +kernel
theorem dX2_subtreeSize_12 : decode cX2_subtreeSize 12 = .ok (.getfield 10, 3) := by decide +kernel
theorem dX2_subtreeSize_15 : decode cX2_subtreeSize 15 = .ok (.iload_n 1, 1) := by decide +kernel
theorem dX2_subtreeSize_16 : decode cX2_subtreeSize 16 = .ok (.invokevirtual 56, 3) := by decide +kernel
theorem dX2_subtreeSize_19 : decode cX2_subtreeSize 19 = .ok (.goto 5, 3) := by decide +kernel
theorem dX2_subtreeSize_22 : decode cX2_subtreeSize 22 = .ok (.ldc 42, 2) := by decide +kernel
theorem dX2_subtreeSize_24 : decode cX2_subtreeSize 24 = .ok (.ireturn, 1) := by decide +kernel
set_option maxRecDepth 20000 in
theorem ggX2_subtreeSum_X0_has : GoodIn wsX2_subtreeSum wsX0_has := goodIn_r _ [7, 8, 40, 41, 42, 43] (by decide +kernel) (by decide +kernel)
set_option maxRecDepth 20000 in
theorem gX2_subtreeSum_X0_has : GoodIn wsX2_subtreeSum (wsV RX2 38 RX0 yX0_has wsX0_has) := goodIn_app (goodIn_of _ (by decide +kernel)) ggX2_subtreeSum_X0_has
set_option maxRecDepth 20000 in
theorem ggX2_subtreeSum_X0_size : GoodIn wsX2_subtreeSum wsX0_size := goodIn_r _ [12, 8, 40, 41, 42, 43] (by decide +kernel) (by decide +kernel)
set_option maxRecDepth 20000 in
theorem gX2_subtreeSum_X0_size : GoodIn wsX2_subtreeSum (wsV RX2 34 RX0 yX0_size wsX0_size) := goodIn_app (goodIn_of _ (by decide +kernel)) ggX2_subtreeSum_X0_size
set_option maxRecDepth 20000 in
theorem ggX2_subtreeSum_X0_isBelow : GoodIn wsX2_subtreeSum wsX0_isBelow := goodIn_r _ [16, 17, 18, 19, 6, 20, 21, 22, 23, 24, 25, 26, 4, 5, 7, 8, 27, 28, 29, 30, 40, 41, 42, 43] (by decide +kernel) (by decide +kernel)
set_option maxRecDepth 20000 in
theorem gX2_subtreeSum_X0_isBelow : GoodIn wsX2_subtreeSum (wsV RX2 107 RX0 yX0_isBelow wsX0_isBelow) := goodIn_app (goodIn_of _ (by decide +kernel)) ggX2_subtreeSum_X0_isBelow
set_option maxRecDepth 20000 in
theorem ggX2_subtreeSum_X0_valueOf : GoodIn wsX2_subtreeSum wsX0_valueOf := goodIn_r _ [34, 35, 26, 4, 5, 6, 7, 8, 40, 41, 42, 43] (by decide +kernel) (by decide +kernel)
set_option maxRecDepth 20000 in
theorem gX2_subtreeSum_X0_valueOf : GoodIn wsX2_subtreeSum (wsV RX2 94 RX0 yX0_valueOf wsX0_valueOf) := goodIn_app (goodIn_of _ (by decide +kernel)) ggX2_subtreeSum_X0_valueOf
theorem dX2_subtreeSum_0 : decode cX2_subtreeSum 0 = .ok (.aload_n 0, 1) := by decide +kernel
theorem dX2_subtreeSum_1 : decode cX2_subtreeSum 1 = .ok (.getfield 10, 3) := by decide +kernel
theorem dX2_subtreeSum_4 : decode cX2_subtreeSum 4 = .ok (.iload_n 1, 1) := by decide +kernel
theorem dX2_subtreeSum_5 : decode cX2_subtreeSum 5 = .ok (.invokevirtual 38, 3) := by decide +kernel
theorem dX2_subtreeSum_8 : decode cX2_subtreeSum 8 = .ok (.ifCond .ne 6, 3) := by decide +kernel
theorem dX2_subtreeSum_11 : decode cX2_subtreeSum 11 = .ok (.ldc 42, 2) := by decide +kernel
theorem dX2_subtreeSum_13 : decode cX2_subtreeSum 13 = .ok (.ireturn, 1) := by decide +kernel
theorem dX2_subtreeSum_14 : decode cX2_subtreeSum 14 = .ok (.iconst 0, 1) := by decide +kernel
theorem dX2_subtreeSum_15 : decode cX2_subtreeSum 15 = .ok (.istore_n 2, 1) := by decide +kernel
theorem dX2_subtreeSum_16 : decode cX2_subtreeSum 16 = .ok (.iconst 0, 1) := by decide +kernel
theorem dX2_subtreeSum_17 : decode cX2_subtreeSum 17 = .ok (.istore_n 3, 1) := by decide +kernel
theorem dX2_subtreeSum_18 : decode cX2_subtreeSum 18 = .ok (.iload_n 3, 1) := by decide +kernel
theorem dX2_subtreeSum_19 : decode cX2_subtreeSum 19 = .ok (.aload_n 0, 1) := by decide +kernel
theorem dX2_subtreeSum_20 : decode cX2_subtreeSum 20 = .ok (.getfield 10, 3) := by decide +kernel
theorem dX2_subtreeSum_23 : decode cX2_subtreeSum 23 = .ok (.invokevirtual 34, 3) := by decide +kernel
theorem dX2_subtreeSum_26 : decode cX2_subtreeSum 26 = .ok (.if_icmp .ge 32, 3) := by decide +kernel
theorem dX2_subtreeSum_29 : decode cX2_subtreeSum 29 = .ok (.aload_n 0, 1) := by decide +kernel
theorem dX2_subtreeSum_30 : decode cX2_subtreeSum 30 = .ok (.getfield 10, 3) := by decide +kernel
theorem dX2_subtreeSum_33 : decode cX2_subtreeSum 33 = .ok (.iload_n 3, 1) := by decide +kernel
theorem dX2_subtreeSum_34 : decode cX2_subtreeSum 34 = .ok (.iload_n 1, 1) := by decide +kernel
theorem dX2_subtreeSum_35 : decode cX2_subtreeSum 35 = .ok (.invokevirtual 107, 3) := by decide +kernel
theorem dX2_subtreeSum_38 : decode cX2_subtreeSum 38 = .ok (.ifCond .eq 14, 3) := by decide +kernel
theorem dX2_subtreeSum_41 : decode cX2_subtreeSum 41 = .ok (.iload_n 2, 1) := by decide +kernel
theorem dX2_subtreeSum_42 : decode cX2_subtreeSum 42 = .ok (.aload_n 0, 1) := by decide +kernel
theorem dX2_subtreeSum_43 : decode cX2_subtreeSum 43 = .ok (.getfield 10, 3) := by decide +kernel
theorem dX2_subtreeSum_46 : decode cX2_subtreeSum 46 = .ok (.iload_n 3, 1) := by decide +kernel
theorem dX2_subtreeSum_47 : decode cX2_subtreeSum 47 = .ok (.invokevirtual 94, 3) := by decide +kernel
theorem dX2_subtreeSum_50 : decode cX2_subtreeSum 50 = .ok (.iadd, 1) := by decide +kernel
theorem dX2_subtreeSum_51 : decode cX2_subtreeSum 51 = .ok (.istore_n 2, 1) := by decide +kernel
theorem dX2_subtreeSum_52 : decode cX2_subtreeSum 52 = .ok (.iinc 3 1, 3) := by decide +kernel
theorem dX2_subtreeSum_55 : decode cX2_subtreeSum 55 = .ok (.goto (-37), 3) := by decide +kernel
theorem dX2_subtreeSum_58 : decode cX2_subtreeSum 58 = .ok (.iload_n 2, 1) := by decide +kernel
theorem dX2_subtreeSum_59 : decode cX2_subtreeSum 59 = .ok (.ireturn, 1) := by decide +kernel
set_option maxRecDepth 20000 in
theorem ggX2_addInSubtree_X0_has : GoodIn wsX2_addInSubtree wsX0_has := goodIn_r _ [9, 10, 57, 58, 59, 60] (by decide +kernel) (by decide +kernel)
set_option maxRecDepth 20000 in
theorem gX2_addInSubtree_X0_has : GoodIn wsX2_addInSubtree (wsV RX2 38 RX0 yX0_has wsX0_has) := goodIn_app (goodIn_of _ (by decide +kernel)) ggX2_addInSubtree_X0_has
set_option maxRecDepth 20000 in
theorem ggX2_addInSubtree_X2_isValue : GoodIn wsX2_addInSubtree wsX2_isValue := goodIn_r _ [14, 15, 16] (by decide +kernel) (by decide +kernel)
set_option maxRecDepth 20000 in
theorem gX2_addInSubtree_X2_isValue : GoodIn wsX2_addInSubtree (va_wsS RX2 97 yX2_isValue wsX2_isValue) := goodIn_app (goodIn_of _ (by decide +kernel)) ggX2_addInSubtree_X2_isValue
set_option maxRecDepth 20000 in
theorem ggX2_addInSubtree_X0_size : GoodIn wsX2_addInSubtree wsX0_size := goodIn_r _ [20, 10, 57, 58, 59, 60] (by decide +kernel) (by decide +kernel)
set_option maxRecDepth 20000 in
theorem gX2_addInSubtree_X0_size : GoodIn wsX2_addInSubtree (wsV RX2 34 RX0 yX0_size wsX0_size) := goodIn_app (goodIn_of _ (by decide +kernel)) ggX2_addInSubtree_X0_size
set_option maxRecDepth 20000 in
theorem ggX2_addInSubtree_X0_isBelow : GoodIn wsX2_addInSubtree wsX0_isBelow := goodIn_r _ [24, 25, 26, 27, 8, 28, 29, 30, 31, 32, 33, 34, 6, 7, 9, 10, 35, 36, 37, 38, 57, 58, 59, 60] (by decide +kernel) (by decide +kernel)
set_option maxRecDepth 20000 in
theorem gX2_addInSubtree_X0_isBelow : GoodIn wsX2_addInSubtree (wsV RX2 107 RX0 yX0_isBelow wsX0_isBelow) := goodIn_app (goodIn_of _ (by decide +kernel)) ggX2_addInSubtree_X0_isBelow
set_option maxRecDepth 20000 in
theorem ggX2_addInSubtree_X0_valueOf : GoodIn wsX2_addInSubtree wsX0_valueOf := goodIn_r _ [42, 43, 34, 6, 7, 8, 9, 10, 57, 58, 59, 60] (by decide +kernel) (by decide +kernel)
set_option maxRecDepth 20000 in
theorem gX2_addInSubtree_X0_valueOf : GoodIn wsX2_addInSubtree (wsV RX2 94 RX0 yX0_valueOf wsX0_valueOf) := goodIn_app (goodIn_of _ (by decide +kernel)) ggX2_addInSubtree_X0_valueOf
set_option maxRecDepth 20000 in
theorem ggX2_addInSubtree_X0_putValue : GoodIn wsX2_addInSubtree wsX0_putValue := goodIn_r _ [47, 43, 34, 6, 7, 8, 9, 10, 57, 58, 59, 60] (by decide +kernel) (by decide +kernel)
set_option maxRecDepth 20000 in
theorem gX2_addInSubtree_X0_putValue : GoodIn wsX2_addInSubtree (wsV RX2 101 RX0 yX0_putValue wsX0_putValue) := goodIn_app (goodIn_of _ (by decide +kernel)) ggX2_addInSubtree_X0_putValue
set_option maxRecDepth 20000 in
theorem ggX2_addInSubtree_X0_countBelow : GoodIn wsX2_addInSubtree wsX0_countBelow := goodIn_r _ [51, 10, 52, 22, 23, 8, 24, 25, 26, 27, 28, 29, 30, 31, 32, 33, 34, 6, 7, 9, 35, 36, 37, 38, 57, 58, 59, 60] (by decide +kernel) (by decide +kernel)
set_option maxRecDepth 20000 in
theorem gX2_addInSubtree_X0_countBelow : GoodIn wsX2_addInSubtree (wsV RX2 56 RX0 yX0_countBelow wsX0_countBelow) := goodIn_app (goodIn_of _ (by decide +kernel)) ggX2_addInSubtree_X0_countBelow
theorem dX2_addInSubtree_0 : decode cX2_addInSubtree 0 = .ok (.aload_n 0, 1) := by decide +kernel
theorem dX2_addInSubtree_1 : decode cX2_addInSubtree 1 = .ok (.getfield 10, 3) := by decide +kernel
theorem dX2_addInSubtree_4 : decode cX2_addInSubtree 4 = .ok (.iload_n 1, 1) := by decide +kernel
theorem dX2_addInSubtree_5 : decode cX2_addInSubtree 5 = .ok (.invokevirtual 38, 3) := by decide +kernel
theorem dX2_addInSubtree_8 : decode cX2_addInSubtree 8 = .ok (.ifCond .ne 6, 3) := by decide +kernel
theorem dX2_addInSubtree_11 : decode cX2_addInSubtree 11 = .ok (.ldc 42, 2) := by decide +kernel
theorem dX2_addInSubtree_13 : decode cX2_addInSubtree 13 = .ok (.ireturn, 1) := by decide +kernel
theorem dX2_addInSubtree_14 : decode cX2_addInSubtree 14 = .ok (.iload_n 2, 1) := by decide +kernel
theorem dX2_addInSubtree_15 : decode cX2_addInSubtree 15 = .ok (.invokestatic 97, 3) := by decide +kernel
theorem dX2_addInSubtree_18 : decode cX2_addInSubtree 18 = .ok (.ifCond .ne 6, 3) := by decide +kernel
theorem dX2_addInSubtree_21 : decode cX2_addInSubtree 21 = .ok (.ldc 33, 2) := by decide +kernel
theorem dX2_addInSubtree_23 : decode cX2_addInSubtree 23 = .ok (.ireturn, 1) := by decide +kernel
theorem dX2_addInSubtree_24 : decode cX2_addInSubtree 24 = .ok (.iconst 0, 1) := by decide +kernel
theorem dX2_addInSubtree_25 : decode cX2_addInSubtree 25 = .ok (.istore_n 3, 1) := by decide +kernel
theorem dX2_addInSubtree_26 : decode cX2_addInSubtree 26 = .ok (.iload_n 3, 1) := by decide +kernel
theorem dX2_addInSubtree_27 : decode cX2_addInSubtree 27 = .ok (.aload_n 0, 1) := by decide +kernel
theorem dX2_addInSubtree_28 : decode cX2_addInSubtree 28 = .ok (.getfield 10, 3) := by decide +kernel
theorem dX2_addInSubtree_31 : decode cX2_addInSubtree 31 = .ok (.invokevirtual 34, 3) := by decide +kernel
theorem dX2_addInSubtree_34 : decode cX2_addInSubtree 34 = .ok (.if_icmp .ge 40, 3) := by decide +kernel
theorem dX2_addInSubtree_37 : decode cX2_addInSubtree 37 = .ok (.aload_n 0, 1) := by decide +kernel
theorem dX2_addInSubtree_38 : decode cX2_addInSubtree 38 = .ok (.getfield 10, 3) := by decide +kernel
theorem dX2_addInSubtree_41 : decode cX2_addInSubtree 41 = .ok (.iload_n 3, 1) := by decide +kernel
theorem dX2_addInSubtree_42 : decode cX2_addInSubtree 42 = .ok (.iload_n 1, 1) := by decide +kernel
theorem dX2_addInSubtree_43 : decode cX2_addInSubtree 43 = .ok (.invokevirtual 107, 3) := by decide +kernel
theorem dX2_addInSubtree_46 : decode cX2_addInSubtree 46 = .ok (.ifCond .eq 22, 3) := by decide +kernel
theorem dX2_addInSubtree_49 : decode cX2_addInSubtree 49 = .ok (.aload_n 0, 1) := by decide +kernel
theorem dX2_addInSubtree_50 : decode cX2_addInSubtree 50 = .ok (.getfield 10, 3) := by decide +kernel
theorem dX2_addInSubtree_53 : decode cX2_addInSubtree 53 = .ok (.iload_n 3, 1) := by decide +kernel
theorem dX2_addInSubtree_54 : decode cX2_addInSubtree 54 = .ok (.invokevirtual 94, 3) := by decide +kernel
theorem dX2_addInSubtree_57 : decode cX2_addInSubtree 57 = .ok (.iload_n 2, 1) := by decide +kernel
theorem dX2_addInSubtree_58 : decode cX2_addInSubtree 58 = .ok (.iadd, 1) := by decide +kernel
theorem dX2_addInSubtree_59 : decode cX2_addInSubtree 59 = .ok (.invokestatic 97, 3) := by decide +kernel
theorem dX2_addInSubtree_62 : decode cX2_addInSubtree 62 = .ok (.ifCond .ne 6, 3) := by decide +kernel
theorem dX2_addInSubtree_65 : decode cX2_addInSubtree 65 = .ok (.ldc 100, 2) := by decide +kernel
theorem dX2_addInSubtree_67 : decode cX2_addInSubtree 67 = .ok (.ireturn, 1) := by decide +kernel
theorem dX2_addInSubtree_68 : decode cX2_addInSubtree 68 = .ok (.iinc 3 1, 3) := by decide +kernel
theorem dX2_addInSubtree_71 : decode cX2_addInSubtree 71 = .ok (.goto (-45), 3) := by decide +kernel
theorem dX2_addInSubtree_74 : decode cX2_addInSubtree 74 = .ok (.iconst 0, 1) := by decide +kernel
theorem dX2_addInSubtree_75 : decode cX2_addInSubtree 75 = .ok (.istore_n 3, 1) := by decide +kernel
theorem dX2_addInSubtree_76 : decode cX2_addInSubtree 76 = .ok (.iload_n 3, 1) := by decide +kernel
theorem dX2_addInSubtree_77 : decode cX2_addInSubtree 77 = .ok (.aload_n 0, 1) := by decide +kernel
theorem dX2_addInSubtree_78 : decode cX2_addInSubtree 78 = .ok (.getfield 10, 3) := by decide +kernel
theorem dX2_addInSubtree_81 : decode cX2_addInSubtree 81 = .ok (.invokevirtual 34, 3) := by decide +kernel
theorem dX2_addInSubtree_84 : decode cX2_addInSubtree 84 = .ok (.if_icmp .ge 39, 3) := by decide +kernel
theorem dX2_addInSubtree_87 : decode cX2_addInSubtree 87 = .ok (.aload_n 0, 1) := by decide +kernel
theorem dX2_addInSubtree_88 : decode cX2_addInSubtree 88 = .ok (.getfield 10, 3) := by decide +kernel
theorem dX2_addInSubtree_91 : decode cX2_addInSubtree 91 = .ok (.iload_n 3, 1) := by decide +kernel
theorem dX2_addInSubtree_92 : decode cX2_addInSubtree 92 = .ok (.iload_n 1, 1) := by decide +kernel
theorem dX2_addInSubtree_93 : decode cX2_addInSubtree 93 = .ok (.invokevirtual 107, 3) := by decide +kernel
theorem dX2_addInSubtree_96 : decode cX2_addInSubtree 96 = .ok (.ifCond .eq 21, 3) := by decide +kernel
theorem dX2_addInSubtree_99 : decode cX2_addInSubtree 99 = .ok (.aload_n 0, 1) := by decide +kernel
theorem dX2_addInSubtree_100 : decode cX2_addInSubtree 100 = .ok (.getfield 10, 3) := by decide +kernel
theorem dX2_addInSubtree_103 : decode cX2_addInSubtree 103 = .ok (.iload_n 3, 1) := by decide +kernel
theorem dX2_addInSubtree_104 : decode cX2_addInSubtree 104 = .ok (.aload_n 0, 1) := by decide +kernel
theorem dX2_addInSubtree_105 : decode cX2_addInSubtree 105 = .ok (.getfield 10, 3) := by decide +kernel
theorem dX2_addInSubtree_108 : decode cX2_addInSubtree 108 = .ok (.iload_n 3, 1) := by decide +kernel
theorem dX2_addInSubtree_109 : decode cX2_addInSubtree 109 = .ok (.invokevirtual 94, 3) := by decide +kernel
theorem dX2_addInSubtree_112 : decode cX2_addInSubtree 112 = .ok (.iload_n 2, 1) := by decide +kernel
theorem dX2_addInSubtree_113 : decode cX2_addInSubtree 113 = .ok (.iadd, 1) := by decide +kernel
theorem dX2_addInSubtree_114 : decode cX2_addInSubtree 114 = .ok (.invokevirtual 101, 3) := by decide +kernel
theorem dX2_addInSubtree_117 : decode cX2_addInSubtree 117 = .ok (.iinc 3 1, 3) := by decide +kernel
theorem dX2_addInSubtree_120 : decode cX2_addInSubtree 120 = .ok (.goto (-44), 3) := by decide +kernel
theorem dX2_addInSubtree_123 : decode cX2_addInSubtree 123 = .ok (.aload_n 0, 1) := by decide +kernel
theorem dX2_addInSubtree_124 : decode cX2_addInSubtree 124 = .ok (.getfield 10, 3) := by decide +kernel
theorem dX2_addInSubtree_127 : decode cX2_addInSubtree 127 = .ok (.iload_n 1, 1) := by decide +kernel
theorem dX2_addInSubtree_128 : decode cX2_addInSubtree 128 = .ok (.invokevirtual 56, 3) := by decide +kernel
theorem dX2_addInSubtree_131 : decode cX2_addInSubtree 131 = .ok (.ireturn, 1) := by decide +kernel
set_option maxRecDepth 20000 in
theorem ggX2_diameter_X0_has : GoodIn wsX2_diameter wsX0_has := goodIn_r _ [7, 8, 44, 45, 46, 47] (by decide +kernel) (by decide +kernel)
set_option maxRecDepth 20000 in
theorem gX2_diameter_X0_has : GoodIn wsX2_diameter (wsV RX2 38 RX0 yX0_has wsX0_has) := goodIn_app (goodIn_of _ (by decide +kernel)) ggX2_diameter_X0_has
set_option maxRecDepth 20000 in
theorem ggX2_diameter_X0_farthestFrom : GoodIn wsX2_diameter wsX0_farthestFrom := goodIn_r _ [12, 8, 13, 14, 15, 6, 16, 17, 18, 19, 20, 21, 22, 23, 24, 25, 26, 4, 5, 7, 27, 28, 29, 30, 31, 32, 33, 34, 35, 36, 37, 38, 44, 45, 46, 47] (by decide +kernel) (by decide +kernel)
set_option maxRecDepth 20000 in
theorem gX2_diameter_X0_farthestFrom : GoodIn wsX2_diameter (wsV RX2 111 RX0 yX0_farthestFrom wsX0_farthestFrom) := goodIn_app (goodIn_of _ (by decide +kernel)) ggX2_diameter_X0_farthestFrom
set_option maxRecDepth 20000 in
theorem ggX2_diameter_X0_edgesBetween : GoodIn wsX2_diameter wsX0_edgesBetween := goodIn_r _ [34, 17, 18, 19, 6, 20, 21, 22, 23, 24, 25, 26, 4, 5, 7, 8, 35, 36, 37, 38, 27, 28, 29, 30, 44, 45, 46, 47] (by decide +kernel) (by decide +kernel)
set_option maxRecDepth 20000 in
theorem gX2_diameter_X0_edgesBetween : GoodIn wsX2_diameter (wsV RX2 79 RX0 yX0_edgesBetween wsX0_edgesBetween) := goodIn_app (goodIn_of _ (by decide +kernel)) ggX2_diameter_X0_edgesBetween
theorem dX2_diameter_0 : decode cX2_diameter 0 = .ok (.aload_n 0, 1) := by decide +kernel
theorem dX2_diameter_1 : decode cX2_diameter 1 = .ok (.getfield 10, 3) := by decide +kernel
theorem dX2_diameter_4 : decode cX2_diameter 4 = .ok (.iload_n 1, 1) := by decide +kernel
theorem dX2_diameter_5 : decode cX2_diameter 5 = .ok (.invokevirtual 38, 3) := by decide +kernel
theorem dX2_diameter_8 : decode cX2_diameter 8 = .ok (.ifCond .ne 6, 3) := by decide +kernel
theorem dX2_diameter_11 : decode cX2_diameter 11 = .ok (.ldc 42, 2) := by decide +kernel
theorem dX2_diameter_13 : decode cX2_diameter 13 = .ok (.ireturn, 1) := by decide +kernel
theorem dX2_diameter_14 : decode cX2_diameter 14 = .ok (.aload_n 0, 1) := by decide +kernel
theorem dX2_diameter_15 : decode cX2_diameter 15 = .ok (.getfield 10, 3) := by decide +kernel
theorem dX2_diameter_18 : decode cX2_diameter 18 = .ok (.iload_n 1, 1) := by decide +kernel
theorem dX2_diameter_19 : decode cX2_diameter 19 = .ok (.invokevirtual 111, 3) := by decide +kernel
theorem dX2_diameter_22 : decode cX2_diameter 22 = .ok (.istore_n 2, 1) := by decide +kernel
theorem dX2_diameter_23 : decode cX2_diameter 23 = .ok (.aload_n 0, 1) := by decide +kernel
theorem dX2_diameter_24 : decode cX2_diameter 24 = .ok (.getfield 10, 3) := by decide +kernel
theorem dX2_diameter_27 : decode cX2_diameter 27 = .ok (.iload_n 2, 1) := by decide +kernel
theorem dX2_diameter_28 : decode cX2_diameter 28 = .ok (.aload_n 0, 1) := by decide +kernel
theorem dX2_diameter_29 : decode cX2_diameter 29 = .ok (.getfield 10, 3) := by decide +kernel
theorem dX2_diameter_32 : decode cX2_diameter 32 = .ok (.iload_n 2, 1) := by decide +kernel
theorem dX2_diameter_33 : decode cX2_diameter 33 = .ok (.invokevirtual 111, 3) := by decide +kernel
theorem dX2_diameter_36 : decode cX2_diameter 36 = .ok (.invokevirtual 79, 3) := by decide +kernel
theorem dX2_diameter_39 : decode cX2_diameter 39 = .ok (.ireturn, 1) := by decide +kernel
set_option maxRecDepth 20000 in
theorem ggX2_setValue_X0_has : GoodIn wsX2_setValue wsX0_has := goodIn_r _ [8, 9, 30, 31, 32, 33] (by decide +kernel) (by decide +kernel)
set_option maxRecDepth 20000 in
theorem gX2_setValue_X0_has : GoodIn wsX2_setValue (wsV RX2 38 RX0 yX0_has wsX0_has) := goodIn_app (goodIn_of _ (by decide +kernel)) ggX2_setValue_X0_has
set_option maxRecDepth 20000 in
theorem ggX2_setValue_X2_isValue : GoodIn wsX2_setValue wsX2_isValue := goodIn_r _ [13, 14, 15] (by decide +kernel) (by decide +kernel)
set_option maxRecDepth 20000 in
theorem gX2_setValue_X2_isValue : GoodIn wsX2_setValue (va_wsS RX2 97 yX2_isValue wsX2_isValue) := goodIn_app (goodIn_of _ (by decide +kernel)) ggX2_setValue_X2_isValue
set_option maxRecDepth 20000 in
theorem ggX2_setValue_X0_valueOf : GoodIn wsX2_setValue wsX0_valueOf := goodIn_r _ [19, 20, 21, 5, 6, 7, 8, 9, 30, 31, 32, 33] (by decide +kernel) (by decide +kernel)
set_option maxRecDepth 20000 in
theorem gX2_setValue_X0_valueOf : GoodIn wsX2_setValue (wsV RX2 94 RX0 yX0_valueOf wsX0_valueOf) := goodIn_app (goodIn_of _ (by decide +kernel)) ggX2_setValue_X0_valueOf
set_option maxRecDepth 20000 in
theorem ggX2_setValue_X0_putValue : GoodIn wsX2_setValue wsX0_putValue := goodIn_r _ [25, 20, 21, 5, 6, 7, 8, 9, 30, 31, 32, 33] (by decide +kernel) (by decide +kernel)
set_option maxRecDepth 20000 in
theorem gX2_setValue_X0_putValue : GoodIn wsX2_setValue (wsV RX2 101 RX0 yX0_putValue wsX0_putValue) := goodIn_app (goodIn_of _ (by decide +kernel)) ggX2_setValue_X0_putValue
theorem dX2_setValue_0 : decode cX2_setValue 0 = .ok (.aload_n 0, 1) := by decide +kernel
theorem dX2_setValue_1 : decode cX2_setValue 1 = .ok (.getfield 10, 3) := by decide +kernel
theorem dX2_setValue_4 : decode cX2_setValue 4 = .ok (.iload_n 1, 1) := by decide +kernel
theorem dX2_setValue_5 : decode cX2_setValue 5 = .ok (.invokevirtual 38, 3) := by decide +kernel
theorem dX2_setValue_8 : decode cX2_setValue 8 = .ok (.ifCond .ne 6, 3) := by decide +kernel
theorem dX2_setValue_11 : decode cX2_setValue 11 = .ok (.ldc 42, 2) := by decide +kernel
theorem dX2_setValue_13 : decode cX2_setValue 13 = .ok (.ireturn, 1) := by decide +kernel
theorem dX2_setValue_14 : decode cX2_setValue 14 = .ok (.iload_n 2, 1) := by decide +kernel
theorem dX2_setValue_15 : decode cX2_setValue 15 = .ok (.invokestatic 97, 3) := by decide +kernel
theorem dX2_setValue_18 : decode cX2_setValue 18 = .ok (.ifCond .ne 6, 3) := by decide +kernel
theorem dX2_setValue_21 : decode cX2_setValue 21 = .ok (.ldc 33, 2) := by decide +kernel
theorem dX2_setValue_23 : decode cX2_setValue 23 = .ok (.ireturn, 1) := by decide +kernel
theorem dX2_setValue_24 : decode cX2_setValue 24 = .ok (.aload_n 0, 1) := by decide +kernel
theorem dX2_setValue_25 : decode cX2_setValue 25 = .ok (.getfield 10, 3) := by decide +kernel
theorem dX2_setValue_28 : decode cX2_setValue 28 = .ok (.iload_n 1, 1) := by decide +kernel
theorem dX2_setValue_29 : decode cX2_setValue 29 = .ok (.invokevirtual 94, 3) := by decide +kernel
theorem dX2_setValue_32 : decode cX2_setValue 32 = .ok (.istore_n 3, 1) := by decide +kernel
theorem dX2_setValue_33 : decode cX2_setValue 33 = .ok (.aload_n 0, 1) := by decide +kernel
theorem dX2_setValue_34 : decode cX2_setValue 34 = .ok (.getfield 10, 3) := by decide +kernel
theorem dX2_setValue_37 : decode cX2_setValue 37 = .ok (.iload_n 1, 1) := by decide +kernel
theorem dX2_setValue_38 : decode cX2_setValue 38 = .ok (.iload_n 2, 1) := by decide +kernel
theorem dX2_setValue_39 : decode cX2_setValue 39 = .ok (.invokevirtual 101, 3) := by decide +kernel
theorem dX2_setValue_42 : decode cX2_setValue 42 = .ok (.iload_n 3, 1) := by decide +kernel
theorem dX2_setValue_43 : decode cX2_setValue 43 = .ok (.ireturn, 1) := by decide +kernel
set_option maxRecDepth 20000 in
theorem ggX2_value_X0_has : GoodIn wsX2_value wsX0_has := goodIn_r _ [7, 8, 19, 20, 21, 22] (by decide +kernel) (by decide +kernel)
set_option maxRecDepth 20000 in
theorem gX2_value_X0_has : GoodIn wsX2_value (wsV RX2 38 RX0 yX0_has wsX0_has) := goodIn_app (goodIn_of _ (by decide +kernel)) ggX2_value_X0_has
set_option maxRecDepth 20000 in
theorem ggX2_value_X0_valueOf : GoodIn wsX2_value wsX0_valueOf := goodIn_r _ [12, 13, 14, 4, 5, 6, 7, 8, 19, 20, 21, 22] (by decide +kernel) (by decide +kernel)
set_option maxRecDepth 20000 in
theorem gX2_value_X0_valueOf : GoodIn wsX2_value (wsV RX2 94 RX0 yX0_valueOf wsX0_valueOf) := goodIn_app (goodIn_of _ (by decide +kernel)) ggX2_value_X0_valueOf
theorem dX2_value_0 : decode cX2_value 0 = .ok (.aload_n 0, 1) := by decide +kernel
theorem dX2_value_1 : decode cX2_value 1 = .ok (.getfield 10, 3) := by decide +kernel
theorem dX2_value_4 : decode cX2_value 4 = .ok (.iload_n 1, 1) := by decide +kernel
theorem dX2_value_5 : decode cX2_value 5 = .ok (.invokevirtual 38, 3) := by decide +kernel
theorem dX2_value_8 : decode cX2_value 8 = .ok (.ifCond .eq 14, 3) := by decide +kernel
theorem dX2_value_11 : decode cX2_value 11 = .ok (.aload_n 0, 1) := by decide +kernel
theorem dX2_value_12 : decode cX2_value 12 = .ok (.getfield 10, 3) := by decide +kernel
theorem dX2_value_15 : decode cX2_value 15 = .ok (.iload_n 1, 1) := by decide +kernel
theorem dX2_value_16 : decode cX2_value 16 = .ok (.invokevirtual 94, 3) := by decide +kernel
theorem dX2_value_19 : decode cX2_value 19 = .ok (.goto 5, 3) := by decide +kernel
theorem dX2_value_22 : decode cX2_value 22 = .ok (.ldc 42, 2) := by decide +kernel
theorem dX2_value_24 : decode cX2_value 24 = .ok (.ireturn, 1) := by decide +kernel
set_option maxRecDepth 20000 in
theorem ggX2_setMark_X0_has : GoodIn wsX2_setMark wsX0_has := goodIn_r _ [7, 8, 23, 24, 25, 26] (by decide +kernel) (by decide +kernel)
set_option maxRecDepth 20000 in
theorem gX2_setMark_X0_has : GoodIn wsX2_setMark (wsV RX2 38 RX0 yX0_has wsX0_has) := goodIn_app (goodIn_of _ (by decide +kernel)) ggX2_setMark_X0_has
set_option maxRecDepth 20000 in
theorem ggX2_setMark_X0_isMarked : GoodIn wsX2_setMark wsX0_isMarked := goodIn_r _ [12, 13, 14, 4, 5, 6, 7, 8, 23, 24, 25, 26] (by decide +kernel) (by decide +kernel)
set_option maxRecDepth 20000 in
theorem gX2_setMark_X0_isMarked : GoodIn wsX2_setMark (wsV RX2 114 RX0 yX0_isMarked wsX0_isMarked) := goodIn_app (goodIn_of _ (by decide +kernel)) ggX2_setMark_X0_isMarked
set_option maxRecDepth 20000 in
theorem ggX2_setMark_X0_putMark : GoodIn wsX2_setMark wsX0_putMark := goodIn_r _ [18, 13, 14, 4, 5, 6, 7, 8, 23, 24, 25, 26] (by decide +kernel) (by decide +kernel)
set_option maxRecDepth 20000 in
theorem gX2_setMark_X0_putMark : GoodIn wsX2_setMark (wsV RX2 117 RX0 yX0_putMark wsX0_putMark) := goodIn_app (goodIn_of _ (by decide +kernel)) ggX2_setMark_X0_putMark
theorem dX2_setMark_0 : decode cX2_setMark 0 = .ok (.aload_n 0, 1) := by decide +kernel
theorem dX2_setMark_1 : decode cX2_setMark 1 = .ok (.getfield 10, 3) := by decide +kernel
theorem dX2_setMark_4 : decode cX2_setMark 4 = .ok (.iload_n 1, 1) := by decide +kernel
theorem dX2_setMark_5 : decode cX2_setMark 5 = .ok (.invokevirtual 38, 3) := by decide +kernel
theorem dX2_setMark_8 : decode cX2_setMark 8 = .ok (.ifCond .ne 6, 3) := by decide +kernel
theorem dX2_setMark_11 : decode cX2_setMark 11 = .ok (.ldc 42, 2) := by decide +kernel
theorem dX2_setMark_13 : decode cX2_setMark 13 = .ok (.ireturn, 1) := by decide +kernel
theorem dX2_setMark_14 : decode cX2_setMark 14 = .ok (.aload_n 0, 1) := by decide +kernel
theorem dX2_setMark_15 : decode cX2_setMark 15 = .ok (.getfield 10, 3) := by decide +kernel
theorem dX2_setMark_18 : decode cX2_setMark 18 = .ok (.iload_n 1, 1) := by decide +kernel
theorem dX2_setMark_19 : decode cX2_setMark 19 = .ok (.invokevirtual 114, 3) := by decide +kernel
theorem dX2_setMark_22 : decode cX2_setMark 22 = .ok (.ifCond .eq 7, 3) := by decide +kernel
theorem dX2_setMark_25 : decode cX2_setMark 25 = .ok (.iconst 1, 1) := by decide +kernel
theorem dX2_setMark_26 : decode cX2_setMark 26 = .ok (.goto 4, 3) := by decide +kernel
theorem dX2_setMark_29 : decode cX2_setMark 29 = .ok (.iconst 0, 1) := by decide +kernel
theorem dX2_setMark_30 : decode cX2_setMark 30 = .ok (.istore_n 3, 1) := by decide +kernel
theorem dX2_setMark_31 : decode cX2_setMark 31 = .ok (.aload_n 0, 1) := by decide +kernel
theorem dX2_setMark_32 : decode cX2_setMark 32 = .ok (.getfield 10, 3) := by decide +kernel
theorem dX2_setMark_35 : decode cX2_setMark 35 = .ok (.iload_n 1, 1) := by decide +kernel
theorem dX2_setMark_36 : decode cX2_setMark 36 = .ok (.iload_n 2, 1) := by decide +kernel
theorem dX2_setMark_37 : decode cX2_setMark 37 = .ok (.invokevirtual 117, 3) := by decide +kernel
theorem dX2_setMark_40 : decode cX2_setMark 40 = .ok (.iload_n 3, 1) := by decide +kernel
theorem dX2_setMark_41 : decode cX2_setMark 41 = .ok (.ireturn, 1) := by decide +kernel
set_option maxRecDepth 20000 in
theorem ggX2_nearestMarked_X0_has : GoodIn wsX2_nearestMarked wsX0_has := goodIn_r _ [8, 9, 49, 50, 51, 52] (by decide +kernel) (by decide +kernel)
set_option maxRecDepth 20000 in
theorem gX2_nearestMarked_X0_has : GoodIn wsX2_nearestMarked (wsV RX2 38 RX0 yX0_has wsX0_has) := goodIn_app (goodIn_of _ (by decide +kernel)) ggX2_nearestMarked_X0_has
set_option maxRecDepth 20000 in
theorem ggX2_nearestMarked_X0_nearestMarkOf : GoodIn wsX2_nearestMarked wsX0_nearestMarkOf := goodIn_r _ [13, 9, 14, 15, 16, 7, 17, 18, 19, 20, 21, 22, 23, 24, 25, 26, 27, 5, 6, 8, 28, 29, 30, 31, 32, 33, 34, 35, 36, 37, 38, 39, 40, 41, 42, 43, 44, 49, 50, 51, 52] (by decide +kernel) (by decide +kernel)
set_option maxRecDepth 20000 in
theorem gX2_nearestMarked_X0_nearestMarkOf : GoodIn wsX2_nearestMarked (wsV RX2 121 RX0 yX0_nearestMarkOf wsX0_nearestMarkOf) := goodIn_app (goodIn_of _ (by decide +kernel)) ggX2_nearestMarked_X0_nearestMarkOf
theorem dX2_nearestMarked_0 : decode cX2_nearestMarked 0 = .ok (.aload_n 0, 1) := by decide +kernel
theorem dX2_nearestMarked_1 : decode cX2_nearestMarked 1 = .ok (.getfield 10, 3) := by decide +kernel
theorem dX2_nearestMarked_4 : decode cX2_nearestMarked 4 = .ok (.iload_n 1, 1) := by decide +kernel
theorem dX2_nearestMarked_5 : decode cX2_nearestMarked 5 = .ok (.invokevirtual 38, 3) := by decide +kernel
theorem dX2_nearestMarked_8 : decode cX2_nearestMarked 8 = .ok (.ifCond .ne 6, 3) := by decide +kernel
theorem dX2_nearestMarked_11 : decode cX2_nearestMarked 11 = .ok (.ldc 42, 2) := by decide +kernel
theorem dX2_nearestMarked_13 : decode cX2_nearestMarked 13 = .ok (.ireturn, 1) := by decide +kernel
theorem dX2_nearestMarked_14 : decode cX2_nearestMarked 14 = .ok (.aload_n 0, 1) := by decide +kernel
theorem dX2_nearestMarked_15 : decode cX2_nearestMarked 15 = .ok (.getfield 10, 3) := by decide +kernel
theorem dX2_nearestMarked_18 : decode cX2_nearestMarked 18 = .ok (.iload_n 1, 1) := by decide +kernel
theorem dX2_nearestMarked_19 : decode cX2_nearestMarked 19 = .ok (.invokevirtual 121, 3) := by decide +kernel
theorem dX2_nearestMarked_22 : decode cX2_nearestMarked 22 = .ok (.istore_n 2, 1) := by decide +kernel
theorem dX2_nearestMarked_23 : decode cX2_nearestMarked 23 = .ok (.iload_n 2, 1) := by decide +kernel
theorem dX2_nearestMarked_24 : decode cX2_nearestMarked 24 = .ok (.iconst (-1), 1) := by decide +kernel
theorem dX2_nearestMarked_25 : decode cX2_nearestMarked 25 = .ok (.if_icmp .ne 8, 3) := by decide +kernel
theorem dX2_nearestMarked_28 : decode cX2_nearestMarked 28 = .ok (.ldc 59, 2) := by decide +kernel
theorem dX2_nearestMarked_30 : decode cX2_nearestMarked 30 = .ok (.goto 4, 3) := by decide +kernel
theorem dX2_nearestMarked_33 : decode cX2_nearestMarked 33 = .ok (.iload_n 2, 1) := by decide +kernel
theorem dX2_nearestMarked_34 : decode cX2_nearestMarked 34 = .ok (.ireturn, 1) := by decide +kernel
set_option maxRecDepth 20000 in
theorem ggX2_save_X2_isSlot : GoodIn wsX2_save wsX2_isSlot := goodIn_r _ [6] (by decide +kernel) (by decide +kernel)
set_option maxRecDepth 20000 in
theorem gX2_save_X2_isSlot : GoodIn wsX2_save (va_wsS RX2 124 yX2_isSlot wsX2_isSlot) := goodIn_app (goodIn_of _ (by decide +kernel)) ggX2_save_X2_isSlot
set_option maxRecDepth 20000 in
theorem ggX2_save_X2_slotAt : GoodIn wsX2_save wsX2_slotAt := goodIn_r _ [10, 11, 12, 26, 27, 28, 29] (by decide +kernel) (by decide +kernel)
set_option maxRecDepth 20000 in
theorem gX2_save_X2_slotAt : GoodIn wsX2_save (wsV RX2 127 RX2 yX2_slotAt wsX2_slotAt) := goodIn_app (goodIn_of _ (by decide +kernel)) ggX2_save_X2_slotAt
set_option maxRecDepth 20000 in
theorem ggX2_save_X0_copyFrom : GoodIn wsX2_save wsX0_copyFrom := goodIn_r _ [17, 18, 19, 20, 21, 30, 31, 32, 33] (by decide +kernel) (by decide +kernel)
set_option maxRecDepth 20000 in
theorem gX2_save_X0_copyFrom : GoodIn wsX2_save (wsV RX2 131 RX0 yX0_copyFrom wsX0_copyFrom) := goodIn_app (goodIn_of _ (by decide +kernel)) ggX2_save_X0_copyFrom
set_option maxRecDepth 20000 in
theorem ggX2_save_X0_size : GoodIn wsX2_save wsX0_size := goodIn_r _ [25, 18, 30, 31, 32, 33] (by decide +kernel) (by decide +kernel)
set_option maxRecDepth 20000 in
theorem gX2_save_X0_size : GoodIn wsX2_save (wsV RX2 34 RX0 yX0_size wsX0_size) := goodIn_app (goodIn_of _ (by decide +kernel)) ggX2_save_X0_size
theorem dX2_save_0 : decode cX2_save 0 = .ok (.iload_n 1, 1) := by decide +kernel
theorem dX2_save_1 : decode cX2_save 1 = .ok (.invokestatic 124, 3) := by decide +kernel
theorem dX2_save_4 : decode cX2_save 4 = .ok (.ifCond .ne 6, 3) := by decide +kernel
theorem dX2_save_7 : decode cX2_save 7 = .ok (.ldc 33, 2) := by decide +kernel
theorem dX2_save_9 : decode cX2_save 9 = .ok (.ireturn, 1) := by decide +kernel
theorem dX2_save_10 : decode cX2_save 10 = .ok (.aload_n 0, 1) := by decide +kernel
theorem dX2_save_11 : decode cX2_save 11 = .ok (.iload_n 1, 1) := by decide +kernel
theorem dX2_save_12 : decode cX2_save 12 = .ok (.invokevirtual 127, 3) := by decide +kernel
theorem dX2_save_15 : decode cX2_save 15 = .ok (.aload_n 0, 1) := by decide +kernel
theorem dX2_save_16 : decode cX2_save 16 = .ok (.getfield 10, 3) := by decide +kernel
theorem dX2_save_19 : decode cX2_save 19 = .ok (.invokevirtual 131, 3) := by decide +kernel
theorem dX2_save_22 : decode cX2_save 22 = .ok (.aload_n 0, 1) := by decide +kernel
theorem dX2_save_23 : decode cX2_save 23 = .ok (.getfield 10, 3) := by decide +kernel
theorem dX2_save_26 : decode cX2_save 26 = .ok (.invokevirtual 34, 3) := by decide +kernel
theorem dX2_save_29 : decode cX2_save 29 = .ok (.ireturn, 1) := by decide +kernel
set_option maxRecDepth 20000 in
theorem ggX2_restore_X2_isSlot : GoodIn wsX2_restore wsX2_isSlot := goodIn_r _ [7] (by decide +kernel) (by decide +kernel)
set_option maxRecDepth 20000 in
theorem gX2_restore_X2_isSlot : GoodIn wsX2_restore (va_wsS RX2 124 yX2_isSlot wsX2_isSlot) := goodIn_app (goodIn_of _ (by decide +kernel)) ggX2_restore_X2_isSlot
set_option maxRecDepth 20000 in
theorem ggX2_restore_X2_slotAt : GoodIn wsX2_restore wsX2_slotAt := goodIn_r _ [11, 12, 13, 27, 28, 29, 30] (by decide +kernel) (by decide +kernel)
set_option maxRecDepth 20000 in
theorem gX2_restore_X2_slotAt : GoodIn wsX2_restore (wsV RX2 127 RX2 yX2_slotAt wsX2_slotAt) := goodIn_app (goodIn_of _ (by decide +kernel)) ggX2_restore_X2_slotAt
set_option maxRecDepth 20000 in
theorem ggX2_restore_X0_size : GoodIn wsX2_restore wsX0_size := goodIn_r _ [18, 19, 31, 32, 33, 34] (by decide +kernel) (by decide +kernel)
set_option maxRecDepth 20000 in
theorem gX2_restore_X0_size : GoodIn wsX2_restore (wsV RX2 34 RX0 yX0_size wsX0_size) := goodIn_app (goodIn_of _ (by decide +kernel)) ggX2_restore_X0_size
set_option maxRecDepth 20000 in
theorem ggX2_restore_X0_copyFrom : GoodIn wsX2_restore wsX0_copyFrom := goodIn_r _ [23, 19, 24, 25, 26, 31, 32, 33, 34] (by decide +kernel) (by decide +kernel)
set_option maxRecDepth 20000 in
theorem gX2_restore_X0_copyFrom : GoodIn wsX2_restore (wsV RX2 131 RX0 yX0_copyFrom wsX0_copyFrom) := goodIn_app (goodIn_of _ (by decide +kernel)) ggX2_restore_X0_copyFrom
theorem dX2_restore_0 : decode cX2_restore 0 = .ok (.iload_n 1, 1) := by decide +kernel
theorem dX2_restore_1 : decode cX2_restore 1 = .ok (.invokestatic 124, 3) := by decide +kernel
theorem dX2_restore_4 : decode cX2_restore 4 = .ok (.ifCond .ne 6, 3) := by decide +kernel
theorem dX2_restore_7 : decode cX2_restore 7 = .ok (.ldc 33, 2) := by decide +kernel
theorem dX2_restore_9 : decode cX2_restore 9 = .ok (.ireturn, 1) := by decide +kernel
theorem dX2_restore_10 : decode cX2_restore 10 = .ok (.aload_n 0, 1) := by decide +kernel
theorem dX2_restore_11 : decode cX2_restore 11 = .ok (.iload_n 1, 1) := by decide +kernel
theorem dX2_restore_12 : decode cX2_restore 12 = .ok (.invokevirtual 127, 3) := by decide +kernel
theorem dX2_restore_15 : decode cX2_restore 15 = .ok (.astore_n 2, 1) := by decide +kernel
theorem dX2_restore_16 : decode cX2_restore 16 = .ok (.aload_n 2, 1) := by decide +kernel
theorem dX2_restore_17 : decode cX2_restore 17 = .ok (.invokevirtual 34, 3) := by decide +kernel
theorem dX2_restore_20 : decode cX2_restore 20 = .ok (.ifCond .ne 6, 3) := by decide +kernel
theorem dX2_restore_23 : decode cX2_restore 23 = .ok (.ldc 135, 2) := by decide +kernel
theorem dX2_restore_25 : decode cX2_restore 25 = .ok (.ireturn, 1) := by decide +kernel
theorem dX2_restore_26 : decode cX2_restore 26 = .ok (.aload_n 0, 1) := by decide +kernel
theorem dX2_restore_27 : decode cX2_restore 27 = .ok (.getfield 10, 3) := by decide +kernel
theorem dX2_restore_30 : decode cX2_restore 30 = .ok (.aload_n 2, 1) := by decide +kernel
theorem dX2_restore_31 : decode cX2_restore 31 = .ok (.invokevirtual 131, 3) := by decide +kernel
theorem dX2_restore_34 : decode cX2_restore 34 = .ok (.aload_n 0, 1) := by decide +kernel
theorem dX2_restore_35 : decode cX2_restore 35 = .ok (.getfield 10, 3) := by decide +kernel
theorem dX2_restore_38 : decode cX2_restore 38 = .ok (.invokevirtual 34, 3) := by decide +kernel
theorem dX2_restore_41 : decode cX2_restore 41 = .ok (.ireturn, 1) := by decide +kernel
theorem dX2_isValue_0 : decode cX2_isValue 0 = .ok (.iload_n 0, 1) := by decide +kernel
theorem dX2_isValue_1 : decode cX2_isValue 1 = .ok (.ldc 136, 2) := by decide +kernel
theorem dX2_isValue_3 : decode cX2_isValue 3 = .ok (.if_icmp .lt 13, 3) := by decide +kernel
theorem dX2_isValue_6 : decode cX2_isValue 6 = .ok (.iload_n 0, 1) := by decide +kernel
theorem dX2_isValue_7 : decode cX2_isValue 7 = .ok (.ldc 137, 2) := by decide +kernel
theorem dX2_isValue_9 : decode cX2_isValue 9 = .ok (.if_icmp .gt 7, 3) := by decide +kernel
theorem dX2_isValue_12 : decode cX2_isValue 12 = .ok (.iconst 1, 1) := by decide +kernel
theorem dX2_isValue_13 : decode cX2_isValue 13 = .ok (.goto 4, 3) := by decide +kernel
theorem dX2_isValue_16 : decode cX2_isValue 16 = .ok (.iconst 0, 1) := by decide +kernel
theorem dX2_isValue_17 : decode cX2_isValue 17 = .ok (.ireturn, 1) := by decide +kernel
theorem dX2_isSlot_0 : decode cX2_isSlot 0 = .ok (.iload_n 0, 1) := by decide +kernel
theorem dX2_isSlot_1 : decode cX2_isSlot 1 = .ok (.ifCond .eq 8, 3) := by decide +kernel
theorem dX2_isSlot_4 : decode cX2_isSlot 4 = .ok (.iload_n 0, 1) := by decide +kernel
theorem dX2_isSlot_5 : decode cX2_isSlot 5 = .ok (.iconst 1, 1) := by decide +kernel
theorem dX2_isSlot_6 : decode cX2_isSlot 6 = .ok (.if_icmp .ne 7, 3) := by decide +kernel
theorem dX2_isSlot_9 : decode cX2_isSlot 9 = .ok (.iconst 1, 1) := by decide +kernel
theorem dX2_isSlot_10 : decode cX2_isSlot 10 = .ok (.goto 4, 3) := by decide +kernel
theorem dX2_isSlot_13 : decode cX2_isSlot 13 = .ok (.iconst 0, 1) := by decide +kernel
theorem dX2_isSlot_14 : decode cX2_isSlot 14 = .ok (.ireturn, 1) := by decide +kernel
theorem dX2_slotAt_0 : decode cX2_slotAt 0 = .ok (.iload_n 1, 1) := by decide +kernel
theorem dX2_slotAt_1 : decode cX2_slotAt 1 = .ok (.ifCond .ne 10, 3) := by decide +kernel
theorem dX2_slotAt_4 : decode cX2_slotAt 4 = .ok (.aload_n 0, 1) := by decide +kernel
theorem dX2_slotAt_5 : decode cX2_slotAt 5 = .ok (.getfield 16, 3) := by decide +kernel
theorem dX2_slotAt_8 : decode cX2_slotAt 8 = .ok (.goto 7, 3) := by decide +kernel
theorem dX2_slotAt_11 : decode cX2_slotAt 11 = .ok (.aload_n 0, 1) := by decide +kernel
theorem dX2_slotAt_12 : decode cX2_slotAt 12 = .ok (.getfield 19, 3) := by decide +kernel
theorem dX2_slotAt_15 : decode cX2_slotAt 15 = .ok (.areturn, 1) := by decide +kernel
set_option maxRecDepth 20000 in
theorem ggX2_pathError_X0_has : GoodIn wsX2_pathError wsX0_has := goodIn_r _ [8, 9, 32, 33, 34, 35] (by decide +kernel) (by decide +kernel)
set_option maxRecDepth 20000 in
theorem gX2_pathError_X0_has : GoodIn wsX2_pathError (wsV RX2 38 RX0 yX0_has wsX0_has) := goodIn_app (goodIn_of _ (by decide +kernel)) ggX2_pathError_X0_has
set_option maxRecDepth 20000 in
theorem ggX2_pathError_X0_rootOf : GoodIn wsX2_pathError wsX0_rootOf := goodIn_r _ [13, 14, 15, 16, 7, 17, 18, 19, 20, 21, 22, 23, 5, 6, 8, 9, 24, 25, 26, 27, 32, 33, 34, 35] (by decide +kernel) (by decide +kernel)
set_option maxRecDepth 20000 in
theorem gX2_pathError_X0_rootOf : GoodIn wsX2_pathError (wsV RX2 47 RX0 yX0_rootOf wsX0_rootOf) := goodIn_app (goodIn_of _ (by decide +kernel)) ggX2_pathError_X0_rootOf
theorem dX2_pathError_0 : decode cX2_pathError 0 = .ok (.aload_n 0, 1) := by decide +kernel
theorem dX2_pathError_1 : decode cX2_pathError 1 = .ok (.getfield 10, 3) := by decide +kernel
theorem dX2_pathError_4 : decode cX2_pathError 4 = .ok (.iload_n 1, 1) := by decide +kernel
theorem dX2_pathError_5 : decode cX2_pathError 5 = .ok (.invokevirtual 38, 3) := by decide +kernel
theorem dX2_pathError_8 : decode cX2_pathError 8 = .ok (.ifCond .eq 14, 3) := by decide +kernel
theorem dX2_pathError_11 : decode cX2_pathError 11 = .ok (.aload_n 0, 1) := by decide +kernel
theorem dX2_pathError_12 : decode cX2_pathError 12 = .ok (.getfield 10, 3) := by decide +kernel
theorem dX2_pathError_15 : decode cX2_pathError 15 = .ok (.iload_n 2, 1) := by decide +kernel
theorem dX2_pathError_16 : decode cX2_pathError 16 = .ok (.invokevirtual 38, 3) := by decide +kernel
theorem dX2_pathError_19 : decode cX2_pathError 19 = .ok (.ifCond .ne 6, 3) := by decide +kernel
theorem dX2_pathError_22 : decode cX2_pathError 22 = .ok (.ldc 42, 2) := by decide +kernel
theorem dX2_pathError_24 : decode cX2_pathError 24 = .ok (.ireturn, 1) := by decide +kernel
theorem dX2_pathError_25 : decode cX2_pathError 25 = .ok (.aload_n 0, 1) := by decide +kernel
theorem dX2_pathError_26 : decode cX2_pathError 26 = .ok (.getfield 10, 3) := by decide +kernel
theorem dX2_pathError_29 : decode cX2_pathError 29 = .ok (.iload_n 1, 1) := by decide +kernel
theorem dX2_pathError_30 : decode cX2_pathError 30 = .ok (.invokevirtual 47, 3) := by decide +kernel
theorem dX2_pathError_33 : decode cX2_pathError 33 = .ok (.aload_n 0, 1) := by decide +kernel
theorem dX2_pathError_34 : decode cX2_pathError 34 = .ok (.getfield 10, 3) := by decide +kernel
theorem dX2_pathError_37 : decode cX2_pathError 37 = .ok (.iload_n 2, 1) := by decide +kernel
theorem dX2_pathError_38 : decode cX2_pathError 38 = .ok (.invokevirtual 47, 3) := by decide +kernel
theorem dX2_pathError_41 : decode cX2_pathError 41 = .ok (.if_icmp .ne 7, 3) := by decide +kernel
theorem dX2_pathError_44 : decode cX2_pathError 44 = .ok (.iconst 0, 1) := by decide +kernel
theorem dX2_pathError_45 : decode cX2_pathError 45 = .ok (.goto 5, 3) := by decide +kernel
theorem dX2_pathError_48 : decode cX2_pathError 48 = .ok (.ldc 138, 2) := by decide +kernel
theorem dX2_pathError_50 : decode cX2_pathError 50 = .ok (.ireturn, 1) := by decide +kernel
set_option maxRecDepth 20000 in
theorem ggX2_tracePath_X2_pathError : GoodIn wsX2_tracePath wsX2_pathError := goodIn_r _ [7, 2, 8, 9, 10, 11, 12, 13, 14, 15, 16, 17, 18, 19, 20, 21, 22, 23, 24, 25, 26, 27, 28, 29, 30, 31, 32, 33, 66, 67, 68, 69, 70, 71, 72, 73] (by decide +kernel) (by decide +kernel)
set_option maxRecDepth 20000 in
theorem gX2_tracePath_X2_pathError : GoodIn wsX2_tracePath (wsV RX2 72 RX2 yX2_pathError wsX2_pathError) := goodIn_app (goodIn_of _ (by decide +kernel)) ggX2_tracePath_X2_pathError
set_option maxRecDepth 20000 in
theorem ggX2_tracePath_X1_trace : GoodIn wsX2_tracePath wsX1_trace := goodIn_r _ [38, 39, 40, 41, 42, 13, 43, 20, 21, 22, 23, 24, 25, 26, 27, 28, 29, 11, 12, 14, 15, 30, 31, 32, 33, 44, 45, 46, 37, 47, 48, 49, 50, 51, 52, 53, 54, 55, 56, 57, 58, 59, 60, 61, 62, 63, 64, 65, 74, 75, 70, 71, 72, 73] (by decide +kernel) (by decide +kernel)
set_option maxRecDepth 20000 in
theorem gX2_tracePath_X1_trace : GoodIn wsX2_tracePath (wsV RX2 139 RX1 yX1_trace wsX1_trace) := goodIn_app (goodIn_of _ (by decide +kernel)) ggX2_tracePath_X1_trace
theorem dX2_tracePath_0 : decode cX2_tracePath 0 = .ok (.aload_n 0, 1) := by decide +kernel
theorem dX2_tracePath_1 : decode cX2_tracePath 1 = .ok (.iload_n 1, 1) := by decide +kernel
theorem dX2_tracePath_2 : decode cX2_tracePath 2 = .ok (.iload_n 2, 1) := by decide +kernel
theorem dX2_tracePath_3 : decode cX2_tracePath 3 = .ok (.invokevirtual 72, 3) := by decide +kernel
theorem dX2_tracePath_6 : decode cX2_tracePath 6 = .ok (.istore_n 3, 1) := by decide +kernel
theorem dX2_tracePath_7 : decode cX2_tracePath 7 = .ok (.iload_n 3, 1) := by decide +kernel
theorem dX2_tracePath_8 : decode cX2_tracePath 8 = .ok (.ifCond .ne 16, 3) := by decide +kernel
theorem dX2_tracePath_11 : decode cX2_tracePath 11 = .ok (.aload_n 0, 1) := by decide +kernel
theorem dX2_tracePath_12 : decode cX2_tracePath 12 = .ok (.getfield 25, 3) := by decide +kernel
theorem dX2_tracePath_15 : decode cX2_tracePath 15 = .ok (.aload_n 0, 1) := by decide +kernel
theorem dX2_tracePath_16 : decode cX2_tracePath 16 = .ok (.getfield 10, 3) := by decide +kernel
theorem dX2_tracePath_19 : decode cX2_tracePath 19 = .ok (.iload_n 1, 1) := by decide +kernel
theorem dX2_tracePath_20 : decode cX2_tracePath 20 = .ok (.iload_n 2, 1) := by decide +kernel
theorem dX2_tracePath_21 : decode cX2_tracePath 21 = .ok (.invokevirtual 139, 3) := by decide +kernel
theorem dX2_tracePath_24 : decode cX2_tracePath 24 = .ok (.iload_n 3, 1) := by decide +kernel
theorem dX2_tracePath_25 : decode cX2_tracePath 25 = .ok (.ireturn, 1) := by decide +kernel
set_option maxRecDepth 20000 in
theorem ggX3_init_X3_begin : GoodIn wsX3_init wsX3_begin := goodIn_r _ [14, 5, 15, 16, 17, 18, 19] (by decide +kernel) (by decide +kernel)
set_option maxRecDepth 20000 in
theorem gX3_init_X3_begin : GoodIn wsX3_init (wsV RX3 23 RX3 yX3_begin wsX3_begin) := goodIn_app (goodIn_of _ (by decide +kernel)) ggX3_init_X3_begin
