/-! decode rows: by program -/
theorem dX5_init_0 : decode cX5_init 0 = .ok (.aload_n 0, 1) := by decide +kernel
theorem dX5_init_1 : decode cX5_init 1 = .ok (.invokespecial 1, 3) := by decide +kernel
theorem dX5_init_4 : decode cX5_init 4 = .ok (.aload_n 0, 1) := by decide +kernel
theorem dX5_init_5 : decode cX5_init 5 = .ok (.new 7, 3) := by decide +kernel
theorem dX5_init_8 : decode cX5_init 8 = .ok (.dup, 1) := by decide +kernel
theorem dX5_init_9 : decode cX5_init 9 = .ok (.invokespecial 9, 3) := by decide +kernel
theorem dX5_init_12 : decode cX5_init 12 = .ok (.putfield 10, 3) := by decide +kernel
theorem dX5_init_15 : decode cX5_init 15 = .ok (.aload_n 0, 1) := by decide +kernel
theorem dX5_init_16 : decode cX5_init 16 = .ok (.new 16, 3) := by decide +kernel
theorem dX5_init_19 : decode cX5_init 19 = .ok (.dup, 1) := by decide +kernel
theorem dX5_init_20 : decode cX5_init 20 = .ok (.aload_n 0, 1) := by decide +kernel
theorem dX5_init_21 : decode cX5_init 21 = .ok (.getfield 10, 3) := by decide +kernel
theorem dX5_init_24 : decode cX5_init 24 = .ok (.invokespecial 18, 3) := by decide +kernel
theorem dX5_init_27 : decode cX5_init 27 = .ok (.putfield 21, 3) := by decide +kernel
theorem dX5_init_30 : decode cX5_init 30 = .ok (.aload_n 0, 1) := by decide +kernel
theorem dX5_init_31 : decode cX5_init 31 = .ok (.new 25, 3) := by decide +kernel
theorem dX5_init_34 : decode cX5_init 34 = .ok (.dup, 1) := by decide +kernel
theorem dX5_init_35 : decode cX5_init 35 = .ok (.aload_n 0, 1) := by decide +kernel
theorem dX5_init_36 : decode cX5_init 36 = .ok (.getfield 10, 3) := by decide +kernel
theorem dX5_init_39 : decode cX5_init 39 = .ok (.aload_n 0, 1) := by decide +kernel
theorem dX5_init_40 : decode cX5_init 40 = .ok (.getfield 21, 3) := by decide +kernel
theorem dX5_init_43 : decode cX5_init 43 = .ok (.invokespecial 27, 3) := by decide +kernel
theorem dX5_init_46 : decode cX5_init 46 = .ok (.putfield 30, 3) := by decide +kernel
theorem dX5_init_49 : decode cX5_init 49 = .ok (.aload_n 0, 1) := by decide +kernel
theorem dX5_init_50 : decode cX5_init 50 = .ok (.new 34, 3) := by decide +kernel
theorem dX5_init_53 : decode cX5_init 53 = .ok (.dup, 1) := by decide +kernel
theorem dX5_init_54 : decode cX5_init 54 = .ok (.aload_n 0, 1) := by decide +kernel
theorem dX5_init_55 : decode cX5_init 55 = .ok (.getfield 10, 3) := by decide +kernel
theorem dX5_init_58 : decode cX5_init 58 = .ok (.invokespecial 36, 3) := by decide +kernel
theorem dX5_init_61 : decode cX5_init 61 = .ok (.putfield 37, 3) := by decide +kernel
theorem dX5_init_64 : decode cX5_init 64 = .ok (.aload_n 0, 1) := by decide +kernel
theorem dX5_init_65 : decode cX5_init 65 = .ok (.iconst 4, 1) := by decide +kernel
theorem dX5_init_66 : decode cX5_init 66 = .ok (.anewarray 41, 3) := by decide +kernel
theorem dX5_init_69 : decode cX5_init 69 = .ok (.putfield 43, 3) := by decide +kernel
theorem dX5_init_72 : decode cX5_init 72 = .ok (.iconst 0, 1) := by decide +kernel
theorem dX5_init_73 : decode cX5_init 73 = .ok (.istore_n 1, 1) := by decide +kernel
theorem dX5_init_74 : decode cX5_init 74 = .ok (.iload_n 1, 1) := by decide +kernel
theorem dX5_init_75 : decode cX5_init 75 = .ok (.iconst 4, 1) := by decide +kernel
theorem dX5_init_76 : decode cX5_init 76 = .ok (.if_icmp .ge 29, 3) := by decide +kernel
theorem dX5_init_79 : decode cX5_init 79 = .ok (.aload_n 0, 1) := by decide +kernel
theorem dX5_init_80 : decode cX5_init 80 = .ok (.getfield 43, 3) := by decide +kernel
theorem dX5_init_83 : decode cX5_init 83 = .ok (.iload_n 1, 1) := by decide +kernel
theorem dX5_init_84 : decode cX5_init 84 = .ok (.new 41, 3) := by decide +kernel
theorem dX5_init_87 : decode cX5_init 87 = .ok (.dup, 1) := by decide +kernel
theorem dX5_init_88 : decode cX5_init 88 = .ok (.aload_n 0, 1) := by decide +kernel
theorem dX5_init_89 : decode cX5_init 89 = .ok (.getfield 10, 3) := by decide +kernel
theorem dX5_init_92 : decode cX5_init 92 = .ok (.iload_n 1, 1) := by decide +kernel
theorem dX5_init_93 : decode cX5_init 93 = .ok (.iconst 1, 1) := by decide +kernel
theorem dX5_init_94 : decode cX5_init 94 = .ok (.iadd, 1) := by decide +kernel
theorem dX5_init_95 : decode cX5_init 95 = .ok (.invokespecial 47, 3) := by decide +kernel
theorem dX5_init_98 : decode cX5_init 98 = .ok (.aastore, 1) := by decide +kernel
theorem dX5_init_99 : decode cX5_init 99 = .ok (.iinc 1 1, 3) := by decide +kernel
theorem dX5_init_102 : decode cX5_init 102 = .ok (.goto (-28), 3) := by decide +kernel
theorem dX5_init_105 : decode cX5_init 105 = .ok (.return_, 1) := by decide +kernel
theorem dX5_node_0 : decode cX5_node 0 = .ok (.aload_n 0, 1) := by decide +kernel
theorem dX5_node_1 : decode cX5_node 1 = .ok (.getfield 10, 3) := by decide +kernel
theorem dX5_node_4 : decode cX5_node 4 = .ok (.getfield 50, 3) := by decide +kernel
theorem dX5_node_7 : decode cX5_node 7 = .ok (.bipush 12, 2) := by decide +kernel
theorem dX5_node_9 : decode cX5_node 9 = .ok (.if_icmp .lt 8, 3) := by decide +kernel
theorem dX5_node_12 : decode cX5_node 12 = .ok (.bipush (-4), 2) := by decide +kernel
theorem dX5_node_14 : decode cX5_node 14 = .ok (.goto 10, 3) := by decide +kernel
theorem dX5_node_17 : decode cX5_node 17 = .ok (.aload_n 0, 1) := by decide +kernel
theorem dX5_node_18 : decode cX5_node 18 = .ok (.getfield 10, 3) := by decide +kernel
theorem dX5_node_21 : decode cX5_node 21 = .ok (.invokevirtual 54, 3) := by decide +kernel
theorem dX5_node_24 : decode cX5_node 24 = .ok (.ireturn, 1) := by decide +kernel
theorem dX5_arc_0 : decode cX5_arc 0 = .ok (.aload_n 0, 1) := by decide +kernel
theorem dX5_arc_1 : decode cX5_arc 1 = .ok (.getfield 10, 3) := by decide +kernel
theorem dX5_arc_4 : decode cX5_arc 4 = .ok (.iload_n 1, 1) := by decide +kernel
theorem dX5_arc_5 : decode cX5_arc 5 = .ok (.iload_n 2, 1) := by decide +kernel
theorem dX5_arc_6 : decode cX5_arc 6 = .ok (.invokevirtual 58, 3) := by decide +kernel
theorem dX5_arc_9 : decode cX5_arc 9 = .ok (.ifCond .ne 5, 3) := by decide +kernel
theorem dX5_arc_12 : decode cX5_arc 12 = .ok (.iconst (-1), 1) := by decide +kernel
theorem dX5_arc_13 : decode cX5_arc 13 = .ok (.ireturn, 1) := by decide +kernel
theorem dX5_arc_14 : decode cX5_arc 14 = .ok (.iload_n 3, 1) := by decide +kernel
theorem dX5_arc_15 : decode cX5_arc 15 = .ok (.iconst 1, 1) := by decide +kernel
theorem dX5_arc_16 : decode cX5_arc 16 = .ok (.if_icmp .lt 10, 3) := by decide +kernel
theorem dX5_arc_19 : decode cX5_arc 19 = .ok (.iload_n 3, 1) := by decide +kernel
theorem dX5_arc_20 : decode cX5_arc 20 = .ok (.sipush 1000, 3) := by decide +kernel
theorem dX5_arc_23 : decode cX5_arc 23 = .ok (.if_icmp .le 6, 3) := by decide +kernel
theorem dX5_arc_26 : decode cX5_arc 26 = .ok (.bipush (-2), 2) := by decide +kernel
theorem dX5_arc_28 : decode cX5_arc 28 = .ok (.ireturn, 1) := by decide +kernel
theorem dX5_arc_29 : decode cX5_arc 29 = .ok (.aload_n 0, 1) := by decide +kernel
theorem dX5_arc_30 : decode cX5_arc 30 = .ok (.getfield 10, 3) := by decide +kernel
theorem dX5_arc_33 : decode cX5_arc 33 = .ok (.getfield 62, 3) := by decide +kernel
theorem dX5_arc_36 : decode cX5_arc 36 = .ok (.bipush 50, 2) := by decide +kernel
theorem dX5_arc_38 : decode cX5_arc 38 = .ok (.if_icmp .lt 8, 3) := by decide +kernel
theorem dX5_arc_41 : decode cX5_arc 41 = .ok (.bipush (-4), 2) := by decide +kernel
theorem dX5_arc_43 : decode cX5_arc 43 = .ok (.goto 13, 3) := by decide +kernel
theorem dX5_arc_46 : decode cX5_arc 46 = .ok (.aload_n 0, 1) := by decide +kernel
theorem dX5_arc_47 : decode cX5_arc 47 = .ok (.getfield 10, 3) := by decide +kernel
theorem dX5_arc_50 : decode cX5_arc 50 = .ok (.iload_n 1, 1) := by decide +kernel
theorem dX5_arc_51 : decode cX5_arc 51 = .ok (.iload_n 2, 1) := by decide +kernel
theorem dX5_arc_52 : decode cX5_arc 52 = .ok (.iload_n 3, 1) := by decide +kernel
theorem dX5_arc_53 : decode cX5_arc 53 = .ok (.invokevirtual 65, 3) := by decide +kernel
theorem dX5_arc_56 : decode cX5_arc 56 = .ok (.ireturn, 1) := by decide +kernel
theorem dX5_drop_0 : decode cX5_drop 0 = .ok (.aload_n 0, 1) := by decide +kernel
theorem dX5_drop_1 : decode cX5_drop 1 = .ok (.getfield 10, 3) := by decide +kernel
theorem dX5_drop_4 : decode cX5_drop 4 = .ok (.iload_n 1, 1) := by decide +kernel
theorem dX5_drop_5 : decode cX5_drop 5 = .ok (.invokevirtual 69, 3) := by decide +kernel
theorem dX5_drop_8 : decode cX5_drop 8 = .ok (.ifCond .eq 14, 3) := by decide +kernel
theorem dX5_drop_11 : decode cX5_drop 11 = .ok (.aload_n 0, 1) := by decide +kernel
theorem dX5_drop_12 : decode cX5_drop 12 = .ok (.getfield 10, 3) := by decide +kernel
theorem dX5_drop_15 : decode cX5_drop 15 = .ok (.iload_n 1, 1) := by decide +kernel
theorem dX5_drop_16 : decode cX5_drop 16 = .ok (.invokevirtual 73, 3) := by decide +kernel
theorem dX5_drop_19 : decode cX5_drop 19 = .ok (.goto 4, 3) := by decide +kernel
theorem dX5_drop_22 : decode cX5_drop 22 = .ok (.iconst (-1), 1) := by decide +kernel
theorem dX5_drop_23 : decode cX5_drop 23 = .ok (.ireturn, 1) := by decide +kernel
theorem dX5_clear_0 : decode cX5_clear 0 = .ok (.aload_n 0, 1) := by decide +kernel
theorem dX5_clear_1 : decode cX5_clear 1 = .ok (.getfield 10, 3) := by decide +kernel
theorem dX5_clear_4 : decode cX5_clear 4 = .ok (.invokevirtual 77, 3) := by decide +kernel
theorem dX5_clear_7 : decode cX5_clear 7 = .ok (.ireturn, 1) := by decide +kernel
theorem dX5_cut_0 : decode cX5_cut 0 = .ok (.aload_n 0, 1) := by decide +kernel
theorem dX5_cut_1 : decode cX5_cut 1 = .ok (.getfield 10, 3) := by decide +kernel
theorem dX5_cut_4 : decode cX5_cut 4 = .ok (.iload_n 1, 1) := by decide +kernel
theorem dX5_cut_5 : decode cX5_cut 5 = .ok (.invokevirtual 80, 3) := by decide +kernel
theorem dX5_cut_8 : decode cX5_cut 8 = .ok (.ifCond .eq 14, 3) := by decide +kernel
theorem dX5_cut_11 : decode cX5_cut 11 = .ok (.aload_n 0, 1) := by decide +kernel
theorem dX5_cut_12 : decode cX5_cut 12 = .ok (.getfield 10, 3) := by decide +kernel
theorem dX5_cut_15 : decode cX5_cut 15 = .ok (.iload_n 1, 1) := by decide +kernel
theorem dX5_cut_16 : decode cX5_cut 16 = .ok (.invokevirtual 83, 3) := by decide +kernel
theorem dX5_cut_19 : decode cX5_cut 19 = .ok (.goto 5, 3) := by decide +kernel
theorem dX5_cut_22 : decode cX5_cut 22 = .ok (.bipush (-2), 2) := by decide +kernel
theorem dX5_cut_24 : decode cX5_cut 24 = .ok (.ireturn, 1) := by decide +kernel
theorem dX5_pair_0 : decode cX5_pair 0 = .ok (.aload_n 0, 1) := by decide +kernel
theorem dX5_pair_1 : decode cX5_pair 1 = .ok (.getfield 10, 3) := by decide +kernel
theorem dX5_pair_4 : decode cX5_pair 4 = .ok (.iload_n 1, 1) := by decide +kernel
theorem dX5_pair_5 : decode cX5_pair 5 = .ok (.iload_n 2, 1) := by decide +kernel
theorem dX5_pair_6 : decode cX5_pair 6 = .ok (.invokevirtual 58, 3) := by decide +kernel
theorem dX5_pair_9 : decode cX5_pair 9 = .ok (.ifCond .eq 15, 3) := by decide +kernel
theorem dX5_pair_12 : decode cX5_pair 12 = .ok (.aload_n 0, 1) := by decide +kernel
theorem dX5_pair_13 : decode cX5_pair 13 = .ok (.invokevirtual 86, 3) := by decide +kernel
theorem dX5_pair_16 : decode cX5_pair 16 = .ok (.iload_n 1, 1) := by decide +kernel
theorem dX5_pair_17 : decode cX5_pair 17 = .ok (.iload_n 2, 1) := by decide +kernel
theorem dX5_pair_18 : decode cX5_pair 18 = .ok (.invokevirtual 90, 3) := by decide +kernel
theorem dX5_pair_21 : decode cX5_pair 21 = .ok (.goto 4, 3) := by decide +kernel
theorem dX5_pair_24 : decode cX5_pair 24 = .ok (.iconst (-1), 1) := by decide +kernel
theorem dX5_pair_25 : decode cX5_pair 25 = .ok (.ireturn, 1) := by decide +kernel
theorem dX5_side_0 : decode cX5_side 0 = .ok (.aload_n 0, 1) := by decide +kernel
theorem dX5_side_1 : decode cX5_side 1 = .ok (.getfield 10, 3) := by decide +kernel
theorem dX5_side_4 : decode cX5_side 4 = .ok (.iload_n 1, 1) := by decide +kernel
theorem dX5_side_5 : decode cX5_side 5 = .ok (.iload_n 2, 1) := by decide +kernel
theorem dX5_side_6 : decode cX5_side 6 = .ok (.invokevirtual 58, 3) := by decide +kernel
theorem dX5_side_9 : decode cX5_side 9 = .ok (.ifCond .eq 15, 3) := by decide +kernel
theorem dX5_side_12 : decode cX5_side 12 = .ok (.aload_n 0, 1) := by decide +kernel
theorem dX5_side_13 : decode cX5_side 13 = .ok (.invokevirtual 86, 3) := by decide +kernel
theorem dX5_side_16 : decode cX5_side 16 = .ok (.iload_n 1, 1) := by decide +kernel
theorem dX5_side_17 : decode cX5_side 17 = .ok (.iload_n 2, 1) := by decide +kernel
theorem dX5_side_18 : decode cX5_side 18 = .ok (.invokevirtual 94, 3) := by decide +kernel
theorem dX5_side_21 : decode cX5_side 21 = .ok (.goto 4, 3) := by decide +kernel
theorem dX5_side_24 : decode cX5_side 24 = .ok (.iconst (-1), 1) := by decide +kernel
theorem dX5_side_25 : decode cX5_side 25 = .ok (.ireturn, 1) := by decide +kernel
theorem dX5_parent_0 : decode cX5_parent 0 = .ok (.aload_n 0, 1) := by decide +kernel
theorem dX5_parent_1 : decode cX5_parent 1 = .ok (.getfield 10, 3) := by decide +kernel
theorem dX5_parent_4 : decode cX5_parent 4 = .ok (.iload_n 1, 1) := by decide +kernel
theorem dX5_parent_5 : decode cX5_parent 5 = .ok (.invokevirtual 97, 3) := by decide +kernel
theorem dX5_parent_8 : decode cX5_parent 8 = .ok (.ifCond .ne 5, 3) := by decide +kernel
theorem dX5_parent_11 : decode cX5_parent 11 = .ok (.iconst (-1), 1) := by decide +kernel
theorem dX5_parent_12 : decode cX5_parent 12 = .ok (.ireturn, 1) := by decide +kernel
theorem dX5_parent_13 : decode cX5_parent 13 = .ok (.iload_n 1, 1) := by decide +kernel
theorem dX5_parent_14 : decode cX5_parent 14 = .ok (.ifCond .ne 8, 3) := by decide +kernel
theorem dX5_parent_17 : decode cX5_parent 17 = .ok (.bipush (-3), 2) := by decide +kernel
theorem dX5_parent_19 : decode cX5_parent 19 = .ok (.goto 12, 3) := by decide +kernel
theorem dX5_parent_22 : decode cX5_parent 22 = .ok (.aload_n 0, 1) := by decide +kernel
theorem dX5_parent_23 : decode cX5_parent 23 = .ok (.invokevirtual 100, 3) := by decide +kernel
theorem dX5_parent_26 : decode cX5_parent 26 = .ok (.getfield 104, 3) := by decide +kernel
theorem dX5_parent_29 : decode cX5_parent 29 = .ok (.iload_n 1, 1) := by decide +kernel
theorem dX5_parent_30 : decode cX5_parent 30 = .ok (.iaload, 1) := by decide +kernel
theorem dX5_parent_31 : decode cX5_parent 31 = .ok (.ireturn, 1) := by decide +kernel
theorem dX5_branch_0 : decode cX5_branch 0 = .ok (.aload_n 0, 1) := by decide +kernel
theorem dX5_branch_1 : decode cX5_branch 1 = .ok (.getfield 10, 3) := by decide +kernel
theorem dX5_branch_4 : decode cX5_branch 4 = .ok (.iload_n 1, 1) := by decide +kernel
theorem dX5_branch_5 : decode cX5_branch 5 = .ok (.invokevirtual 97, 3) := by decide +kernel
theorem dX5_branch_8 : decode cX5_branch 8 = .ok (.ifCond .ne 5, 3) := by decide +kernel
theorem dX5_branch_11 : decode cX5_branch 11 = .ok (.iconst (-1), 1) := by decide +kernel
theorem dX5_branch_12 : decode cX5_branch 12 = .ok (.ireturn, 1) := by decide +kernel
theorem dX5_branch_13 : decode cX5_branch 13 = .ok (.iload_n 1, 1) := by decide +kernel
theorem dX5_branch_14 : decode cX5_branch 14 = .ok (.ifCond .ne 8, 3) := by decide +kernel
theorem dX5_branch_17 : decode cX5_branch 17 = .ok (.bipush (-3), 2) := by decide +kernel
theorem dX5_branch_19 : decode cX5_branch 19 = .ok (.goto 12, 3) := by decide +kernel
theorem dX5_branch_22 : decode cX5_branch 22 = .ok (.aload_n 0, 1) := by decide +kernel
theorem dX5_branch_23 : decode cX5_branch 23 = .ok (.invokevirtual 100, 3) := by decide +kernel
theorem dX5_branch_26 : decode cX5_branch 26 = .ok (.getfield 108, 3) := by decide +kernel
theorem dX5_branch_29 : decode cX5_branch 29 = .ok (.iload_n 1, 1) := by decide +kernel
theorem dX5_branch_30 : decode cX5_branch 30 = .ok (.iaload, 1) := by decide +kernel
theorem dX5_branch_31 : decode cX5_branch 31 = .ok (.ireturn, 1) := by decide +kernel
theorem dX5_way_0 : decode cX5_way 0 = .ok (.aload_n 0, 1) := by decide +kernel
theorem dX5_way_1 : decode cX5_way 1 = .ok (.getfield 10, 3) := by decide +kernel
theorem dX5_way_4 : decode cX5_way 4 = .ok (.iload_n 1, 1) := by decide +kernel
theorem dX5_way_5 : decode cX5_way 5 = .ok (.iload_n 2, 1) := by decide +kernel
theorem dX5_way_6 : decode cX5_way 6 = .ok (.invokevirtual 58, 3) := by decide +kernel
theorem dX5_way_9 : decode cX5_way 9 = .ok (.ifCond .eq 15, 3) := by decide +kernel
theorem dX5_way_12 : decode cX5_way 12 = .ok (.aload_n 0, 1) := by decide +kernel
theorem dX5_way_13 : decode cX5_way 13 = .ok (.invokevirtual 100, 3) := by decide +kernel
theorem dX5_way_16 : decode cX5_way 16 = .ok (.iload_n 1, 1) := by decide +kernel
theorem dX5_way_17 : decode cX5_way 17 = .ok (.iload_n 2, 1) := by decide +kernel
theorem dX5_way_18 : decode cX5_way 18 = .ok (.invokevirtual 111, 3) := by decide +kernel
theorem dX5_way_21 : decode cX5_way 21 = .ok (.goto 4, 3) := by decide +kernel
theorem dX5_way_24 : decode cX5_way 24 = .ok (.iconst (-1), 1) := by decide +kernel
theorem dX5_way_25 : decode cX5_way 25 = .ok (.ireturn, 1) := by decide +kernel
theorem dX5_least_0 : decode cX5_least 0 = .ok (.aload_n 0, 1) := by decide +kernel
theorem dX5_least_1 : decode cX5_least 1 = .ok (.getfield 10, 3) := by decide +kernel
theorem dX5_least_4 : decode cX5_least 4 = .ok (.invokevirtual 114, 3) := by decide +kernel
theorem dX5_least_7 : decode cX5_least 7 = .ok (.ifCond .eq 13, 3) := by decide +kernel
theorem dX5_least_10 : decode cX5_least 10 = .ok (.aload_n 0, 1) := by decide +kernel
theorem dX5_least_11 : decode cX5_least 11 = .ok (.invokevirtual 86, 3) := by decide +kernel
theorem dX5_least_14 : decode cX5_least 14 = .ok (.invokevirtual 118, 3) := by decide +kernel
theorem dX5_least_17 : decode cX5_least 17 = .ok (.goto 5, 3) := by decide +kernel
theorem dX5_least_20 : decode cX5_least 20 = .ok (.bipush (-3), 2) := by decide +kernel
theorem dX5_least_22 : decode cX5_least 22 = .ok (.ireturn, 1) := by decide +kernel
theorem dX5_counted_0 : decode cX5_counted 0 = .ok (.aload_n 0, 1) := by decide +kernel
theorem dX5_counted_1 : decode cX5_counted 1 = .ok (.getfield 10, 3) := by decide +kernel
theorem dX5_counted_4 : decode cX5_counted 4 = .ok (.invokevirtual 114, 3) := by decide +kernel
theorem dX5_counted_7 : decode cX5_counted 7 = .ok (.ifCond .eq 13, 3) := by decide +kernel
theorem dX5_counted_10 : decode cX5_counted 10 = .ok (.aload_n 0, 1) := by decide +kernel
theorem dX5_counted_11 : decode cX5_counted 11 = .ok (.invokevirtual 86, 3) := by decide +kernel
theorem dX5_counted_14 : decode cX5_counted 14 = .ok (.invokevirtual 121, 3) := by decide +kernel
theorem dX5_counted_17 : decode cX5_counted 17 = .ok (.goto 4, 3) := by decide +kernel
theorem dX5_counted_20 : decode cX5_counted 20 = .ok (.iconst 0, 1) := by decide +kernel
theorem dX5_counted_21 : decode cX5_counted 21 = .ok (.ireturn, 1) := by decide +kernel
theorem dX5_every_0 : decode cX5_every 0 = .ok (.aload_n 0, 1) := by decide +kernel
theorem dX5_every_1 : decode cX5_every 1 = .ok (.getfield 10, 3) := by decide +kernel
theorem dX5_every_4 : decode cX5_every 4 = .ok (.invokevirtual 114, 3) := by decide +kernel
theorem dX5_every_7 : decode cX5_every 7 = .ok (.ifCond .eq 18, 3) := by decide +kernel
theorem dX5_every_10 : decode cX5_every 10 = .ok (.iload_n 1, 1) := by decide +kernel
theorem dX5_every_11 : decode cX5_every 11 = .ok (.ifCond .lt 14, 3) := by decide +kernel
theorem dX5_every_14 : decode cX5_every 14 = .ok (.aload_n 0, 1) := by decide +kernel
theorem dX5_every_15 : decode cX5_every 15 = .ok (.invokevirtual 86, 3) := by decide +kernel
theorem dX5_every_18 : decode cX5_every 18 = .ok (.iload_n 1, 1) := by decide +kernel
theorem dX5_every_19 : decode cX5_every 19 = .ok (.invokevirtual 124, 3) := by decide +kernel
theorem dX5_every_22 : decode cX5_every 22 = .ok (.goto 4, 3) := by decide +kernel
theorem dX5_every_25 : decode cX5_every 25 = .ok (.iconst (-1), 1) := by decide +kernel
theorem dX5_every_26 : decode cX5_every 26 = .ok (.ireturn, 1) := by decide +kernel
theorem dX5_drawn_0 : decode cX5_drawn 0 = .ok (.aload_n 0, 1) := by decide +kernel
theorem dX5_drawn_1 : decode cX5_drawn 1 = .ok (.getfield 10, 3) := by decide +kernel
theorem dX5_drawn_4 : decode cX5_drawn 4 = .ok (.invokevirtual 114, 3) := by decide +kernel
theorem dX5_drawn_7 : decode cX5_drawn 7 = .ok (.ifCond .eq 14, 3) := by decide +kernel
theorem dX5_drawn_10 : decode cX5_drawn 10 = .ok (.aload_n 0, 1) := by decide +kernel
theorem dX5_drawn_11 : decode cX5_drawn 11 = .ok (.getfield 37, 3) := by decide +kernel
theorem dX5_drawn_14 : decode cX5_drawn 14 = .ok (.iload_n 1, 1) := by decide +kernel
theorem dX5_drawn_15 : decode cX5_drawn 15 = .ok (.invokevirtual 127, 3) := by decide +kernel
theorem dX5_drawn_18 : decode cX5_drawn 18 = .ok (.goto 5, 3) := by decide +kernel
theorem dX5_drawn_21 : decode cX5_drawn 21 = .ok (.bipush (-3), 2) := by decide +kernel
theorem dX5_drawn_23 : decode cX5_drawn 23 = .ok (.ireturn, 1) := by decide +kernel
theorem dX5_parts_0 : decode cX5_parts 0 = .ok (.aload_n 0, 1) := by decide +kernel
theorem dX5_parts_1 : decode cX5_parts 1 = .ok (.iload_n 1, 1) := by decide +kernel
theorem dX5_parts_2 : decode cX5_parts 2 = .ok (.invokevirtual 130, 3) := by decide +kernel
theorem dX5_parts_5 : decode cX5_parts 5 = .ok (.istore_n 2, 1) := by decide +kernel
theorem dX5_parts_6 : decode cX5_parts 6 = .ok (.iload_n 2, 1) := by decide +kernel
theorem dX5_parts_7 : decode cX5_parts 7 = .ok (.ifCond .ge 7, 3) := by decide +kernel
theorem dX5_parts_10 : decode cX5_parts 10 = .ok (.iload_n 2, 1) := by decide +kernel
theorem dX5_parts_11 : decode cX5_parts 11 = .ok (.goto 11, 3) := by decide +kernel
theorem dX5_parts_14 : decode cX5_parts 14 = .ok (.aload_n 0, 1) := by decide +kernel
theorem dX5_parts_15 : decode cX5_parts 15 = .ok (.iload_n 1, 1) := by decide +kernel
theorem dX5_parts_16 : decode cX5_parts 16 = .ok (.invokevirtual 133, 3) := by decide +kernel
theorem dX5_parts_19 : decode cX5_parts 19 = .ok (.getfield 137, 3) := by decide +kernel
theorem dX5_parts_22 : decode cX5_parts 22 = .ok (.ireturn, 1) := by decide +kernel
theorem dX5_partOf_0 : decode cX5_partOf 0 = .ok (.aload_n 0, 1) := by decide +kernel
theorem dX5_partOf_1 : decode cX5_partOf 1 = .ok (.getfield 10, 3) := by decide +kernel
theorem dX5_partOf_4 : decode cX5_partOf 4 = .ok (.iload_n 2, 1) := by decide +kernel
theorem dX5_partOf_5 : decode cX5_partOf 5 = .ok (.invokevirtual 97, 3) := by decide +kernel
theorem dX5_partOf_8 : decode cX5_partOf 8 = .ok (.ifCond .ne 5, 3) := by decide +kernel
theorem dX5_partOf_11 : decode cX5_partOf 11 = .ok (.iconst (-1), 1) := by decide +kernel
theorem dX5_partOf_12 : decode cX5_partOf 12 = .ok (.ireturn, 1) := by decide +kernel
theorem dX5_partOf_13 : decode cX5_partOf 13 = .ok (.aload_n 0, 1) := by decide +kernel
theorem dX5_partOf_14 : decode cX5_partOf 14 = .ok (.iload_n 1, 1) := by decide +kernel
theorem dX5_partOf_15 : decode cX5_partOf 15 = .ok (.invokevirtual 130, 3) := by decide +kernel
theorem dX5_partOf_18 : decode cX5_partOf 18 = .ok (.istore_n 3, 1) := by decide +kernel
theorem dX5_partOf_19 : decode cX5_partOf 19 = .ok (.iload_n 3, 1) := by decide +kernel
theorem dX5_partOf_20 : decode cX5_partOf 20 = .ok (.ifCond .ge 7, 3) := by decide +kernel
theorem dX5_partOf_23 : decode cX5_partOf 23 = .ok (.iload_n 3, 1) := by decide +kernel
theorem dX5_partOf_24 : decode cX5_partOf 24 = .ok (.goto 13, 3) := by decide +kernel
theorem dX5_partOf_27 : decode cX5_partOf 27 = .ok (.aload_n 0, 1) := by decide +kernel
theorem dX5_partOf_28 : decode cX5_partOf 28 = .ok (.iload_n 1, 1) := by decide +kernel
theorem dX5_partOf_29 : decode cX5_partOf 29 = .ok (.invokevirtual 133, 3) := by decide +kernel
theorem dX5_partOf_32 : decode cX5_partOf 32 = .ok (.getfield 140, 3) := by decide +kernel
theorem dX5_partOf_35 : decode cX5_partOf 35 = .ok (.iload_n 2, 1) := by decide +kernel
theorem dX5_partOf_36 : decode cX5_partOf 36 = .ok (.iaload, 1) := by decide +kernel
theorem dX5_partOf_37 : decode cX5_partOf 37 = .ok (.ireturn, 1) := by decide +kernel
theorem dX5_refusalOfParts_0 : decode cX5_refusalOfParts 0 = .ok (.iload_n 1, 1) := by decide +kernel
theorem dX5_refusalOfParts_1 : decode cX5_refusalOfParts 1 = .ok (.iconst 1, 1) := by decide +kernel
theorem dX5_refusalOfParts_2 : decode cX5_refusalOfParts 2 = .ok (.if_icmp .lt 8, 3) := by decide +kernel
theorem dX5_refusalOfParts_5 : decode cX5_refusalOfParts 5 = .ok (.iload_n 1, 1) := by decide +kernel
theorem dX5_refusalOfParts_6 : decode cX5_refusalOfParts 6 = .ok (.iconst 4, 1) := by decide +kernel
theorem dX5_refusalOfParts_7 : decode cX5_refusalOfParts 7 = .ok (.if_icmp .le 6, 3) := by decide +kernel
theorem dX5_refusalOfParts_10 : decode cX5_refusalOfParts 10 = .ok (.bipush (-2), 2) := by decide +kernel
theorem dX5_refusalOfParts_12 : decode cX5_refusalOfParts 12 = .ok (.ireturn, 1) := by decide +kernel
theorem dX5_refusalOfParts_13 : decode cX5_refusalOfParts 13 = .ok (.aload_n 0, 1) := by decide +kernel
theorem dX5_refusalOfParts_14 : decode cX5_refusalOfParts 14 = .ok (.getfield 10, 3) := by decide +kernel
theorem dX5_refusalOfParts_17 : decode cX5_refusalOfParts 17 = .ok (.getfield 50, 3) := by decide +kernel
theorem dX5_refusalOfParts_20 : decode cX5_refusalOfParts 20 = .ok (.bipush 10, 2) := by decide +kernel
theorem dX5_refusalOfParts_22 : decode cX5_refusalOfParts 22 = .ok (.if_icmp .le 6, 3) := by decide +kernel
theorem dX5_refusalOfParts_25 : decode cX5_refusalOfParts 25 = .ok (.bipush (-4), 2) := by decide +kernel
theorem dX5_refusalOfParts_27 : decode cX5_refusalOfParts 27 = .ok (.ireturn, 1) := by decide +kernel
theorem dX5_refusalOfParts_28 : decode cX5_refusalOfParts 28 = .ok (.aload_n 0, 1) := by decide +kernel
theorem dX5_refusalOfParts_29 : decode cX5_refusalOfParts 29 = .ok (.getfield 10, 3) := by decide +kernel
theorem dX5_refusalOfParts_32 : decode cX5_refusalOfParts 32 = .ok (.getfield 50, 3) := by decide +kernel
theorem dX5_refusalOfParts_35 : decode cX5_refusalOfParts 35 = .ok (.iload_n 1, 1) := by decide +kernel
theorem dX5_refusalOfParts_36 : decode cX5_refusalOfParts 36 = .ok (.if_icmp .ge 8, 3) := by decide +kernel
theorem dX5_refusalOfParts_39 : decode cX5_refusalOfParts 39 = .ok (.bipush (-3), 2) := by decide +kernel
theorem dX5_refusalOfParts_41 : decode cX5_refusalOfParts 41 = .ok (.goto 4, 3) := by decide +kernel
theorem dX5_refusalOfParts_44 : decode cX5_refusalOfParts 44 = .ok (.iconst 0, 1) := by decide +kernel
theorem dX5_refusalOfParts_45 : decode cX5_refusalOfParts 45 = .ok (.ireturn, 1) := by decide +kernel
theorem dX5_sparsest_0 : decode cX5_sparsest 0 = .ok (.aload_n 0, 1) := by decide +kernel
theorem dX5_sparsest_1 : decode cX5_sparsest 1 = .ok (.getfield 10, 3) := by decide +kernel
theorem dX5_sparsest_4 : decode cX5_sparsest 4 = .ok (.invokevirtual 114, 3) := by decide +kernel
theorem dX5_sparsest_7 : decode cX5_sparsest 7 = .ok (.ifCond .eq 13, 3) := by decide +kernel
theorem dX5_sparsest_10 : decode cX5_sparsest 10 = .ok (.aload_n 0, 1) := by decide +kernel
theorem dX5_sparsest_11 : decode cX5_sparsest 11 = .ok (.invokevirtual 86, 3) := by decide +kernel
theorem dX5_sparsest_14 : decode cX5_sparsest 14 = .ok (.invokevirtual 143, 3) := by decide +kernel
theorem dX5_sparsest_17 : decode cX5_sparsest 17 = .ok (.goto 5, 3) := by decide +kernel
theorem dX5_sparsest_20 : decode cX5_sparsest 20 = .ok (.bipush (-3), 2) := by decide +kernel
theorem dX5_sparsest_22 : decode cX5_sparsest 22 = .ok (.ireturn, 1) := by decide +kernel
theorem dX5_share_0 : decode cX5_share 0 = .ok (.iload_n 1, 1) := by decide +kernel
theorem dX5_share_1 : decode cX5_share 1 = .ok (.ifCond .eq 11, 3) := by decide +kernel
theorem dX5_share_4 : decode cX5_share 4 = .ok (.iload_n 1, 1) := by decide +kernel
theorem dX5_share_5 : decode cX5_share 5 = .ok (.iconst 1, 1) := by decide +kernel
theorem dX5_share_6 : decode cX5_share 6 = .ok (.if_icmp .eq 6, 3) := by decide +kernel
theorem dX5_share_9 : decode cX5_share 9 = .ok (.bipush (-2), 2) := by decide +kernel
theorem dX5_share_11 : decode cX5_share 11 = .ok (.ireturn, 1) := by decide +kernel
theorem dX5_share_12 : decode cX5_share 12 = .ok (.aload_n 0, 1) := by decide +kernel
theorem dX5_share_13 : decode cX5_share 13 = .ok (.getfield 10, 3) := by decide +kernel
theorem dX5_share_16 : decode cX5_share 16 = .ok (.invokevirtual 114, 3) := by decide +kernel
theorem dX5_share_19 : decode cX5_share 19 = .ok (.ifCond .ne 6, 3) := by decide +kernel
theorem dX5_share_22 : decode cX5_share 22 = .ok (.bipush (-3), 2) := by decide +kernel
theorem dX5_share_24 : decode cX5_share 24 = .ok (.ireturn, 1) := by decide +kernel
theorem dX5_share_25 : decode cX5_share 25 = .ok (.aload_n 0, 1) := by decide +kernel
theorem dX5_share_26 : decode cX5_share 26 = .ok (.invokevirtual 86, 3) := by decide +kernel
theorem dX5_share_29 : decode cX5_share 29 = .ok (.invokevirtual 143, 3) := by decide +kernel
theorem dX5_share_32 : decode cX5_share 32 = .ok (.istore_n 2, 1) := by decide +kernel
theorem dX5_share_33 : decode cX5_share 33 = .ok (.aload_n 0, 1) := by decide +kernel
theorem dX5_share_34 : decode cX5_share 34 = .ok (.getfield 21, 3) := by decide +kernel
theorem dX5_share_37 : decode cX5_share 37 = .ok (.iload_n 2, 1) := by decide +kernel
theorem dX5_share_38 : decode cX5_share 38 = .ok (.invokevirtual 146, 3) := by decide +kernel
theorem dX5_share_41 : decode cX5_share 41 = .ok (.istore_n 3, 1) := by decide +kernel
theorem dX5_share_42 : decode cX5_share 42 = .ok (.aload_n 0, 1) := by decide +kernel
theorem dX5_share_43 : decode cX5_share 43 = .ok (.getfield 10, 3) := by decide +kernel
theorem dX5_share_46 : decode cX5_share 46 = .ok (.iload_n 2, 1) := by decide +kernel
theorem dX5_share_47 : decode cX5_share 47 = .ok (.invokevirtual 149, 3) := by decide +kernel
theorem dX5_share_50 : decode cX5_share 50 = .ok (.istore 4, 2) := by decide +kernel
theorem dX5_share_52 : decode cX5_share 52 = .ok (.iload_n 3, 1) := by decide +kernel
theorem dX5_share_53 : decode cX5_share 53 = .ok (.iload 4, 2) := by decide +kernel
theorem dX5_share_55 : decode cX5_share 55 = .ok (.invokestatic 152, 3) := by decide +kernel
theorem dX5_share_58 : decode cX5_share 58 = .ok (.istore 5, 2) := by decide +kernel
theorem dX5_share_60 : decode cX5_share 60 = .ok (.iload_n 1, 1) := by decide +kernel
theorem dX5_share_61 : decode cX5_share 61 = .ok (.ifCond .ne 7, 3) := by decide +kernel
theorem dX5_share_64 : decode cX5_share 64 = .ok (.iload_n 3, 1) := by decide +kernel
theorem dX5_share_65 : decode cX5_share 65 = .ok (.goto 5, 3) := by decide +kernel
theorem dX5_share_68 : decode cX5_share 68 = .ok (.iload 4, 2) := by decide +kernel
theorem dX5_share_70 : decode cX5_share 70 = .ok (.iload 5, 2) := by decide +kernel
theorem dX5_share_72 : decode cX5_share 72 = .ok (.idiv, 1) := by decide +kernel
theorem dX5_share_73 : decode cX5_share 73 = .ok (.ireturn, 1) := by decide +kernel
theorem dX5_greatestDivisor_0 : decode cX5_greatestDivisor 0 = .ok (.iload_n 1, 1) := by decide +kernel
theorem dX5_greatestDivisor_1 : decode cX5_greatestDivisor 1 = .ok (.istore_n 2, 1) := by decide +kernel
theorem dX5_greatestDivisor_2 : decode cX5_greatestDivisor 2 = .ok (.iload_n 2, 1) := by decide +kernel
theorem dX5_greatestDivisor_3 : decode cX5_greatestDivisor 3 = .ok (.iconst 1, 1) := by decide +kernel
theorem dX5_greatestDivisor_4 : decode cX5_greatestDivisor 4 = .ok (.if_icmp .le 23, 3) := by decide +kernel
theorem dX5_greatestDivisor_7 : decode cX5_greatestDivisor 7 = .ok (.iload_n 0, 1) := by decide +kernel
theorem dX5_greatestDivisor_8 : decode cX5_greatestDivisor 8 = .ok (.iload_n 2, 1) := by decide +kernel
theorem dX5_greatestDivisor_9 : decode cX5_greatestDivisor 9 = .ok (.irem, 1) := by decide +kernel
theorem dX5_greatestDivisor_10 : decode cX5_greatestDivisor 10 = .ok (.ifCond .ne 11, 3) := by decide +kernel
theorem dX5_greatestDivisor_13 : decode cX5_greatestDivisor 13 = .ok (.iload_n 1, 1) := by decide +kernel
theorem dX5_greatestDivisor_14 : decode cX5_greatestDivisor 14 = .ok (.iload_n 2, 1) := by decide +kernel
theorem dX5_greatestDivisor_15 : decode cX5_greatestDivisor 15 = .ok (.irem, 1) := by decide +kernel
theorem dX5_greatestDivisor_16 : decode cX5_greatestDivisor 16 = .ok (.ifCond .ne 5, 3) := by decide +kernel
theorem dX5_greatestDivisor_19 : decode cX5_greatestDivisor 19 = .ok (.iload_n 2, 1) := by decide +kernel
theorem dX5_greatestDivisor_20 : decode cX5_greatestDivisor 20 = .ok (.ireturn, 1) := by decide +kernel
theorem dX5_greatestDivisor_21 : decode cX5_greatestDivisor 21 = .ok (.iinc 2 (-1), 3) := by decide +kernel
theorem dX5_greatestDivisor_24 : decode cX5_greatestDivisor 24 = .ok (.goto (-22), 3) := by decide +kernel
theorem dX5_greatestDivisor_27 : decode cX5_greatestDivisor 27 = .ok (.iconst 1, 1) := by decide +kernel
theorem dX5_greatestDivisor_28 : decode cX5_greatestDivisor 28 = .ok (.ireturn, 1) := by decide +kernel
theorem dX5_bars_0 : decode cX5_bars 0 = .ok (.aload_n 0, 1) := by decide +kernel
theorem dX5_bars_1 : decode cX5_bars 1 = .ok (.iload_n 1, 1) := by decide +kernel
theorem dX5_bars_2 : decode cX5_bars 2 = .ok (.iload_n 2, 1) := by decide +kernel
theorem dX5_bars_3 : decode cX5_bars 3 = .ok (.invokevirtual 155, 3) := by decide +kernel
theorem dX5_bars_6 : decode cX5_bars 6 = .ok (.istore_n 3, 1) := by decide +kernel
theorem dX5_bars_7 : decode cX5_bars 7 = .ok (.iload_n 3, 1) := by decide +kernel
theorem dX5_bars_8 : decode cX5_bars 8 = .ok (.ifCond .ge 7, 3) := by decide +kernel
theorem dX5_bars_11 : decode cX5_bars 11 = .ok (.iload_n 3, 1) := by decide +kernel
theorem dX5_bars_12 : decode cX5_bars 12 = .ok (.goto 7, 3) := by decide +kernel
theorem dX5_bars_15 : decode cX5_bars 15 = .ok (.iload_n 3, 1) := by decide +kernel
theorem dX5_bars_16 : decode cX5_bars 16 = .ok (.invokestatic 158, 3) := by decide +kernel
theorem dX5_bars_19 : decode cX5_bars 19 = .ok (.ireturn, 1) := by decide +kernel
theorem dX5_barSet_0 : decode cX5_barSet 0 = .ok (.aload_n 0, 1) := by decide +kernel
theorem dX5_barSet_1 : decode cX5_barSet 1 = .ok (.getfield 10, 3) := by decide +kernel
theorem dX5_barSet_4 : decode cX5_barSet 4 = .ok (.iload_n 1, 1) := by decide +kernel
theorem dX5_barSet_5 : decode cX5_barSet 5 = .ok (.iload_n 2, 1) := by decide +kernel
theorem dX5_barSet_6 : decode cX5_barSet 6 = .ok (.invokevirtual 58, 3) := by decide +kernel
theorem dX5_barSet_9 : decode cX5_barSet 9 = .ok (.ifCond .ne 5, 3) := by decide +kernel
theorem dX5_barSet_12 : decode cX5_barSet 12 = .ok (.iconst (-1), 1) := by decide +kernel
theorem dX5_barSet_13 : decode cX5_barSet 13 = .ok (.ireturn, 1) := by decide +kernel
theorem dX5_barSet_14 : decode cX5_barSet 14 = .ok (.aload_n 0, 1) := by decide +kernel
theorem dX5_barSet_15 : decode cX5_barSet 15 = .ok (.getfield 10, 3) := by decide +kernel
theorem dX5_barSet_18 : decode cX5_barSet 18 = .ok (.iload_n 1, 1) := by decide +kernel
theorem dX5_barSet_19 : decode cX5_barSet 19 = .ok (.iload_n 2, 1) := by decide +kernel
theorem dX5_barSet_20 : decode cX5_barSet 20 = .ok (.invokevirtual 163, 3) := by decide +kernel
theorem dX5_barSet_23 : decode cX5_barSet 23 = .ok (.ifCond .eq 8, 3) := by decide +kernel
theorem dX5_barSet_26 : decode cX5_barSet 26 = .ok (.bipush (-3), 2) := by decide +kernel
theorem dX5_barSet_28 : decode cX5_barSet 28 = .ok (.goto 12, 3) := by decide +kernel
theorem dX5_barSet_31 : decode cX5_barSet 31 = .ok (.aload_n 0, 1) := by decide +kernel
theorem dX5_barSet_32 : decode cX5_barSet 32 = .ok (.getfield 10, 3) := by decide +kernel
theorem dX5_barSet_35 : decode cX5_barSet 35 = .ok (.iload_n 1, 1) := by decide +kernel
theorem dX5_barSet_36 : decode cX5_barSet 36 = .ok (.iload_n 2, 1) := by decide +kernel
theorem dX5_barSet_37 : decode cX5_barSet 37 = .ok (.invokevirtual 166, 3) := by decide +kernel
theorem dX5_barSet_40 : decode cX5_barSet 40 = .ok (.ireturn, 1) := by decide +kernel
theorem dX5_without_0 : decode cX5_without 0 = .ok (.aload_n 0, 1) := by decide +kernel
theorem dX5_without_1 : decode cX5_without 1 = .ok (.getfield 10, 3) := by decide +kernel
theorem dX5_without_4 : decode cX5_without 4 = .ok (.iload_n 1, 1) := by decide +kernel
theorem dX5_without_5 : decode cX5_without 5 = .ok (.invokevirtual 80, 3) := by decide +kernel
theorem dX5_without_8 : decode cX5_without 8 = .ok (.ifCond .eq 24, 3) := by decide +kernel
theorem dX5_without_11 : decode cX5_without 11 = .ok (.aload_n 0, 1) := by decide +kernel
theorem dX5_without_12 : decode cX5_without 12 = .ok (.getfield 10, 3) := by decide +kernel
theorem dX5_without_15 : decode cX5_without 15 = .ok (.aload_n 0, 1) := by decide +kernel
theorem dX5_without_16 : decode cX5_without 16 = .ok (.getfield 10, 3) := by decide +kernel
theorem dX5_without_19 : decode cX5_without 19 = .ok (.invokevirtual 169, 3) := by decide +kernel
theorem dX5_without_22 : decode cX5_without 22 = .ok (.iload_n 1, 1) := by decide +kernel
theorem dX5_without_23 : decode cX5_without 23 = .ok (.iconst (-1), 1) := by decide +kernel
theorem dX5_without_24 : decode cX5_without 24 = .ok (.ixor, 1) := by decide +kernel
theorem dX5_without_25 : decode cX5_without 25 = .ok (.iand, 1) := by decide +kernel
theorem dX5_without_26 : decode cX5_without 26 = .ok (.invokevirtual 172, 3) := by decide +kernel
theorem dX5_without_29 : decode cX5_without 29 = .ok (.goto 5, 3) := by decide +kernel
theorem dX5_without_32 : decode cX5_without 32 = .ok (.bipush (-2), 2) := by decide +kernel
theorem dX5_without_34 : decode cX5_without 34 = .ok (.ireturn, 1) := by decide +kernel
theorem dX5_freshTable_0 : decode cX5_freshTable 0 = .ok (.aload_n 0, 1) := by decide +kernel
theorem dX5_freshTable_1 : decode cX5_freshTable 1 = .ok (.getfield 21, 3) := by decide +kernel
theorem dX5_freshTable_4 : decode cX5_freshTable 4 = .ok (.invokevirtual 175, 3) := by decide +kernel
theorem dX5_freshTable_7 : decode cX5_freshTable 7 = .ok (.aload_n 0, 1) := by decide +kernel
theorem dX5_freshTable_8 : decode cX5_freshTable 8 = .ok (.getfield 21, 3) := by decide +kernel
theorem dX5_freshTable_11 : decode cX5_freshTable 11 = .ok (.areturn, 1) := by decide +kernel
theorem dX5_freshTree_0 : decode cX5_freshTree 0 = .ok (.aload_n 0, 1) := by decide +kernel
theorem dX5_freshTree_1 : decode cX5_freshTree 1 = .ok (.getfield 21, 3) := by decide +kernel
theorem dX5_freshTree_4 : decode cX5_freshTree 4 = .ok (.invokevirtual 175, 3) := by decide +kernel
theorem dX5_freshTree_7 : decode cX5_freshTree 7 = .ok (.aload_n 0, 1) := by decide +kernel
theorem dX5_freshTree_8 : decode cX5_freshTree 8 = .ok (.getfield 30, 3) := by decide +kernel
theorem dX5_freshTree_11 : decode cX5_freshTree 11 = .ok (.invokevirtual 178, 3) := by decide +kernel
theorem dX5_freshTree_14 : decode cX5_freshTree 14 = .ok (.aload_n 0, 1) := by decide +kernel
theorem dX5_freshTree_15 : decode cX5_freshTree 15 = .ok (.getfield 30, 3) := by decide +kernel
theorem dX5_freshTree_18 : decode cX5_freshTree 18 = .ok (.areturn, 1) := by decide +kernel
theorem dX5_freshParting_0 : decode cX5_freshParting 0 = .ok (.aload_n 0, 1) := by decide +kernel
theorem dX5_freshParting_1 : decode cX5_freshParting 1 = .ok (.getfield 43, 3) := by decide +kernel
theorem dX5_freshParting_4 : decode cX5_freshParting 4 = .ok (.iload_n 1, 1) := by decide +kernel
theorem dX5_freshParting_5 : decode cX5_freshParting 5 = .ok (.iconst 1, 1) := by decide +kernel
theorem dX5_freshParting_6 : decode cX5_freshParting 6 = .ok (.isub, 1) := by decide +kernel
theorem dX5_freshParting_7 : decode cX5_freshParting 7 = .ok (.aaload, 1) := by decide +kernel
theorem dX5_freshParting_8 : decode cX5_freshParting 8 = .ok (.invokevirtual 179, 3) := by decide +kernel
theorem dX5_freshParting_11 : decode cX5_freshParting 11 = .ok (.aload_n 0, 1) := by decide +kernel
theorem dX5_freshParting_12 : decode cX5_freshParting 12 = .ok (.getfield 43, 3) := by decide +kernel
theorem dX5_freshParting_15 : decode cX5_freshParting 15 = .ok (.iload_n 1, 1) := by decide +kernel
theorem dX5_freshParting_16 : decode cX5_freshParting 16 = .ok (.iconst 1, 1) := by decide +kernel
theorem dX5_freshParting_17 : decode cX5_freshParting 17 = .ok (.isub, 1) := by decide +kernel
theorem dX5_freshParting_18 : decode cX5_freshParting 18 = .ok (.aaload, 1) := by decide +kernel
theorem dX5_freshParting_19 : decode cX5_freshParting 19 = .ok (.areturn, 1) := by decide +kernel
theorem dX5_nextWithin_0 : decode cX5_nextWithin 0 = .ok (.iload_n 1, 1) := by decide +kernel
theorem dX5_nextWithin_1 : decode cX5_nextWithin 1 = .ok (.iload_n 0, 1) := by decide +kernel
theorem dX5_nextWithin_2 : decode cX5_nextWithin 2 = .ok (.isub, 1) := by decide +kernel
theorem dX5_nextWithin_3 : decode cX5_nextWithin 3 = .ok (.iload_n 0, 1) := by decide +kernel
theorem dX5_nextWithin_4 : decode cX5_nextWithin 4 = .ok (.iand, 1) := by decide +kernel
theorem dX5_nextWithin_5 : decode cX5_nextWithin 5 = .ok (.ireturn, 1) := by decide +kernel
theorem dJI_bitCount_0 : decode cJI_bitCount 0 = .ok (.iload_n 0, 1) := by decide +kernel
theorem dJI_bitCount_1 : decode cJI_bitCount 1 = .ok (.iload_n 0, 1) := by decide +kernel
theorem dJI_bitCount_2 : decode cJI_bitCount 2 = .ok (.iconst 1, 1) := by decide +kernel
theorem dJI_bitCount_3 : decode cJI_bitCount 3 = .ok (.iushr, 1) := by decide +kernel
theorem dJI_bitCount_4 : decode cJI_bitCount 4 = .ok (.ldc_w 265, 3) := by decide +kernel
theorem dJI_bitCount_7 : decode cJI_bitCount 7 = .ok (.iand, 1) := by decide +kernel
theorem dJI_bitCount_8 : decode cJI_bitCount 8 = .ok (.isub, 1) := by decide +kernel
theorem dJI_bitCount_9 : decode cJI_bitCount 9 = .ok (.istore_n 0, 1) := by decide +kernel
theorem dJI_bitCount_10 : decode cJI_bitCount 10 = .ok (.iload_n 0, 1) := by decide +kernel
theorem dJI_bitCount_11 : decode cJI_bitCount 11 = .ok (.ldc_w 266, 3) := by decide +kernel
theorem dJI_bitCount_14 : decode cJI_bitCount 14 = .ok (.iand, 1) := by decide +kernel
theorem dJI_bitCount_15 : decode cJI_bitCount 15 = .ok (.iload_n 0, 1) := by decide +kernel
theorem dJI_bitCount_16 : decode cJI_bitCount 16 = .ok (.iconst 2, 1) := by decide +kernel
theorem dJI_bitCount_17 : decode cJI_bitCount 17 = .ok (.iushr, 1) := by decide +kernel
theorem dJI_bitCount_18 : decode cJI_bitCount 18 = .ok (.ldc_w 266, 3) := by decide +kernel
theorem dJI_bitCount_21 : decode cJI_bitCount 21 = .ok (.iand, 1) := by decide +kernel
theorem dJI_bitCount_22 : decode cJI_bitCount 22 = .ok (.iadd, 1) := by decide +kernel
theorem dJI_bitCount_23 : decode cJI_bitCount 23 = .ok (.istore_n 0, 1) := by decide +kernel
theorem dJI_bitCount_24 : decode cJI_bitCount 24 = .ok (.iload_n 0, 1) := by decide +kernel
theorem dJI_bitCount_25 : decode cJI_bitCount 25 = .ok (.iload_n 0, 1) := by decide +kernel
theorem dJI_bitCount_26 : decode cJI_bitCount 26 = .ok (.iconst 4, 1) := by decide +kernel
theorem dJI_bitCount_27 : decode cJI_bitCount 27 = .ok (.iushr, 1) := by decide +kernel
theorem dJI_bitCount_28 : decode cJI_bitCount 28 = .ok (.iadd, 1) := by decide +kernel
theorem dJI_bitCount_29 : decode cJI_bitCount 29 = .ok (.ldc_w 267, 3) := by decide +kernel
theorem dJI_bitCount_32 : decode cJI_bitCount 32 = .ok (.iand, 1) := by decide +kernel
theorem dJI_bitCount_33 : decode cJI_bitCount 33 = .ok (.istore_n 0, 1) := by decide +kernel
theorem dJI_bitCount_34 : decode cJI_bitCount 34 = .ok (.iload_n 0, 1) := by decide +kernel
theorem dJI_bitCount_35 : decode cJI_bitCount 35 = .ok (.iload_n 0, 1) := by decide +kernel
theorem dJI_bitCount_36 : decode cJI_bitCount 36 = .ok (.bipush 8, 2) := by decide +kernel
theorem dJI_bitCount_38 : decode cJI_bitCount 38 = .ok (.iushr, 1) := by decide +kernel
theorem dJI_bitCount_39 : decode cJI_bitCount 39 = .ok (.iadd, 1) := by decide +kernel
theorem dJI_bitCount_40 : decode cJI_bitCount 40 = .ok (.istore_n 0, 1) := by decide +kernel
theorem dJI_bitCount_41 : decode cJI_bitCount 41 = .ok (.iload_n 0, 1) := by decide +kernel
theorem dJI_bitCount_42 : decode cJI_bitCount 42 = .ok (.iload_n 0, 1) := by decide +kernel
theorem dJI_bitCount_43 : decode cJI_bitCount 43 = .ok (.bipush 16, 2) := by decide +kernel
theorem dJI_bitCount_45 : decode cJI_bitCount 45 = .ok (.iushr, 1) := by decide +kernel
theorem dJI_bitCount_46 : decode cJI_bitCount 46 = .ok (.iadd, 1) := by decide +kernel
theorem dJI_bitCount_47 : decode cJI_bitCount 47 = .ok (.istore_n 0, 1) := by decide +kernel
theorem dJI_bitCount_48 : decode cJI_bitCount 48 = .ok (.iload_n 0, 1) := by decide +kernel
theorem dJI_bitCount_49 : decode cJI_bitCount 49 = .ok (.bipush 63, 2) := by decide +kernel
theorem dJI_bitCount_51 : decode cJI_bitCount 51 = .ok (.iand, 1) := by decide +kernel
theorem dJI_bitCount_52 : decode cJI_bitCount 52 = .ok (.ireturn, 1) := by decide +kernel
