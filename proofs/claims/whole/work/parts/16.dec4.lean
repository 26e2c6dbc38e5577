/-! decode rows: by program -/
theorem dX6_init_0 : decode cX6_init 0 = .ok (.aload_n 0, 1) := by decide +kernel
theorem dX6_init_1 : decode cX6_init 1 = .ok (.invokespecial 1, 3) := by decide +kernel
theorem dX6_init_4 : decode cX6_init 4 = .ok (.aload_n 0, 1) := by decide +kernel
theorem dX6_init_5 : decode cX6_init 5 = .ok (.bipush 50, 2) := by decide +kernel
theorem dX6_init_7 : decode cX6_init 7 = .ok (.newarray .int, 2) := by decide +kernel
theorem dX6_init_9 : decode cX6_init 9 = .ok (.putfield 7, 3) := by decide +kernel
theorem dX6_init_12 : decode cX6_init 12 = .ok (.aload_n 0, 1) := by decide +kernel
theorem dX6_init_13 : decode cX6_init 13 = .ok (.bipush 50, 2) := by decide +kernel
theorem dX6_init_15 : decode cX6_init 15 = .ok (.newarray .int, 2) := by decide +kernel
theorem dX6_init_17 : decode cX6_init 17 = .ok (.putfield 13, 3) := by decide +kernel
theorem dX6_init_20 : decode cX6_init 20 = .ok (.aload_n 0, 1) := by decide +kernel
theorem dX6_init_21 : decode cX6_init 21 = .ok (.bipush 50, 2) := by decide +kernel
theorem dX6_init_23 : decode cX6_init 23 = .ok (.newarray .int, 2) := by decide +kernel
theorem dX6_init_25 : decode cX6_init 25 = .ok (.putfield 16, 3) := by decide +kernel
theorem dX6_init_28 : decode cX6_init 28 = .ok (.aload_n 0, 1) := by decide +kernel
theorem dX6_init_29 : decode cX6_init 29 = .ok (.bipush 50, 2) := by decide +kernel
theorem dX6_init_31 : decode cX6_init 31 = .ok (.newarray .boolean, 2) := by decide +kernel
theorem dX6_init_33 : decode cX6_init 33 = .ok (.putfield 19, 3) := by decide +kernel
theorem dX6_init_36 : decode cX6_init 36 = .ok (.aload_n 0, 1) := by decide +kernel
theorem dX6_init_37 : decode cX6_init 37 = .ok (.sipush 144, 3) := by decide +kernel
theorem dX6_init_40 : decode cX6_init 40 = .ok (.newarray .int, 2) := by decide +kernel
theorem dX6_init_42 : decode cX6_init 42 = .ok (.putfield 23, 3) := by decide +kernel
theorem dX6_init_45 : decode cX6_init 45 = .ok (.aload_n 0, 1) := by decide +kernel
theorem dX6_init_46 : decode cX6_init 46 = .ok (.bipush 12, 2) := by decide +kernel
theorem dX6_init_48 : decode cX6_init 48 = .ok (.newarray .int, 2) := by decide +kernel
theorem dX6_init_50 : decode cX6_init 50 = .ok (.putfield 26, 3) := by decide +kernel
theorem dX6_init_53 : decode cX6_init 53 = .ok (.aload_n 0, 1) := by decide +kernel
theorem dX6_init_54 : decode cX6_init 54 = .ok (.sipush 4096, 3) := by decide +kernel
theorem dX6_init_57 : decode cX6_init 57 = .ok (.newarray .int, 2) := by decide +kernel
theorem dX6_init_59 : decode cX6_init 59 = .ok (.putfield 29, 3) := by decide +kernel
theorem dX6_init_62 : decode cX6_init 62 = .ok (.aload_n 0, 1) := by decide +kernel
theorem dX6_init_63 : decode cX6_init 63 = .ok (.bipush 12, 2) := by decide +kernel
theorem dX6_init_65 : decode cX6_init 65 = .ok (.newarray .int, 2) := by decide +kernel
theorem dX6_init_67 : decode cX6_init 67 = .ok (.putfield 32, 3) := by decide +kernel
theorem dX6_init_70 : decode cX6_init 70 = .ok (.aload_n 0, 1) := by decide +kernel
theorem dX6_init_71 : decode cX6_init 71 = .ok (.bipush 12, 2) := by decide +kernel
theorem dX6_init_73 : decode cX6_init 73 = .ok (.newarray .int, 2) := by decide +kernel
theorem dX6_init_75 : decode cX6_init 75 = .ok (.putfield 35, 3) := by decide +kernel
theorem dX6_init_78 : decode cX6_init 78 = .ok (.aload_n 0, 1) := by decide +kernel
theorem dX6_init_79 : decode cX6_init 79 = .ok (.iconst 5, 1) := by decide +kernel
theorem dX6_init_80 : decode cX6_init 80 = .ok (.newarray .int, 2) := by decide +kernel
theorem dX6_init_82 : decode cX6_init 82 = .ok (.putfield 38, 3) := by decide +kernel
theorem dX6_init_85 : decode cX6_init 85 = .ok (.aload_n 0, 1) := by decide +kernel
theorem dX6_init_86 : decode cX6_init 86 = .ok (.iconst 5, 1) := by decide +kernel
theorem dX6_init_87 : decode cX6_init 87 = .ok (.newarray .boolean, 2) := by decide +kernel
theorem dX6_init_89 : decode cX6_init 89 = .ok (.putfield 41, 3) := by decide +kernel
theorem dX6_init_92 : decode cX6_init 92 = .ok (.aload_n 0, 1) := by decide +kernel
theorem dX6_init_93 : decode cX6_init 93 = .ok (.bipush 60, 2) := by decide +kernel
theorem dX6_init_95 : decode cX6_init 95 = .ok (.newarray .int, 2) := by decide +kernel
theorem dX6_init_97 : decode cX6_init 97 = .ok (.putfield 44, 3) := by decide +kernel
theorem dX6_init_100 : decode cX6_init 100 = .ok (.aload_n 0, 1) := by decide +kernel
theorem dX6_init_101 : decode cX6_init 101 = .ok (.bipush 12, 2) := by decide +kernel
theorem dX6_init_103 : decode cX6_init 103 = .ok (.newarray .int, 2) := by decide +kernel
theorem dX6_init_105 : decode cX6_init 105 = .ok (.putfield 47, 3) := by decide +kernel
theorem dX6_init_108 : decode cX6_init 108 = .ok (.aload_n 0, 1) := by decide +kernel
theorem dX6_init_109 : decode cX6_init 109 = .ok (.bipush 13, 2) := by decide +kernel
theorem dX6_init_111 : decode cX6_init 111 = .ok (.newarray .int, 2) := by decide +kernel
theorem dX6_init_113 : decode cX6_init 113 = .ok (.putfield 50, 3) := by decide +kernel
theorem dX6_init_116 : decode cX6_init 116 = .ok (.aload_n 0, 1) := by decide +kernel
theorem dX6_init_117 : decode cX6_init 117 = .ok (.bipush 13, 2) := by decide +kernel
theorem dX6_init_119 : decode cX6_init 119 = .ok (.newarray .int, 2) := by decide +kernel
theorem dX6_init_121 : decode cX6_init 121 = .ok (.putfield 53, 3) := by decide +kernel
theorem dX6_init_124 : decode cX6_init 124 = .ok (.return_, 1) := by decide +kernel
theorem dX6_changed_0 : decode cX6_changed 0 = .ok (.aload_n 0, 1) := by decide +kernel
theorem dX6_changed_1 : decode cX6_changed 1 = .ok (.iconst 1, 1) := by decide +kernel
theorem dX6_changed_2 : decode cX6_changed 2 = .ok (.putfield 56, 3) := by decide +kernel
theorem dX6_changed_5 : decode cX6_changed 5 = .ok (.iconst 0, 1) := by decide +kernel
theorem dX6_changed_6 : decode cX6_changed 6 = .ok (.istore_n 1, 1) := by decide +kernel
theorem dX6_changed_7 : decode cX6_changed 7 = .ok (.iload_n 1, 1) := by decide +kernel
theorem dX6_changed_8 : decode cX6_changed 8 = .ok (.iconst 5, 1) := by decide +kernel
theorem dX6_changed_9 : decode cX6_changed 9 = .ok (.if_icmp .ge 16, 3) := by decide +kernel
theorem dX6_changed_12 : decode cX6_changed 12 = .ok (.aload_n 0, 1) := by decide +kernel
theorem dX6_changed_13 : decode cX6_changed 13 = .ok (.getfield 41, 3) := by decide +kernel
theorem dX6_changed_16 : decode cX6_changed 16 = .ok (.iload_n 1, 1) := by decide +kernel
theorem dX6_changed_17 : decode cX6_changed 17 = .ok (.iconst 1, 1) := by decide +kernel
theorem dX6_changed_18 : decode cX6_changed 18 = .ok (.bastore, 1) := by decide +kernel
theorem dX6_changed_19 : decode cX6_changed 19 = .ok (.iinc 1 1, 3) := by decide +kernel
theorem dX6_changed_22 : decode cX6_changed 22 = .ok (.goto (-15), 3) := by decide +kernel
theorem dX6_changed_25 : decode cX6_changed 25 = .ok (.return_, 1) := by decide +kernel
theorem dX6_node_0 : decode cX6_node 0 = .ok (.aload_n 0, 1) := by decide +kernel
theorem dX6_node_1 : decode cX6_node 1 = .ok (.getfield 60, 3) := by decide +kernel
theorem dX6_node_4 : decode cX6_node 4 = .ok (.bipush 12, 2) := by decide +kernel
theorem dX6_node_6 : decode cX6_node 6 = .ok (.if_icmp .ne 6, 3) := by decide +kernel
theorem dX6_node_9 : decode cX6_node 9 = .ok (.bipush (-4), 2) := by decide +kernel
theorem dX6_node_11 : decode cX6_node 11 = .ok (.ireturn, 1) := by decide +kernel
theorem dX6_node_12 : decode cX6_node 12 = .ok (.aload_n 0, 1) := by decide +kernel
theorem dX6_node_13 : decode cX6_node 13 = .ok (.invokevirtual 64, 3) := by decide +kernel
theorem dX6_node_16 : decode cX6_node 16 = .ok (.aload_n 0, 1) := by decide +kernel
theorem dX6_node_17 : decode cX6_node 17 = .ok (.dup, 1) := by decide +kernel
theorem dX6_node_18 : decode cX6_node 18 = .ok (.getfield 60, 3) := by decide +kernel
theorem dX6_node_21 : decode cX6_node 21 = .ok (.iconst 1, 1) := by decide +kernel
theorem dX6_node_22 : decode cX6_node 22 = .ok (.iadd, 1) := by decide +kernel
theorem dX6_node_23 : decode cX6_node 23 = .ok (.putfield 60, 3) := by decide +kernel
theorem dX6_node_26 : decode cX6_node 26 = .ok (.aload_n 0, 1) := by decide +kernel
theorem dX6_node_27 : decode cX6_node 27 = .ok (.getfield 60, 3) := by decide +kernel
theorem dX6_node_30 : decode cX6_node 30 = .ok (.iconst 1, 1) := by decide +kernel
theorem dX6_node_31 : decode cX6_node 31 = .ok (.isub, 1) := by decide +kernel
theorem dX6_node_32 : decode cX6_node 32 = .ok (.ireturn, 1) := by decide +kernel
theorem dX6_areTwo_0 : decode cX6_areTwo 0 = .ok (.iload_n 1, 1) := by decide +kernel
theorem dX6_areTwo_1 : decode cX6_areTwo 1 = .ok (.ifCond .lt 32, 3) := by decide +kernel
theorem dX6_areTwo_4 : decode cX6_areTwo 4 = .ok (.iload_n 1, 1) := by decide +kernel
theorem dX6_areTwo_5 : decode cX6_areTwo 5 = .ok (.aload_n 0, 1) := by decide +kernel
theorem dX6_areTwo_6 : decode cX6_areTwo 6 = .ok (.getfield 60, 3) := by decide +kernel
theorem dX6_areTwo_9 : decode cX6_areTwo 9 = .ok (.if_icmp .ge 24, 3) := by decide +kernel
theorem dX6_areTwo_12 : decode cX6_areTwo 12 = .ok (.iload_n 2, 1) := by decide +kernel
theorem dX6_areTwo_13 : decode cX6_areTwo 13 = .ok (.ifCond .lt 20, 3) := by decide +kernel
theorem dX6_areTwo_16 : decode cX6_areTwo 16 = .ok (.iload_n 2, 1) := by decide +kernel
theorem dX6_areTwo_17 : decode cX6_areTwo 17 = .ok (.aload_n 0, 1) := by decide +kernel
theorem dX6_areTwo_18 : decode cX6_areTwo 18 = .ok (.getfield 60, 3) := by decide +kernel
theorem dX6_areTwo_21 : decode cX6_areTwo 21 = .ok (.if_icmp .ge 12, 3) := by decide +kernel
theorem dX6_areTwo_24 : decode cX6_areTwo 24 = .ok (.iload_n 1, 1) := by decide +kernel
theorem dX6_areTwo_25 : decode cX6_areTwo 25 = .ok (.iload_n 2, 1) := by decide +kernel
theorem dX6_areTwo_26 : decode cX6_areTwo 26 = .ok (.if_icmp .eq 7, 3) := by decide +kernel
theorem dX6_areTwo_29 : decode cX6_areTwo 29 = .ok (.iconst 1, 1) := by decide +kernel
theorem dX6_areTwo_30 : decode cX6_areTwo 30 = .ok (.goto 4, 3) := by decide +kernel
theorem dX6_areTwo_33 : decode cX6_areTwo 33 = .ok (.iconst 0, 1) := by decide +kernel
theorem dX6_areTwo_34 : decode cX6_areTwo 34 = .ok (.ireturn, 1) := by decide +kernel
theorem dX6_arc_0 : decode cX6_arc 0 = .ok (.aload_n 0, 1) := by decide +kernel
theorem dX6_arc_1 : decode cX6_arc 1 = .ok (.iload_n 1, 1) := by decide +kernel
theorem dX6_arc_2 : decode cX6_arc 2 = .ok (.iload_n 2, 1) := by decide +kernel
theorem dX6_arc_3 : decode cX6_arc 3 = .ok (.invokevirtual 67, 3) := by decide +kernel
theorem dX6_arc_6 : decode cX6_arc 6 = .ok (.ifCond .ne 5, 3) := by decide +kernel
theorem dX6_arc_9 : decode cX6_arc 9 = .ok (.iconst (-1), 1) := by decide +kernel
theorem dX6_arc_10 : decode cX6_arc 10 = .ok (.ireturn, 1) := by decide +kernel
theorem dX6_arc_11 : decode cX6_arc 11 = .ok (.iload_n 3, 1) := by decide +kernel
theorem dX6_arc_12 : decode cX6_arc 12 = .ok (.iconst 1, 1) := by decide +kernel
theorem dX6_arc_13 : decode cX6_arc 13 = .ok (.if_icmp .lt 10, 3) := by decide +kernel
theorem dX6_arc_16 : decode cX6_arc 16 = .ok (.iload_n 3, 1) := by decide +kernel
theorem dX6_arc_17 : decode cX6_arc 17 = .ok (.sipush 1000, 3) := by decide +kernel
theorem dX6_arc_20 : decode cX6_arc 20 = .ok (.if_icmp .le 6, 3) := by decide +kernel
theorem dX6_arc_23 : decode cX6_arc 23 = .ok (.bipush (-2), 2) := by decide +kernel
theorem dX6_arc_25 : decode cX6_arc 25 = .ok (.ireturn, 1) := by decide +kernel
theorem dX6_arc_26 : decode cX6_arc 26 = .ok (.aload_n 0, 1) := by decide +kernel
theorem dX6_arc_27 : decode cX6_arc 27 = .ok (.getfield 71, 3) := by decide +kernel
theorem dX6_arc_30 : decode cX6_arc 30 = .ok (.bipush 50, 2) := by decide +kernel
theorem dX6_arc_32 : decode cX6_arc 32 = .ok (.if_icmp .ne 6, 3) := by decide +kernel
theorem dX6_arc_35 : decode cX6_arc 35 = .ok (.bipush (-4), 2) := by decide +kernel
theorem dX6_arc_37 : decode cX6_arc 37 = .ok (.ireturn, 1) := by decide +kernel
theorem dX6_arc_38 : decode cX6_arc 38 = .ok (.aload_n 0, 1) := by decide +kernel
theorem dX6_arc_39 : decode cX6_arc 39 = .ok (.getfield 7, 3) := by decide +kernel
theorem dX6_arc_42 : decode cX6_arc 42 = .ok (.aload_n 0, 1) := by decide +kernel
theorem dX6_arc_43 : decode cX6_arc 43 = .ok (.getfield 71, 3) := by decide +kernel
theorem dX6_arc_46 : decode cX6_arc 46 = .ok (.iload_n 1, 1) := by decide +kernel
theorem dX6_arc_47 : decode cX6_arc 47 = .ok (.iastore, 1) := by decide +kernel
theorem dX6_arc_48 : decode cX6_arc 48 = .ok (.aload_n 0, 1) := by decide +kernel
theorem dX6_arc_49 : decode cX6_arc 49 = .ok (.getfield 13, 3) := by decide +kernel
theorem dX6_arc_52 : decode cX6_arc 52 = .ok (.aload_n 0, 1) := by decide +kernel
theorem dX6_arc_53 : decode cX6_arc 53 = .ok (.getfield 71, 3) := by decide +kernel
theorem dX6_arc_56 : decode cX6_arc 56 = .ok (.iload_n 2, 1) := by decide +kernel
theorem dX6_arc_57 : decode cX6_arc 57 = .ok (.iastore, 1) := by decide +kernel
theorem dX6_arc_58 : decode cX6_arc 58 = .ok (.aload_n 0, 1) := by decide +kernel
theorem dX6_arc_59 : decode cX6_arc 59 = .ok (.getfield 16, 3) := by decide +kernel
theorem dX6_arc_62 : decode cX6_arc 62 = .ok (.aload_n 0, 1) := by decide +kernel
theorem dX6_arc_63 : decode cX6_arc 63 = .ok (.getfield 71, 3) := by decide +kernel
theorem dX6_arc_66 : decode cX6_arc 66 = .ok (.iload_n 3, 1) := by decide +kernel
theorem dX6_arc_67 : decode cX6_arc 67 = .ok (.iastore, 1) := by decide +kernel
theorem dX6_arc_68 : decode cX6_arc 68 = .ok (.aload_n 0, 1) := by decide +kernel
theorem dX6_arc_69 : decode cX6_arc 69 = .ok (.getfield 19, 3) := by decide +kernel
theorem dX6_arc_72 : decode cX6_arc 72 = .ok (.aload_n 0, 1) := by decide +kernel
theorem dX6_arc_73 : decode cX6_arc 73 = .ok (.getfield 71, 3) := by decide +kernel
theorem dX6_arc_76 : decode cX6_arc 76 = .ok (.iconst 1, 1) := by decide +kernel
theorem dX6_arc_77 : decode cX6_arc 77 = .ok (.bastore, 1) := by decide +kernel
theorem dX6_arc_78 : decode cX6_arc 78 = .ok (.aload_n 0, 1) := by decide +kernel
theorem dX6_arc_79 : decode cX6_arc 79 = .ok (.dup, 1) := by decide +kernel
theorem dX6_arc_80 : decode cX6_arc 80 = .ok (.getfield 71, 3) := by decide +kernel
theorem dX6_arc_83 : decode cX6_arc 83 = .ok (.iconst 1, 1) := by decide +kernel
theorem dX6_arc_84 : decode cX6_arc 84 = .ok (.iadd, 1) := by decide +kernel
theorem dX6_arc_85 : decode cX6_arc 85 = .ok (.putfield 71, 3) := by decide +kernel
theorem dX6_arc_88 : decode cX6_arc 88 = .ok (.aload_n 0, 1) := by decide +kernel
theorem dX6_arc_89 : decode cX6_arc 89 = .ok (.dup, 1) := by decide +kernel
theorem dX6_arc_90 : decode cX6_arc 90 = .ok (.getfield 74, 3) := by decide +kernel
theorem dX6_arc_93 : decode cX6_arc 93 = .ok (.iconst 1, 1) := by decide +kernel
theorem dX6_arc_94 : decode cX6_arc 94 = .ok (.iadd, 1) := by decide +kernel
theorem dX6_arc_95 : decode cX6_arc 95 = .ok (.putfield 74, 3) := by decide +kernel
theorem dX6_arc_98 : decode cX6_arc 98 = .ok (.aload_n 0, 1) := by decide +kernel
theorem dX6_arc_99 : decode cX6_arc 99 = .ok (.invokevirtual 64, 3) := by decide +kernel
theorem dX6_arc_102 : decode cX6_arc 102 = .ok (.aload_n 0, 1) := by decide +kernel
theorem dX6_arc_103 : decode cX6_arc 103 = .ok (.getfield 71, 3) := by decide +kernel
theorem dX6_arc_106 : decode cX6_arc 106 = .ok (.iconst 1, 1) := by decide +kernel
theorem dX6_arc_107 : decode cX6_arc 107 = .ok (.isub, 1) := by decide +kernel
theorem dX6_arc_108 : decode cX6_arc 108 = .ok (.ireturn, 1) := by decide +kernel
theorem dX6_drop_0 : decode cX6_drop 0 = .ok (.iload_n 1, 1) := by decide +kernel
theorem dX6_drop_1 : decode cX6_drop 1 = .ok (.ifCond .lt 20, 3) := by decide +kernel
theorem dX6_drop_4 : decode cX6_drop 4 = .ok (.iload_n 1, 1) := by decide +kernel
theorem dX6_drop_5 : decode cX6_drop 5 = .ok (.aload_n 0, 1) := by decide +kernel
theorem dX6_drop_6 : decode cX6_drop 6 = .ok (.getfield 71, 3) := by decide +kernel
theorem dX6_drop_9 : decode cX6_drop 9 = .ok (.if_icmp .ge 12, 3) := by decide +kernel
theorem dX6_drop_12 : decode cX6_drop 12 = .ok (.aload_n 0, 1) := by decide +kernel
theorem dX6_drop_13 : decode cX6_drop 13 = .ok (.getfield 19, 3) := by decide +kernel
theorem dX6_drop_16 : decode cX6_drop 16 = .ok (.iload_n 1, 1) := by decide +kernel
theorem dX6_drop_17 : decode cX6_drop 17 = .ok (.baload, 1) := by decide +kernel
theorem dX6_drop_18 : decode cX6_drop 18 = .ok (.ifCond .ne 5, 3) := by decide +kernel
theorem dX6_drop_21 : decode cX6_drop 21 = .ok (.iconst (-1), 1) := by decide +kernel
theorem dX6_drop_22 : decode cX6_drop 22 = .ok (.ireturn, 1) := by decide +kernel
theorem dX6_drop_23 : decode cX6_drop 23 = .ok (.aload_n 0, 1) := by decide +kernel
theorem dX6_drop_24 : decode cX6_drop 24 = .ok (.getfield 19, 3) := by decide +kernel
theorem dX6_drop_27 : decode cX6_drop 27 = .ok (.iload_n 1, 1) := by decide +kernel
theorem dX6_drop_28 : decode cX6_drop 28 = .ok (.iconst 0, 1) := by decide +kernel
theorem dX6_drop_29 : decode cX6_drop 29 = .ok (.bastore, 1) := by decide +kernel
theorem dX6_drop_30 : decode cX6_drop 30 = .ok (.aload_n 0, 1) := by decide +kernel
theorem dX6_drop_31 : decode cX6_drop 31 = .ok (.dup, 1) := by decide +kernel
theorem dX6_drop_32 : decode cX6_drop 32 = .ok (.getfield 74, 3) := by decide +kernel
theorem dX6_drop_35 : decode cX6_drop 35 = .ok (.iconst 1, 1) := by decide +kernel
theorem dX6_drop_36 : decode cX6_drop 36 = .ok (.isub, 1) := by decide +kernel
theorem dX6_drop_37 : decode cX6_drop 37 = .ok (.putfield 74, 3) := by decide +kernel
theorem dX6_drop_40 : decode cX6_drop 40 = .ok (.aload_n 0, 1) := by decide +kernel
theorem dX6_drop_41 : decode cX6_drop 41 = .ok (.invokevirtual 64, 3) := by decide +kernel
theorem dX6_drop_44 : decode cX6_drop 44 = .ok (.aload_n 0, 1) := by decide +kernel
theorem dX6_drop_45 : decode cX6_drop 45 = .ok (.getfield 74, 3) := by decide +kernel
theorem dX6_drop_48 : decode cX6_drop 48 = .ok (.ireturn, 1) := by decide +kernel
theorem dX6_clear_0 : decode cX6_clear 0 = .ok (.aload_n 0, 1) := by decide +kernel
theorem dX6_clear_1 : decode cX6_clear 1 = .ok (.getfield 60, 3) := by decide +kernel
theorem dX6_clear_4 : decode cX6_clear 4 = .ok (.istore_n 1, 1) := by decide +kernel
theorem dX6_clear_5 : decode cX6_clear 5 = .ok (.aload_n 0, 1) := by decide +kernel
theorem dX6_clear_6 : decode cX6_clear 6 = .ok (.iconst 0, 1) := by decide +kernel
theorem dX6_clear_7 : decode cX6_clear 7 = .ok (.putfield 60, 3) := by decide +kernel
theorem dX6_clear_10 : decode cX6_clear 10 = .ok (.aload_n 0, 1) := by decide +kernel
theorem dX6_clear_11 : decode cX6_clear 11 = .ok (.iconst 0, 1) := by decide +kernel
theorem dX6_clear_12 : decode cX6_clear 12 = .ok (.putfield 71, 3) := by decide +kernel
theorem dX6_clear_15 : decode cX6_clear 15 = .ok (.aload_n 0, 1) := by decide +kernel
theorem dX6_clear_16 : decode cX6_clear 16 = .ok (.iconst 0, 1) := by decide +kernel
theorem dX6_clear_17 : decode cX6_clear 17 = .ok (.putfield 74, 3) := by decide +kernel
theorem dX6_clear_20 : decode cX6_clear 20 = .ok (.aload_n 0, 1) := by decide +kernel
theorem dX6_clear_21 : decode cX6_clear 21 = .ok (.invokevirtual 64, 3) := by decide +kernel
theorem dX6_clear_24 : decode cX6_clear 24 = .ok (.iload_n 1, 1) := by decide +kernel
theorem dX6_clear_25 : decode cX6_clear 25 = .ok (.ireturn, 1) := by decide +kernel
theorem dX6_all_0 : decode cX6_all 0 = .ok (.iconst 1, 1) := by decide +kernel
theorem dX6_all_1 : decode cX6_all 1 = .ok (.aload_n 0, 1) := by decide +kernel
theorem dX6_all_2 : decode cX6_all 2 = .ok (.getfield 60, 3) := by decide +kernel
theorem dX6_all_5 : decode cX6_all 5 = .ok (.ishl, 1) := by decide +kernel
theorem dX6_all_6 : decode cX6_all 6 = .ok (.iconst 1, 1) := by decide +kernel
theorem dX6_all_7 : decode cX6_all 7 = .ok (.isub, 1) := by decide +kernel
theorem dX6_all_8 : decode cX6_all 8 = .ok (.ireturn, 1) := by decide +kernel
theorem dX6_make_0 : decode cX6_make 0 = .ok (.aload_n 0, 1) := by decide +kernel
theorem dX6_make_1 : decode cX6_make 1 = .ok (.getfield 56, 3) := by decide +kernel
theorem dX6_make_4 : decode cX6_make 4 = .ok (.ifCond .ne 4, 3) := by decide +kernel
theorem dX6_make_7 : decode cX6_make 7 = .ok (.return_, 1) := by decide +kernel
theorem dX6_make_8 : decode cX6_make 8 = .ok (.aload_n 0, 1) := by decide +kernel
theorem dX6_make_9 : decode cX6_make 9 = .ok (.iconst 0, 1) := by decide +kernel
theorem dX6_make_10 : decode cX6_make 10 = .ok (.putfield 56, 3) := by decide +kernel
theorem dX6_make_13 : decode cX6_make 13 = .ok (.iconst 0, 1) := by decide +kernel
theorem dX6_make_14 : decode cX6_make 14 = .ok (.istore_n 1, 1) := by decide +kernel
theorem dX6_make_15 : decode cX6_make 15 = .ok (.iload_n 1, 1) := by decide +kernel
theorem dX6_make_16 : decode cX6_make 16 = .ok (.sipush 144, 3) := by decide +kernel
theorem dX6_make_19 : decode cX6_make 19 = .ok (.if_icmp .ge 16, 3) := by decide +kernel
theorem dX6_make_22 : decode cX6_make 22 = .ok (.aload_n 0, 1) := by decide +kernel
theorem dX6_make_23 : decode cX6_make 23 = .ok (.getfield 23, 3) := by decide +kernel
theorem dX6_make_26 : decode cX6_make 26 = .ok (.iload_n 1, 1) := by decide +kernel
theorem dX6_make_27 : decode cX6_make 27 = .ok (.iconst 0, 1) := by decide +kernel
theorem dX6_make_28 : decode cX6_make 28 = .ok (.iastore, 1) := by decide +kernel
theorem dX6_make_29 : decode cX6_make 29 = .ok (.iinc 1 1, 3) := by decide +kernel
theorem dX6_make_32 : decode cX6_make 32 = .ok (.goto (-17), 3) := by decide +kernel
theorem dX6_make_35 : decode cX6_make 35 = .ok (.iconst 0, 1) := by decide +kernel
theorem dX6_make_36 : decode cX6_make 36 = .ok (.istore_n 1, 1) := by decide +kernel
theorem dX6_make_37 : decode cX6_make 37 = .ok (.iload_n 1, 1) := by decide +kernel
theorem dX6_make_38 : decode cX6_make 38 = .ok (.bipush 12, 2) := by decide +kernel
theorem dX6_make_40 : decode cX6_make 40 = .ok (.if_icmp .ge 16, 3) := by decide +kernel
theorem dX6_make_43 : decode cX6_make 43 = .ok (.aload_n 0, 1) := by decide +kernel
theorem dX6_make_44 : decode cX6_make 44 = .ok (.getfield 26, 3) := by decide +kernel
theorem dX6_make_47 : decode cX6_make 47 = .ok (.iload_n 1, 1) := by decide +kernel
theorem dX6_make_48 : decode cX6_make 48 = .ok (.iconst 0, 1) := by decide +kernel
theorem dX6_make_49 : decode cX6_make 49 = .ok (.iastore, 1) := by decide +kernel
theorem dX6_make_50 : decode cX6_make 50 = .ok (.iinc 1 1, 3) := by decide +kernel
theorem dX6_make_53 : decode cX6_make 53 = .ok (.goto (-16), 3) := by decide +kernel
theorem dX6_make_56 : decode cX6_make 56 = .ok (.iconst 0, 1) := by decide +kernel
theorem dX6_make_57 : decode cX6_make 57 = .ok (.istore_n 1, 1) := by decide +kernel
theorem dX6_make_58 : decode cX6_make 58 = .ok (.iload_n 1, 1) := by decide +kernel
theorem dX6_make_59 : decode cX6_make 59 = .ok (.aload_n 0, 1) := by decide +kernel
theorem dX6_make_60 : decode cX6_make 60 = .ok (.getfield 71, 3) := by decide +kernel
theorem dX6_make_63 : decode cX6_make 63 = .ok (.if_icmp .ge 122, 3) := by decide +kernel
theorem dX6_make_66 : decode cX6_make 66 = .ok (.aload_n 0, 1) := by decide +kernel
theorem dX6_make_67 : decode cX6_make 67 = .ok (.getfield 19, 3) := by decide +kernel
theorem dX6_make_70 : decode cX6_make 70 = .ok (.iload_n 1, 1) := by decide +kernel
theorem dX6_make_71 : decode cX6_make 71 = .ok (.baload, 1) := by decide +kernel
theorem dX6_make_72 : decode cX6_make 72 = .ok (.ifCond .eq 107, 3) := by decide +kernel
theorem dX6_make_75 : decode cX6_make 75 = .ok (.aload_n 0, 1) := by decide +kernel
theorem dX6_make_76 : decode cX6_make 76 = .ok (.getfield 23, 3) := by decide +kernel
theorem dX6_make_79 : decode cX6_make 79 = .ok (.bipush 12, 2) := by decide +kernel
theorem dX6_make_81 : decode cX6_make 81 = .ok (.aload_n 0, 1) := by decide +kernel
theorem dX6_make_82 : decode cX6_make 82 = .ok (.getfield 7, 3) := by decide +kernel
theorem dX6_make_85 : decode cX6_make 85 = .ok (.iload_n 1, 1) := by decide +kernel
theorem dX6_make_86 : decode cX6_make 86 = .ok (.iaload, 1) := by decide +kernel
theorem dX6_make_87 : decode cX6_make 87 = .ok (.imul, 1) := by decide +kernel
theorem dX6_make_88 : decode cX6_make 88 = .ok (.aload_n 0, 1) := by decide +kernel
theorem dX6_make_89 : decode cX6_make 89 = .ok (.getfield 13, 3) := by decide +kernel
theorem dX6_make_92 : decode cX6_make 92 = .ok (.iload_n 1, 1) := by decide +kernel
theorem dX6_make_93 : decode cX6_make 93 = .ok (.iaload, 1) := by decide +kernel
theorem dX6_make_94 : decode cX6_make 94 = .ok (.iadd, 1) := by decide +kernel
theorem dX6_make_95 : decode cX6_make 95 = .ok (.dup2, 1) := by decide +kernel
theorem dX6_make_96 : decode cX6_make 96 = .ok (.iaload, 1) := by decide +kernel
theorem dX6_make_97 : decode cX6_make 97 = .ok (.aload_n 0, 1) := by decide +kernel
theorem dX6_make_98 : decode cX6_make 98 = .ok (.getfield 16, 3) := by decide +kernel
theorem dX6_make_101 : decode cX6_make 101 = .ok (.iload_n 1, 1) := by decide +kernel
theorem dX6_make_102 : decode cX6_make 102 = .ok (.iaload, 1) := by decide +kernel
theorem dX6_make_103 : decode cX6_make 103 = .ok (.iadd, 1) := by decide +kernel
theorem dX6_make_104 : decode cX6_make 104 = .ok (.iastore, 1) := by decide +kernel
theorem dX6_make_105 : decode cX6_make 105 = .ok (.aload_n 0, 1) := by decide +kernel
theorem dX6_make_106 : decode cX6_make 106 = .ok (.getfield 23, 3) := by decide +kernel
theorem dX6_make_109 : decode cX6_make 109 = .ok (.bipush 12, 2) := by decide +kernel
theorem dX6_make_111 : decode cX6_make 111 = .ok (.aload_n 0, 1) := by decide +kernel
theorem dX6_make_112 : decode cX6_make 112 = .ok (.getfield 13, 3) := by decide +kernel
theorem dX6_make_115 : decode cX6_make 115 = .ok (.iload_n 1, 1) := by decide +kernel
theorem dX6_make_116 : decode cX6_make 116 = .ok (.iaload, 1) := by decide +kernel
theorem dX6_make_117 : decode cX6_make 117 = .ok (.imul, 1) := by decide +kernel
theorem dX6_make_118 : decode cX6_make 118 = .ok (.aload_n 0, 1) := by decide +kernel
theorem dX6_make_119 : decode cX6_make 119 = .ok (.getfield 7, 3) := by decide +kernel
theorem dX6_make_122 : decode cX6_make 122 = .ok (.iload_n 1, 1) := by decide +kernel
theorem dX6_make_123 : decode cX6_make 123 = .ok (.iaload, 1) := by decide +kernel
theorem dX6_make_124 : decode cX6_make 124 = .ok (.iadd, 1) := by decide +kernel
theorem dX6_make_125 : decode cX6_make 125 = .ok (.dup2, 1) := by decide +kernel
theorem dX6_make_126 : decode cX6_make 126 = .ok (.iaload, 1) := by decide +kernel
theorem dX6_make_127 : decode cX6_make 127 = .ok (.aload_n 0, 1) := by decide +kernel
theorem dX6_make_128 : decode cX6_make 128 = .ok (.getfield 16, 3) := by decide +kernel
theorem dX6_make_131 : decode cX6_make 131 = .ok (.iload_n 1, 1) := by decide +kernel
theorem dX6_make_132 : decode cX6_make 132 = .ok (.iaload, 1) := by decide +kernel
theorem dX6_make_133 : decode cX6_make 133 = .ok (.iadd, 1) := by decide +kernel
theorem dX6_make_134 : decode cX6_make 134 = .ok (.iastore, 1) := by decide +kernel
theorem dX6_make_135 : decode cX6_make 135 = .ok (.aload_n 0, 1) := by decide +kernel
theorem dX6_make_136 : decode cX6_make 136 = .ok (.getfield 26, 3) := by decide +kernel
theorem dX6_make_139 : decode cX6_make 139 = .ok (.aload_n 0, 1) := by decide +kernel
theorem dX6_make_140 : decode cX6_make 140 = .ok (.getfield 7, 3) := by decide +kernel
theorem dX6_make_143 : decode cX6_make 143 = .ok (.iload_n 1, 1) := by decide +kernel
theorem dX6_make_144 : decode cX6_make 144 = .ok (.iaload, 1) := by decide +kernel
theorem dX6_make_145 : decode cX6_make 145 = .ok (.dup2, 1) := by decide +kernel
theorem dX6_make_146 : decode cX6_make 146 = .ok (.iaload, 1) := by decide +kernel
theorem dX6_make_147 : decode cX6_make 147 = .ok (.iconst 1, 1) := by decide +kernel
theorem dX6_make_148 : decode cX6_make 148 = .ok (.aload_n 0, 1) := by decide +kernel
theorem dX6_make_149 : decode cX6_make 149 = .ok (.getfield 13, 3) := by decide +kernel
theorem dX6_make_152 : decode cX6_make 152 = .ok (.iload_n 1, 1) := by decide +kernel
theorem dX6_make_153 : decode cX6_make 153 = .ok (.iaload, 1) := by decide +kernel
theorem dX6_make_154 : decode cX6_make 154 = .ok (.ishl, 1) := by decide +kernel
theorem dX6_make_155 : decode cX6_make 155 = .ok (.ior, 1) := by decide +kernel
theorem dX6_make_156 : decode cX6_make 156 = .ok (.iastore, 1) := by decide +kernel
theorem dX6_make_157 : decode cX6_make 157 = .ok (.aload_n 0, 1) := by decide +kernel
theorem dX6_make_158 : decode cX6_make 158 = .ok (.getfield 26, 3) := by decide +kernel
theorem dX6_make_161 : decode cX6_make 161 = .ok (.aload_n 0, 1) := by decide +kernel
theorem dX6_make_162 : decode cX6_make 162 = .ok (.getfield 13, 3) := by decide +kernel
theorem dX6_make_165 : decode cX6_make 165 = .ok (.iload_n 1, 1) := by decide +kernel
theorem dX6_make_166 : decode cX6_make 166 = .ok (.iaload, 1) := by decide +kernel
theorem dX6_make_167 : decode cX6_make 167 = .ok (.dup2, 1) := by decide +kernel
theorem dX6_make_168 : decode cX6_make 168 = .ok (.iaload, 1) := by decide +kernel
theorem dX6_make_169 : decode cX6_make 169 = .ok (.iconst 1, 1) := by decide +kernel
theorem dX6_make_170 : decode cX6_make 170 = .ok (.aload_n 0, 1) := by decide +kernel
theorem dX6_make_171 : decode cX6_make 171 = .ok (.getfield 7, 3) := by decide +kernel
theorem dX6_make_174 : decode cX6_make 174 = .ok (.iload_n 1, 1) := by decide +kernel
theorem dX6_make_175 : decode cX6_make 175 = .ok (.iaload, 1) := by decide +kernel
theorem dX6_make_176 : decode cX6_make 176 = .ok (.ishl, 1) := by decide +kernel
theorem dX6_make_177 : decode cX6_make 177 = .ok (.ior, 1) := by decide +kernel
theorem dX6_make_178 : decode cX6_make 178 = .ok (.iastore, 1) := by decide +kernel
theorem dX6_make_179 : decode cX6_make 179 = .ok (.iinc 1 1, 3) := by decide +kernel
theorem dX6_make_182 : decode cX6_make 182 = .ok (.goto (-124), 3) := by decide +kernel
theorem dX6_make_185 : decode cX6_make 185 = .ok (.aload_n 0, 1) := by decide +kernel
theorem dX6_make_186 : decode cX6_make 186 = .ok (.getfield 29, 3) := by decide +kernel
theorem dX6_make_189 : decode cX6_make 189 = .ok (.iconst 0, 1) := by decide +kernel
theorem dX6_make_190 : decode cX6_make 190 = .ok (.iconst 0, 1) := by decide +kernel
theorem dX6_make_191 : decode cX6_make 191 = .ok (.iastore, 1) := by decide +kernel
theorem dX6_make_192 : decode cX6_make 192 = .ok (.iconst 1, 1) := by decide +kernel
theorem dX6_make_193 : decode cX6_make 193 = .ok (.istore_n 1, 1) := by decide +kernel
theorem dX6_make_194 : decode cX6_make 194 = .ok (.iload_n 1, 1) := by decide +kernel
theorem dX6_make_195 : decode cX6_make 195 = .ok (.aload_n 0, 1) := by decide +kernel
theorem dX6_make_196 : decode cX6_make 196 = .ok (.invokevirtual 77, 3) := by decide +kernel
theorem dX6_make_199 : decode cX6_make 199 = .ok (.if_icmp .gt 110, 3) := by decide +kernel
theorem dX6_make_202 : decode cX6_make 202 = .ok (.iconst 0, 1) := by decide +kernel
theorem dX6_make_203 : decode cX6_make 203 = .ok (.istore_n 2, 1) := by decide +kernel
theorem dX6_make_204 : decode cX6_make 204 = .ok (.iload_n 1, 1) := by decide +kernel
theorem dX6_make_205 : decode cX6_make 205 = .ok (.iload_n 2, 1) := by decide +kernel
theorem dX6_make_206 : decode cX6_make 206 = .ok (.ishr, 1) := by decide +kernel
theorem dX6_make_207 : decode cX6_make 207 = .ok (.iconst 1, 1) := by decide +kernel
theorem dX6_make_208 : decode cX6_make 208 = .ok (.iand, 1) := by decide +kernel
theorem dX6_make_209 : decode cX6_make 209 = .ok (.ifCond .ne 9, 3) := by decide +kernel
theorem dX6_make_212 : decode cX6_make 212 = .ok (.iinc 2 1, 3) := by decide +kernel
theorem dX6_make_215 : decode cX6_make 215 = .ok (.goto (-11), 3) := by decide +kernel
theorem dX6_make_218 : decode cX6_make 218 = .ok (.iload_n 1, 1) := by decide +kernel
theorem dX6_make_219 : decode cX6_make 219 = .ok (.iconst 1, 1) := by decide +kernel
theorem dX6_make_220 : decode cX6_make 220 = .ok (.iload_n 2, 1) := by decide +kernel
theorem dX6_make_221 : decode cX6_make 221 = .ok (.ishl, 1) := by decide +kernel
theorem dX6_make_222 : decode cX6_make 222 = .ok (.iconst (-1), 1) := by decide +kernel
theorem dX6_make_223 : decode cX6_make 223 = .ok (.ixor, 1) := by decide +kernel
theorem dX6_make_224 : decode cX6_make 224 = .ok (.iand, 1) := by decide +kernel
theorem dX6_make_225 : decode cX6_make 225 = .ok (.istore_n 3, 1) := by decide +kernel
theorem dX6_make_226 : decode cX6_make 226 = .ok (.aload_n 0, 1) := by decide +kernel
theorem dX6_make_227 : decode cX6_make 227 = .ok (.getfield 29, 3) := by decide +kernel
theorem dX6_make_230 : decode cX6_make 230 = .ok (.iload_n 3, 1) := by decide +kernel
theorem dX6_make_231 : decode cX6_make 231 = .ok (.iaload, 1) := by decide +kernel
theorem dX6_make_232 : decode cX6_make 232 = .ok (.istore 4, 2) := by decide +kernel
theorem dX6_make_234 : decode cX6_make 234 = .ok (.iconst 0, 1) := by decide +kernel
theorem dX6_make_235 : decode cX6_make 235 = .ok (.istore 5, 2) := by decide +kernel
theorem dX6_make_237 : decode cX6_make 237 = .ok (.iload 5, 2) := by decide +kernel
theorem dX6_make_239 : decode cX6_make 239 = .ok (.aload_n 0, 1) := by decide +kernel
theorem dX6_make_240 : decode cX6_make 240 = .ok (.getfield 60, 3) := by decide +kernel
theorem dX6_make_243 : decode cX6_make 243 = .ok (.if_icmp .ge 52, 3) := by decide +kernel
theorem dX6_make_246 : decode cX6_make 246 = .ok (.iload 4, 2) := by decide +kernel
theorem dX6_make_248 : decode cX6_make 248 = .ok (.iload_n 3, 1) := by decide +kernel
theorem dX6_make_249 : decode cX6_make 249 = .ok (.iload 5, 2) := by decide +kernel
theorem dX6_make_251 : decode cX6_make 251 = .ok (.ishr, 1) := by decide +kernel
theorem dX6_make_252 : decode cX6_make 252 = .ok (.iconst 1, 1) := by decide +kernel
theorem dX6_make_253 : decode cX6_make 253 = .ok (.iand, 1) := by decide +kernel
theorem dX6_make_254 : decode cX6_make 254 = .ok (.iconst 1, 1) := by decide +kernel
theorem dX6_make_255 : decode cX6_make 255 = .ok (.if_icmp .ne 19, 3) := by decide +kernel
theorem dX6_make_258 : decode cX6_make 258 = .ok (.aload_n 0, 1) := by decide +kernel
theorem dX6_make_259 : decode cX6_make 259 = .ok (.getfield 23, 3) := by decide +kernel
theorem dX6_make_262 : decode cX6_make 262 = .ok (.bipush 12, 2) := by decide +kernel
theorem dX6_make_264 : decode cX6_make 264 = .ok (.iload_n 2, 1) := by decide +kernel
theorem dX6_make_265 : decode cX6_make 265 = .ok (.imul, 1) := by decide +kernel
theorem dX6_make_266 : decode cX6_make 266 = .ok (.iload 5, 2) := by decide +kernel
theorem dX6_make_268 : decode cX6_make 268 = .ok (.iadd, 1) := by decide +kernel
theorem dX6_make_269 : decode cX6_make 269 = .ok (.iaload, 1) := by decide +kernel
theorem dX6_make_270 : decode cX6_make 270 = .ok (.ineg, 1) := by decide +kernel
theorem dX6_make_271 : decode cX6_make 271 = .ok (.goto 15, 3) := by decide +kernel
theorem dX6_make_274 : decode cX6_make 274 = .ok (.aload_n 0, 1) := by decide +kernel
theorem dX6_make_275 : decode cX6_make 275 = .ok (.getfield 23, 3) := by decide +kernel
theorem dX6_make_278 : decode cX6_make 278 = .ok (.bipush 12, 2) := by decide +kernel
theorem dX6_make_280 : decode cX6_make 280 = .ok (.iload_n 2, 1) := by decide +kernel
theorem dX6_make_281 : decode cX6_make 281 = .ok (.imul, 1) := by decide +kernel
theorem dX6_make_282 : decode cX6_make 282 = .ok (.iload 5, 2) := by decide +kernel
theorem dX6_make_284 : decode cX6_make 284 = .ok (.iadd, 1) := by decide +kernel
theorem dX6_make_285 : decode cX6_make 285 = .ok (.iaload, 1) := by decide +kernel
theorem dX6_make_286 : decode cX6_make 286 = .ok (.iadd, 1) := by decide +kernel
theorem dX6_make_287 : decode cX6_make 287 = .ok (.istore 4, 2) := by decide +kernel
theorem dX6_make_289 : decode cX6_make 289 = .ok (.iinc 5 1, 3) := by decide +kernel
theorem dX6_make_292 : decode cX6_make 292 = .ok (.goto (-55), 3) := by decide +kernel
theorem dX6_make_295 : decode cX6_make 295 = .ok (.aload_n 0, 1) := by decide +kernel
theorem dX6_make_296 : decode cX6_make 296 = .ok (.getfield 29, 3) := by decide +kernel
theorem dX6_make_299 : decode cX6_make 299 = .ok (.iload_n 1, 1) := by decide +kernel
theorem dX6_make_300 : decode cX6_make 300 = .ok (.iload 4, 2) := by decide +kernel
theorem dX6_make_302 : decode cX6_make 302 = .ok (.iastore, 1) := by decide +kernel
theorem dX6_make_303 : decode cX6_make 303 = .ok (.iinc 1 1, 3) := by decide +kernel
theorem dX6_make_306 : decode cX6_make 306 = .ok (.goto (-112), 3) := by decide +kernel
theorem dX6_make_309 : decode cX6_make 309 = .ok (.aload_n 0, 1) := by decide +kernel
theorem dX6_make_310 : decode cX6_make 310 = .ok (.invokevirtual 81, 3) := by decide +kernel
theorem dX6_make_313 : decode cX6_make 313 = .ok (.return_, 1) := by decide +kernel
theorem dX6_cut_0 : decode cX6_cut 0 = .ok (.iload_n 1, 1) := by decide +kernel
theorem dX6_cut_1 : decode cX6_cut 1 = .ok (.aload_n 0, 1) := by decide +kernel
theorem dX6_cut_2 : decode cX6_cut 2 = .ok (.invokevirtual 77, 3) := by decide +kernel
theorem dX6_cut_5 : decode cX6_cut 5 = .ok (.iconst (-1), 1) := by decide +kernel
theorem dX6_cut_6 : decode cX6_cut 6 = .ok (.ixor, 1) := by decide +kernel
theorem dX6_cut_7 : decode cX6_cut 7 = .ok (.iand, 1) := by decide +kernel
theorem dX6_cut_8 : decode cX6_cut 8 = .ok (.ifCond .eq 6, 3) := by decide +kernel
theorem dX6_cut_11 : decode cX6_cut 11 = .ok (.bipush (-2), 2) := by decide +kernel
theorem dX6_cut_13 : decode cX6_cut 13 = .ok (.ireturn, 1) := by decide +kernel
theorem dX6_cut_14 : decode cX6_cut 14 = .ok (.aload_n 0, 1) := by decide +kernel
theorem dX6_cut_15 : decode cX6_cut 15 = .ok (.invokevirtual 84, 3) := by decide +kernel
theorem dX6_cut_18 : decode cX6_cut 18 = .ok (.aload_n 0, 1) := by decide +kernel
theorem dX6_cut_19 : decode cX6_cut 19 = .ok (.getfield 29, 3) := by decide +kernel
theorem dX6_cut_22 : decode cX6_cut 22 = .ok (.iload_n 1, 1) := by decide +kernel
theorem dX6_cut_23 : decode cX6_cut 23 = .ok (.iaload, 1) := by decide +kernel
theorem dX6_cut_24 : decode cX6_cut 24 = .ok (.ireturn, 1) := by decide +kernel
theorem dX6_sideOf_0 : decode cX6_sideOf 0 = .ok (.aload_n 0, 1) := by decide +kernel
theorem dX6_sideOf_1 : decode cX6_sideOf 1 = .ok (.iconst (-1), 1) := by decide +kernel
theorem dX6_sideOf_2 : decode cX6_sideOf 2 = .ok (.putfield 87, 3) := by decide +kernel
theorem dX6_sideOf_5 : decode cX6_sideOf 5 = .ok (.iconst 0, 1) := by decide +kernel
theorem dX6_sideOf_6 : decode cX6_sideOf 6 = .ok (.istore_n 3, 1) := by decide +kernel
theorem dX6_sideOf_7 : decode cX6_sideOf 7 = .ok (.iconst 1, 1) := by decide +kernel
theorem dX6_sideOf_8 : decode cX6_sideOf 8 = .ok (.istore 4, 2) := by decide +kernel
theorem dX6_sideOf_10 : decode cX6_sideOf 10 = .ok (.iload 4, 2) := by decide +kernel
theorem dX6_sideOf_12 : decode cX6_sideOf 12 = .ok (.aload_n 0, 1) := by decide +kernel
theorem dX6_sideOf_13 : decode cX6_sideOf 13 = .ok (.invokevirtual 77, 3) := by decide +kernel
theorem dX6_sideOf_16 : decode cX6_sideOf 16 = .ok (.if_icmp .ge 85, 3) := by decide +kernel
theorem dX6_sideOf_19 : decode cX6_sideOf 19 = .ok (.iload 4, 2) := by decide +kernel
theorem dX6_sideOf_21 : decode cX6_sideOf 21 = .ok (.iload_n 1, 1) := by decide +kernel
theorem dX6_sideOf_22 : decode cX6_sideOf 22 = .ok (.ishr, 1) := by decide +kernel
theorem dX6_sideOf_23 : decode cX6_sideOf 23 = .ok (.iconst 1, 1) := by decide +kernel
theorem dX6_sideOf_24 : decode cX6_sideOf 24 = .ok (.iand, 1) := by decide +kernel
theorem dX6_sideOf_25 : decode cX6_sideOf 25 = .ok (.iconst 1, 1) := by decide +kernel
theorem dX6_sideOf_26 : decode cX6_sideOf 26 = .ok (.if_icmp .ne 69, 3) := by decide +kernel
theorem dX6_sideOf_29 : decode cX6_sideOf 29 = .ok (.iload 4, 2) := by decide +kernel
theorem dX6_sideOf_31 : decode cX6_sideOf 31 = .ok (.iload_n 2, 1) := by decide +kernel
theorem dX6_sideOf_32 : decode cX6_sideOf 32 = .ok (.ishr, 1) := by decide +kernel
theorem dX6_sideOf_33 : decode cX6_sideOf 33 = .ok (.iconst 1, 1) := by decide +kernel
theorem dX6_sideOf_34 : decode cX6_sideOf 34 = .ok (.iand, 1) := by decide +kernel
theorem dX6_sideOf_35 : decode cX6_sideOf 35 = .ok (.ifCond .ne 60, 3) := by decide +kernel
theorem dX6_sideOf_38 : decode cX6_sideOf 38 = .ok (.aload_n 0, 1) := by decide +kernel
theorem dX6_sideOf_39 : decode cX6_sideOf 39 = .ok (.getfield 87, 3) := by decide +kernel
theorem dX6_sideOf_42 : decode cX6_sideOf 42 = .ok (.ifCond .lt 17, 3) := by decide +kernel
theorem dX6_sideOf_45 : decode cX6_sideOf 45 = .ok (.aload_n 0, 1) := by decide +kernel
theorem dX6_sideOf_46 : decode cX6_sideOf 46 = .ok (.getfield 29, 3) := by decide +kernel
theorem dX6_sideOf_49 : decode cX6_sideOf 49 = .ok (.iload 4, 2) := by decide +kernel
theorem dX6_sideOf_51 : decode cX6_sideOf 51 = .ok (.iaload, 1) := by decide +kernel
theorem dX6_sideOf_52 : decode cX6_sideOf 52 = .ok (.aload_n 0, 1) := by decide +kernel
theorem dX6_sideOf_53 : decode cX6_sideOf 53 = .ok (.getfield 87, 3) := by decide +kernel
theorem dX6_sideOf_56 : decode cX6_sideOf 56 = .ok (.if_icmp .ge 20, 3) := by decide +kernel
theorem dX6_sideOf_59 : decode cX6_sideOf 59 = .ok (.aload_n 0, 1) := by decide +kernel
theorem dX6_sideOf_60 : decode cX6_sideOf 60 = .ok (.aload_n 0, 1) := by decide +kernel
theorem dX6_sideOf_61 : decode cX6_sideOf 61 = .ok (.getfield 29, 3) := by decide +kernel
theorem dX6_sideOf_64 : decode cX6_sideOf 64 = .ok (.iload 4, 2) := by decide +kernel
theorem dX6_sideOf_66 : decode cX6_sideOf 66 = .ok (.iaload, 1) := by decide +kernel
theorem dX6_sideOf_67 : decode cX6_sideOf 67 = .ok (.putfield 87, 3) := by decide +kernel
theorem dX6_sideOf_70 : decode cX6_sideOf 70 = .ok (.iload 4, 2) := by decide +kernel
theorem dX6_sideOf_72 : decode cX6_sideOf 72 = .ok (.istore_n 3, 1) := by decide +kernel
theorem dX6_sideOf_73 : decode cX6_sideOf 73 = .ok (.goto 22, 3) := by decide +kernel
theorem dX6_sideOf_76 : decode cX6_sideOf 76 = .ok (.aload_n 0, 1) := by decide +kernel
theorem dX6_sideOf_77 : decode cX6_sideOf 77 = .ok (.getfield 29, 3) := by decide +kernel
theorem dX6_sideOf_80 : decode cX6_sideOf 80 = .ok (.iload 4, 2) := by decide +kernel
theorem dX6_sideOf_82 : decode cX6_sideOf 82 = .ok (.iaload, 1) := by decide +kernel
theorem dX6_sideOf_83 : decode cX6_sideOf 83 = .ok (.aload_n 0, 1) := by decide +kernel
theorem dX6_sideOf_84 : decode cX6_sideOf 84 = .ok (.getfield 87, 3) := by decide +kernel
theorem dX6_sideOf_87 : decode cX6_sideOf 87 = .ok (.if_icmp .ne 8, 3) := by decide +kernel
theorem dX6_sideOf_90 : decode cX6_sideOf 90 = .ok (.iload_n 3, 1) := by decide +kernel
theorem dX6_sideOf_91 : decode cX6_sideOf 91 = .ok (.iload 4, 2) := by decide +kernel
theorem dX6_sideOf_93 : decode cX6_sideOf 93 = .ok (.iand, 1) := by decide +kernel
theorem dX6_sideOf_94 : decode cX6_sideOf 94 = .ok (.istore_n 3, 1) := by decide +kernel
theorem dX6_sideOf_95 : decode cX6_sideOf 95 = .ok (.iinc 4 1, 3) := by decide +kernel
theorem dX6_sideOf_98 : decode cX6_sideOf 98 = .ok (.goto (-88), 3) := by decide +kernel
theorem dX6_sideOf_101 : decode cX6_sideOf 101 = .ok (.iload_n 3, 1) := by decide +kernel
theorem dX6_sideOf_102 : decode cX6_sideOf 102 = .ok (.ireturn, 1) := by decide +kernel
theorem dX6_tree_0 : decode cX6_tree 0 = .ok (.iconst 0, 1) := by decide +kernel
theorem dX6_tree_1 : decode cX6_tree 1 = .ok (.istore_n 1, 1) := by decide +kernel
theorem dX6_tree_2 : decode cX6_tree 2 = .ok (.iload_n 1, 1) := by decide +kernel
theorem dX6_tree_3 : decode cX6_tree 3 = .ok (.aload_n 0, 1) := by decide +kernel
theorem dX6_tree_4 : decode cX6_tree 4 = .ok (.getfield 60, 3) := by decide +kernel
theorem dX6_tree_7 : decode cX6_tree 7 = .ok (.if_icmp .ge 16, 3) := by decide +kernel
theorem dX6_tree_10 : decode cX6_tree 10 = .ok (.aload_n 0, 1) := by decide +kernel
theorem dX6_tree_11 : decode cX6_tree 11 = .ok (.getfield 32, 3) := by decide +kernel
theorem dX6_tree_14 : decode cX6_tree 14 = .ok (.iload_n 1, 1) := by decide +kernel
theorem dX6_tree_15 : decode cX6_tree 15 = .ok (.iconst 0, 1) := by decide +kernel
theorem dX6_tree_16 : decode cX6_tree 16 = .ok (.iastore, 1) := by decide +kernel
theorem dX6_tree_17 : decode cX6_tree 17 = .ok (.iinc 1 1, 3) := by decide +kernel
theorem dX6_tree_20 : decode cX6_tree 20 = .ok (.goto (-18), 3) := by decide +kernel
theorem dX6_tree_23 : decode cX6_tree 23 = .ok (.iconst 1, 1) := by decide +kernel
theorem dX6_tree_24 : decode cX6_tree 24 = .ok (.istore_n 1, 1) := by decide +kernel
theorem dX6_tree_25 : decode cX6_tree 25 = .ok (.iload_n 1, 1) := by decide +kernel
theorem dX6_tree_26 : decode cX6_tree 26 = .ok (.aload_n 0, 1) := by decide +kernel
theorem dX6_tree_27 : decode cX6_tree 27 = .ok (.getfield 60, 3) := by decide +kernel
theorem dX6_tree_30 : decode cX6_tree 30 = .ok (.if_icmp .ge 82, 3) := by decide +kernel
theorem dX6_tree_33 : decode cX6_tree 33 = .ok (.aload_n 0, 1) := by decide +kernel
theorem dX6_tree_34 : decode cX6_tree 34 = .ok (.getfield 32, 3) := by decide +kernel
theorem dX6_tree_37 : decode cX6_tree 37 = .ok (.iload_n 1, 1) := by decide +kernel
theorem dX6_tree_38 : decode cX6_tree 38 = .ok (.iaload, 1) := by decide +kernel
theorem dX6_tree_39 : decode cX6_tree 39 = .ok (.istore_n 2, 1) := by decide +kernel
theorem dX6_tree_40 : decode cX6_tree 40 = .ok (.aload_n 0, 1) := by decide +kernel
theorem dX6_tree_41 : decode cX6_tree 41 = .ok (.iload_n 1, 1) := by decide +kernel
theorem dX6_tree_42 : decode cX6_tree 42 = .ok (.iload_n 2, 1) := by decide +kernel
theorem dX6_tree_43 : decode cX6_tree 43 = .ok (.invokevirtual 90, 3) := by decide +kernel
theorem dX6_tree_46 : decode cX6_tree 46 = .ok (.istore_n 3, 1) := by decide +kernel
theorem dX6_tree_47 : decode cX6_tree 47 = .ok (.aload_n 0, 1) := by decide +kernel
theorem dX6_tree_48 : decode cX6_tree 48 = .ok (.getfield 35, 3) := by decide +kernel
theorem dX6_tree_51 : decode cX6_tree 51 = .ok (.iload_n 1, 1) := by decide +kernel
theorem dX6_tree_52 : decode cX6_tree 52 = .ok (.aload_n 0, 1) := by decide +kernel
theorem dX6_tree_53 : decode cX6_tree 53 = .ok (.getfield 87, 3) := by decide +kernel
theorem dX6_tree_56 : decode cX6_tree 56 = .ok (.iastore, 1) := by decide +kernel
theorem dX6_tree_57 : decode cX6_tree 57 = .ok (.iload_n 1, 1) := by decide +kernel
theorem dX6_tree_58 : decode cX6_tree 58 = .ok (.iconst 1, 1) := by decide +kernel
theorem dX6_tree_59 : decode cX6_tree 59 = .ok (.iadd, 1) := by decide +kernel
theorem dX6_tree_60 : decode cX6_tree 60 = .ok (.istore 4, 2) := by decide +kernel
theorem dX6_tree_62 : decode cX6_tree 62 = .ok (.iload 4, 2) := by decide +kernel
theorem dX6_tree_64 : decode cX6_tree 64 = .ok (.aload_n 0, 1) := by decide +kernel
theorem dX6_tree_65 : decode cX6_tree 65 = .ok (.getfield 60, 3) := by decide +kernel
theorem dX6_tree_68 : decode cX6_tree 68 = .ok (.if_icmp .ge 38, 3) := by decide +kernel
theorem dX6_tree_71 : decode cX6_tree 71 = .ok (.aload_n 0, 1) := by decide +kernel
theorem dX6_tree_72 : decode cX6_tree 72 = .ok (.getfield 32, 3) := by decide +kernel
theorem dX6_tree_75 : decode cX6_tree 75 = .ok (.iload 4, 2) := by decide +kernel
theorem dX6_tree_77 : decode cX6_tree 77 = .ok (.iaload, 1) := by decide +kernel
theorem dX6_tree_78 : decode cX6_tree 78 = .ok (.iload_n 2, 1) := by decide +kernel
theorem dX6_tree_79 : decode cX6_tree 79 = .ok (.if_icmp .ne 21, 3) := by decide +kernel
theorem dX6_tree_82 : decode cX6_tree 82 = .ok (.iload_n 3, 1) := by decide +kernel
theorem dX6_tree_83 : decode cX6_tree 83 = .ok (.iload 4, 2) := by decide +kernel
theorem dX6_tree_85 : decode cX6_tree 85 = .ok (.ishr, 1) := by decide +kernel
theorem dX6_tree_86 : decode cX6_tree 86 = .ok (.iconst 1, 1) := by decide +kernel
theorem dX6_tree_87 : decode cX6_tree 87 = .ok (.iand, 1) := by decide +kernel
theorem dX6_tree_88 : decode cX6_tree 88 = .ok (.iconst 1, 1) := by decide +kernel
theorem dX6_tree_89 : decode cX6_tree 89 = .ok (.if_icmp .ne 11, 3) := by decide +kernel
theorem dX6_tree_92 : decode cX6_tree 92 = .ok (.aload_n 0, 1) := by decide +kernel
theorem dX6_tree_93 : decode cX6_tree 93 = .ok (.getfield 32, 3) := by decide +kernel
theorem dX6_tree_96 : decode cX6_tree 96 = .ok (.iload 4, 2) := by decide +kernel
theorem dX6_tree_98 : decode cX6_tree 98 = .ok (.iload_n 1, 1) := by decide +kernel
theorem dX6_tree_99 : decode cX6_tree 99 = .ok (.iastore, 1) := by decide +kernel
theorem dX6_tree_100 : decode cX6_tree 100 = .ok (.iinc 4 1, 3) := by decide +kernel
theorem dX6_tree_103 : decode cX6_tree 103 = .ok (.goto (-41), 3) := by decide +kernel
theorem dX6_tree_106 : decode cX6_tree 106 = .ok (.iinc 1 1, 3) := by decide +kernel
theorem dX6_tree_109 : decode cX6_tree 109 = .ok (.goto (-84), 3) := by decide +kernel
theorem dX6_tree_112 : decode cX6_tree 112 = .ok (.return_, 1) := by decide +kernel
theorem dX6_pair_0 : decode cX6_pair 0 = .ok (.aload_n 0, 1) := by decide +kernel
theorem dX6_pair_1 : decode cX6_pair 1 = .ok (.iload_n 1, 1) := by decide +kernel
theorem dX6_pair_2 : decode cX6_pair 2 = .ok (.iload_n 2, 1) := by decide +kernel
theorem dX6_pair_3 : decode cX6_pair 3 = .ok (.invokevirtual 67, 3) := by decide +kernel
theorem dX6_pair_6 : decode cX6_pair 6 = .ok (.ifCond .ne 5, 3) := by decide +kernel
theorem dX6_pair_9 : decode cX6_pair 9 = .ok (.iconst (-1), 1) := by decide +kernel
theorem dX6_pair_10 : decode cX6_pair 10 = .ok (.ireturn, 1) := by decide +kernel
theorem dX6_pair_11 : decode cX6_pair 11 = .ok (.aload_n 0, 1) := by decide +kernel
theorem dX6_pair_12 : decode cX6_pair 12 = .ok (.invokevirtual 84, 3) := by decide +kernel
theorem dX6_pair_15 : decode cX6_pair 15 = .ok (.aload_n 0, 1) := by decide +kernel
theorem dX6_pair_16 : decode cX6_pair 16 = .ok (.iload_n 1, 1) := by decide +kernel
theorem dX6_pair_17 : decode cX6_pair 17 = .ok (.iload_n 2, 1) := by decide +kernel
theorem dX6_pair_18 : decode cX6_pair 18 = .ok (.invokevirtual 90, 3) := by decide +kernel
theorem dX6_pair_21 : decode cX6_pair 21 = .ok (.istore_n 3, 1) := by decide +kernel
theorem dX6_pair_22 : decode cX6_pair 22 = .ok (.aload_n 0, 1) := by decide +kernel
theorem dX6_pair_23 : decode cX6_pair 23 = .ok (.getfield 87, 3) := by decide +kernel
theorem dX6_pair_26 : decode cX6_pair 26 = .ok (.ireturn, 1) := by decide +kernel
theorem dX6_side_0 : decode cX6_side 0 = .ok (.aload_n 0, 1) := by decide +kernel
theorem dX6_side_1 : decode cX6_side 1 = .ok (.iload_n 1, 1) := by decide +kernel
theorem dX6_side_2 : decode cX6_side 2 = .ok (.iload_n 2, 1) := by decide +kernel
theorem dX6_side_3 : decode cX6_side 3 = .ok (.invokevirtual 67, 3) := by decide +kernel
theorem dX6_side_6 : decode cX6_side 6 = .ok (.ifCond .ne 5, 3) := by decide +kernel
theorem dX6_side_9 : decode cX6_side 9 = .ok (.iconst (-1), 1) := by decide +kernel
theorem dX6_side_10 : decode cX6_side 10 = .ok (.ireturn, 1) := by decide +kernel
theorem dX6_side_11 : decode cX6_side 11 = .ok (.aload_n 0, 1) := by decide +kernel
theorem dX6_side_12 : decode cX6_side 12 = .ok (.invokevirtual 84, 3) := by decide +kernel
theorem dX6_side_15 : decode cX6_side 15 = .ok (.aload_n 0, 1) := by decide +kernel
theorem dX6_side_16 : decode cX6_side 16 = .ok (.iload_n 1, 1) := by decide +kernel
theorem dX6_side_17 : decode cX6_side 17 = .ok (.iload_n 2, 1) := by decide +kernel
theorem dX6_side_18 : decode cX6_side 18 = .ok (.invokevirtual 90, 3) := by decide +kernel
theorem dX6_side_21 : decode cX6_side 21 = .ok (.ireturn, 1) := by decide +kernel
theorem dX6_ofNode_0 : decode cX6_ofNode 0 = .ok (.iload_n 1, 1) := by decide +kernel
theorem dX6_ofNode_1 : decode cX6_ofNode 1 = .ok (.ifCond .lt 11, 3) := by decide +kernel
theorem dX6_ofNode_4 : decode cX6_ofNode 4 = .ok (.iload_n 1, 1) := by decide +kernel
theorem dX6_ofNode_5 : decode cX6_ofNode 5 = .ok (.aload_n 0, 1) := by decide +kernel
theorem dX6_ofNode_6 : decode cX6_ofNode 6 = .ok (.getfield 60, 3) := by decide +kernel
theorem dX6_ofNode_9 : decode cX6_ofNode 9 = .ok (.if_icmp .lt 5, 3) := by decide +kernel
theorem dX6_ofNode_12 : decode cX6_ofNode 12 = .ok (.iconst (-1), 1) := by decide +kernel
theorem dX6_ofNode_13 : decode cX6_ofNode 13 = .ok (.ireturn, 1) := by decide +kernel
theorem dX6_ofNode_14 : decode cX6_ofNode 14 = .ok (.aload_n 0, 1) := by decide +kernel
theorem dX6_ofNode_15 : decode cX6_ofNode 15 = .ok (.invokevirtual 84, 3) := by decide +kernel
theorem dX6_ofNode_18 : decode cX6_ofNode 18 = .ok (.iload_n 1, 1) := by decide +kernel
theorem dX6_ofNode_19 : decode cX6_ofNode 19 = .ok (.ifCond .ne 8, 3) := by decide +kernel
theorem dX6_ofNode_22 : decode cX6_ofNode 22 = .ok (.bipush (-3), 2) := by decide +kernel
theorem dX6_ofNode_24 : decode cX6_ofNode 24 = .ok (.goto 6, 3) := by decide +kernel
theorem dX6_ofNode_27 : decode cX6_ofNode 27 = .ok (.aload_n 2, 1) := by decide +kernel
theorem dX6_ofNode_28 : decode cX6_ofNode 28 = .ok (.iload_n 1, 1) := by decide +kernel
theorem dX6_ofNode_29 : decode cX6_ofNode 29 = .ok (.iaload, 1) := by decide +kernel
theorem dX6_ofNode_30 : decode cX6_ofNode 30 = .ok (.ireturn, 1) := by decide +kernel
theorem dX6_parent_0 : decode cX6_parent 0 = .ok (.aload_n 0, 1) := by decide +kernel
theorem dX6_parent_1 : decode cX6_parent 1 = .ok (.iload_n 1, 1) := by decide +kernel
theorem dX6_parent_2 : decode cX6_parent 2 = .ok (.aload_n 0, 1) := by decide +kernel
theorem dX6_parent_3 : decode cX6_parent 3 = .ok (.getfield 32, 3) := by decide +kernel
theorem dX6_parent_6 : decode cX6_parent 6 = .ok (.invokevirtual 94, 3) := by decide +kernel
theorem dX6_parent_9 : decode cX6_parent 9 = .ok (.ireturn, 1) := by decide +kernel
theorem dX6_branch_0 : decode cX6_branch 0 = .ok (.aload_n 0, 1) := by decide +kernel
theorem dX6_branch_1 : decode cX6_branch 1 = .ok (.iload_n 1, 1) := by decide +kernel
theorem dX6_branch_2 : decode cX6_branch 2 = .ok (.aload_n 0, 1) := by decide +kernel
theorem dX6_branch_3 : decode cX6_branch 3 = .ok (.getfield 35, 3) := by decide +kernel
theorem dX6_branch_6 : decode cX6_branch 6 = .ok (.invokevirtual 94, 3) := by decide +kernel
theorem dX6_branch_9 : decode cX6_branch 9 = .ok (.ireturn, 1) := by decide +kernel
theorem dX6_up_0 : decode cX6_up 0 = .ok (.iconst 1, 1) := by decide +kernel
theorem dX6_up_1 : decode cX6_up 1 = .ok (.iload_n 1, 1) := by decide +kernel
theorem dX6_up_2 : decode cX6_up 2 = .ok (.ishl, 1) := by decide +kernel
theorem dX6_up_3 : decode cX6_up 3 = .ok (.istore_n 2, 1) := by decide +kernel
theorem dX6_up_4 : decode cX6_up 4 = .ok (.iload_n 1, 1) := by decide +kernel
theorem dX6_up_5 : decode cX6_up 5 = .ok (.istore_n 3, 1) := by decide +kernel
theorem dX6_up_6 : decode cX6_up 6 = .ok (.iload_n 3, 1) := by decide +kernel
theorem dX6_up_7 : decode cX6_up 7 = .ok (.ifCond .le 19, 3) := by decide +kernel
theorem dX6_up_10 : decode cX6_up 10 = .ok (.aload_n 0, 1) := by decide +kernel
theorem dX6_up_11 : decode cX6_up 11 = .ok (.getfield 32, 3) := by decide +kernel
theorem dX6_up_14 : decode cX6_up 14 = .ok (.iload_n 3, 1) := by decide +kernel
theorem dX6_up_15 : decode cX6_up 15 = .ok (.iaload, 1) := by decide +kernel
theorem dX6_up_16 : decode cX6_up 16 = .ok (.istore_n 3, 1) := by decide +kernel
theorem dX6_up_17 : decode cX6_up 17 = .ok (.iload_n 2, 1) := by decide +kernel
theorem dX6_up_18 : decode cX6_up 18 = .ok (.iconst 1, 1) := by decide +kernel
theorem dX6_up_19 : decode cX6_up 19 = .ok (.iload_n 3, 1) := by decide +kernel
theorem dX6_up_20 : decode cX6_up 20 = .ok (.ishl, 1) := by decide +kernel
theorem dX6_up_21 : decode cX6_up 21 = .ok (.ior, 1) := by decide +kernel
theorem dX6_up_22 : decode cX6_up 22 = .ok (.istore_n 2, 1) := by decide +kernel
theorem dX6_up_23 : decode cX6_up 23 = .ok (.goto (-17), 3) := by decide +kernel
theorem dX6_up_26 : decode cX6_up 26 = .ok (.iload_n 2, 1) := by decide +kernel
theorem dX6_up_27 : decode cX6_up 27 = .ok (.ireturn, 1) := by decide +kernel
theorem dX6_way_0 : decode cX6_way 0 = .ok (.aload_n 0, 1) := by decide +kernel
theorem dX6_way_1 : decode cX6_way 1 = .ok (.iload_n 1, 1) := by decide +kernel
theorem dX6_way_2 : decode cX6_way 2 = .ok (.iload_n 2, 1) := by decide +kernel
theorem dX6_way_3 : decode cX6_way 3 = .ok (.invokevirtual 67, 3) := by decide +kernel
theorem dX6_way_6 : decode cX6_way 6 = .ok (.ifCond .ne 5, 3) := by decide +kernel
theorem dX6_way_9 : decode cX6_way 9 = .ok (.iconst (-1), 1) := by decide +kernel
theorem dX6_way_10 : decode cX6_way 10 = .ok (.ireturn, 1) := by decide +kernel
theorem dX6_way_11 : decode cX6_way 11 = .ok (.aload_n 0, 1) := by decide +kernel
theorem dX6_way_12 : decode cX6_way 12 = .ok (.invokevirtual 84, 3) := by decide +kernel
theorem dX6_way_15 : decode cX6_way 15 = .ok (.aload_n 0, 1) := by decide +kernel
theorem dX6_way_16 : decode cX6_way 16 = .ok (.iload_n 1, 1) := by decide +kernel
theorem dX6_way_17 : decode cX6_way 17 = .ok (.invokevirtual 98, 3) := by decide +kernel
theorem dX6_way_20 : decode cX6_way 20 = .ok (.aload_n 0, 1) := by decide +kernel
theorem dX6_way_21 : decode cX6_way 21 = .ok (.iload_n 2, 1) := by decide +kernel
theorem dX6_way_22 : decode cX6_way 22 = .ok (.invokevirtual 98, 3) := by decide +kernel
theorem dX6_way_25 : decode cX6_way 25 = .ok (.ixor, 1) := by decide +kernel
theorem dX6_way_26 : decode cX6_way 26 = .ok (.istore_n 3, 1) := by decide +kernel
theorem dX6_way_27 : decode cX6_way 27 = .ok (.ldc 102, 2) := by decide +kernel
theorem dX6_way_29 : decode cX6_way 29 = .ok (.istore 4, 2) := by decide +kernel
theorem dX6_way_31 : decode cX6_way 31 = .ok (.iconst 1, 1) := by decide +kernel
theorem dX6_way_32 : decode cX6_way 32 = .ok (.istore 5, 2) := by decide +kernel
theorem dX6_way_34 : decode cX6_way 34 = .ok (.iload 5, 2) := by decide +kernel
theorem dX6_way_36 : decode cX6_way 36 = .ok (.aload_n 0, 1) := by decide +kernel
theorem dX6_way_37 : decode cX6_way 37 = .ok (.getfield 60, 3) := by decide +kernel
theorem dX6_way_40 : decode cX6_way 40 = .ok (.if_icmp .ge 40, 3) := by decide +kernel
theorem dX6_way_43 : decode cX6_way 43 = .ok (.iload_n 3, 1) := by decide +kernel
theorem dX6_way_44 : decode cX6_way 44 = .ok (.iload 5, 2) := by decide +kernel
theorem dX6_way_46 : decode cX6_way 46 = .ok (.ishr, 1) := by decide +kernel
theorem dX6_way_47 : decode cX6_way 47 = .ok (.iconst 1, 1) := by decide +kernel
theorem dX6_way_48 : decode cX6_way 48 = .ok (.iand, 1) := by decide +kernel
theorem dX6_way_49 : decode cX6_way 49 = .ok (.iconst 1, 1) := by decide +kernel
theorem dX6_way_50 : decode cX6_way 50 = .ok (.if_icmp .ne 24, 3) := by decide +kernel
theorem dX6_way_53 : decode cX6_way 53 = .ok (.aload_n 0, 1) := by decide +kernel
theorem dX6_way_54 : decode cX6_way 54 = .ok (.getfield 35, 3) := by decide +kernel
theorem dX6_way_57 : decode cX6_way 57 = .ok (.iload 5, 2) := by decide +kernel
theorem dX6_way_59 : decode cX6_way 59 = .ok (.iaload, 1) := by decide +kernel
theorem dX6_way_60 : decode cX6_way 60 = .ok (.iload 4, 2) := by decide +kernel
theorem dX6_way_62 : decode cX6_way 62 = .ok (.if_icmp .ge 12, 3) := by decide +kernel
theorem dX6_way_65 : decode cX6_way 65 = .ok (.aload_n 0, 1) := by decide +kernel
theorem dX6_way_66 : decode cX6_way 66 = .ok (.getfield 35, 3) := by decide +kernel
theorem dX6_way_69 : decode cX6_way 69 = .ok (.iload 5, 2) := by decide +kernel
theorem dX6_way_71 : decode cX6_way 71 = .ok (.iaload, 1) := by decide +kernel
theorem dX6_way_72 : decode cX6_way 72 = .ok (.istore 4, 2) := by decide +kernel
theorem dX6_way_74 : decode cX6_way 74 = .ok (.iinc 5 1, 3) := by decide +kernel
theorem dX6_way_77 : decode cX6_way 77 = .ok (.goto (-43), 3) := by decide +kernel
theorem dX6_way_80 : decode cX6_way 80 = .ok (.iload 4, 2) := by decide +kernel
theorem dX6_way_82 : decode cX6_way 82 = .ok (.ireturn, 1) := by decide +kernel
theorem dX6_leastCut_0 : decode cX6_leastCut 0 = .ok (.aload_n 0, 1) := by decide +kernel
theorem dX6_leastCut_1 : decode cX6_leastCut 1 = .ok (.invokevirtual 84, 3) := by decide +kernel
theorem dX6_leastCut_4 : decode cX6_leastCut 4 = .ok (.iconst (-1), 1) := by decide +kernel
theorem dX6_leastCut_5 : decode cX6_leastCut 5 = .ok (.istore_n 1, 1) := by decide +kernel
theorem dX6_leastCut_6 : decode cX6_leastCut 6 = .ok (.iconst 1, 1) := by decide +kernel
theorem dX6_leastCut_7 : decode cX6_leastCut 7 = .ok (.istore_n 2, 1) := by decide +kernel
theorem dX6_leastCut_8 : decode cX6_leastCut 8 = .ok (.iload_n 2, 1) := by decide +kernel
theorem dX6_leastCut_9 : decode cX6_leastCut 9 = .ok (.aload_n 0, 1) := by decide +kernel
theorem dX6_leastCut_10 : decode cX6_leastCut 10 = .ok (.invokevirtual 77, 3) := by decide +kernel
theorem dX6_leastCut_13 : decode cX6_leastCut 13 = .ok (.if_icmp .ge 30, 3) := by decide +kernel
theorem dX6_leastCut_16 : decode cX6_leastCut 16 = .ok (.iload_n 1, 1) := by decide +kernel
theorem dX6_leastCut_17 : decode cX6_leastCut 17 = .ok (.ifCond .lt 13, 3) := by decide +kernel
theorem dX6_leastCut_20 : decode cX6_leastCut 20 = .ok (.aload_n 0, 1) := by decide +kernel
theorem dX6_leastCut_21 : decode cX6_leastCut 21 = .ok (.getfield 29, 3) := by decide +kernel
theorem dX6_leastCut_24 : decode cX6_leastCut 24 = .ok (.iload_n 2, 1) := by decide +kernel
theorem dX6_leastCut_25 : decode cX6_leastCut 25 = .ok (.iaload, 1) := by decide +kernel
theorem dX6_leastCut_26 : decode cX6_leastCut 26 = .ok (.iload_n 1, 1) := by decide +kernel
theorem dX6_leastCut_27 : decode cX6_leastCut 27 = .ok (.if_icmp .ge 10, 3) := by decide +kernel
theorem dX6_leastCut_30 : decode cX6_leastCut 30 = .ok (.aload_n 0, 1) := by decide +kernel
theorem dX6_leastCut_31 : decode cX6_leastCut 31 = .ok (.getfield 29, 3) := by decide +kernel
theorem dX6_leastCut_34 : decode cX6_leastCut 34 = .ok (.iload_n 2, 1) := by decide +kernel
theorem dX6_leastCut_35 : decode cX6_leastCut 35 = .ok (.iaload, 1) := by decide +kernel
theorem dX6_leastCut_36 : decode cX6_leastCut 36 = .ok (.istore_n 1, 1) := by decide +kernel
theorem dX6_leastCut_37 : decode cX6_leastCut 37 = .ok (.iinc 2 1, 3) := by decide +kernel
theorem dX6_leastCut_40 : decode cX6_leastCut 40 = .ok (.goto (-32), 3) := by decide +kernel
theorem dX6_leastCut_43 : decode cX6_leastCut 43 = .ok (.iload_n 1, 1) := by decide +kernel
theorem dX6_leastCut_44 : decode cX6_leastCut 44 = .ok (.ireturn, 1) := by decide +kernel
